theorem dX9_goes_408 : decode cX9_goes 408 = .ok (.dup2, 1) := by decide +kernel
theorem dX9_goes_409 : decode cX9_goes 409 = .ok (.iaload, 1) := by decide +kernel
theorem dX9_goes_410 : decode cX9_goes 410 = .ok (.iload 6, 2) := by decide +kernel
theorem dX9_goes_412 : decode cX9_goes 412 = .ok (.iload 8, 2) := by decide +kernel
theorem dX9_goes_414 : decode cX9_goes 414 = .ok (.ishr, 1) := by decide +kernel
theorem dX9_goes_415 : decode cX9_goes 415 = .ok (.iconst 1, 1) := by decide +kernel
theorem dX9_goes_416 : decode cX9_goes 416 = .ok (.iand, 1) := by decide +kernel
theorem dX9_goes_417 : decode cX9_goes 417 = .ok (.ifCond .ne 17, 3) := by decide +kernel
theorem dX9_goes_420 : decode cX9_goes 420 = .ok (.aload_n 0, 1) := by decide +kernel
theorem dX9_goes_421 : decode cX9_goes 421 = .ok (.iload 8, 2) := by decide +kernel
theorem dX9_goes_423 : decode cX9_goes 423 = .ok (.invokevirtual 95, 3) := by decide +kernel
theorem dX9_goes_426 : decode cX9_goes 426 = .ok (.iconst (-1), 1) := by decide +kernel
theorem dX9_goes_427 : decode cX9_goes 427 = .ok (.if_icmp .eq 7, 3) := by decide +kernel
theorem dX9_goes_430 : decode cX9_goes 430 = .ok (.iconst 1, 1) := by decide +kernel
theorem dX9_goes_431 : decode cX9_goes 431 = .ok (.goto 4, 3) := by decide +kernel
theorem dX9_goes_434 : decode cX9_goes 434 = .ok (.iconst 0, 1) := by decide +kernel
theorem dX9_goes_435 : decode cX9_goes 435 = .ok (.iadd, 1) := by decide +kernel
theorem dX9_goes_436 : decode cX9_goes 436 = .ok (.iastore, 1) := by decide +kernel
theorem dX9_goes_437 : decode cX9_goes 437 = .ok (.iload 6, 2) := by decide +kernel
theorem dX9_goes_439 : decode cX9_goes 439 = .ok (.iconst 1, 1) := by decide +kernel
theorem dX9_goes_440 : decode cX9_goes 440 = .ok (.iload 8, 2) := by decide +kernel
theorem dX9_goes_442 : decode cX9_goes 442 = .ok (.ishl, 1) := by decide +kernel
theorem dX9_goes_443 : decode cX9_goes 443 = .ok (.ior, 1) := by decide +kernel
theorem dX9_goes_444 : decode cX9_goes 444 = .ok (.istore 6, 2) := by decide +kernel
theorem dX9_goes_446 : decode cX9_goes 446 = .ok (.iinc 7 1, 3) := by decide +kernel
theorem dX9_goes_449 : decode cX9_goes 449 = .ok (.goto (-78), 3) := by decide +kernel
theorem dX9_goes_452 : decode cX9_goes 452 = .ok (.aload_n 0, 1) := by decide +kernel
theorem dX9_goes_453 : decode cX9_goes 453 = .ok (.getfield 7, 3) := by decide +kernel
theorem dX9_goes_456 : decode cX9_goes 456 = .ok (.sipush 304, 3) := by decide +kernel
theorem dX9_goes_459 : decode cX9_goes 459 = .ok (.dup2, 1) := by decide +kernel
theorem dX9_goes_460 : decode cX9_goes 460 = .ok (.iaload, 1) := by decide +kernel
theorem dX9_goes_461 : decode cX9_goes 461 = .ok (.iconst 1, 1) := by decide +kernel
theorem dX9_goes_462 : decode cX9_goes 462 = .ok (.isub, 1) := by decide +kernel
theorem dX9_goes_463 : decode cX9_goes 463 = .ok (.iastore, 1) := by decide +kernel
theorem dX9_goes_464 : decode cX9_goes 464 = .ok (.bipush 14, 2) := by decide +kernel
theorem dX9_goes_466 : decode cX9_goes 466 = .ok (.iload_n 1, 1) := by decide +kernel
theorem dX9_goes_467 : decode cX9_goes 467 = .ok (.imul, 1) := by decide +kernel
theorem dX9_goes_468 : decode cX9_goes 468 = .ok (.istore 6, 2) := by decide +kernel
theorem dX9_goes_470 : decode cX9_goes 470 = .ok (.iload 6, 2) := by decide +kernel
theorem dX9_goes_472 : decode cX9_goes 472 = .ok (.bipush 14, 2) := by decide +kernel
theorem dX9_goes_474 : decode cX9_goes 474 = .ok (.aload_n 0, 1) := by decide +kernel
theorem dX9_goes_475 : decode cX9_goes 475 = .ok (.getfield 7, 3) := by decide +kernel
theorem dX9_goes_478 : decode cX9_goes 478 = .ok (.sipush 304, 3) := by decide +kernel
theorem dX9_goes_481 : decode cX9_goes 481 = .ok (.iaload, 1) := by decide +kernel
theorem dX9_goes_482 : decode cX9_goes 482 = .ok (.imul, 1) := by decide +kernel
theorem dX9_goes_483 : decode cX9_goes 483 = .ok (.if_icmp .ge 34, 3) := by decide +kernel
theorem dX9_goes_486 : decode cX9_goes 486 = .ok (.aload_n 0, 1) := by decide +kernel
theorem dX9_goes_487 : decode cX9_goes 487 = .ok (.getfield 7, 3) := by decide +kernel
theorem dX9_goes_490 : decode cX9_goes 490 = .ok (.sipush 192, 3) := by decide +kernel
theorem dX9_goes_493 : decode cX9_goes 493 = .ok (.iload 6, 2) := by decide +kernel
theorem dX9_goes_495 : decode cX9_goes 495 = .ok (.iadd, 1) := by decide +kernel
theorem dX9_goes_496 : decode cX9_goes 496 = .ok (.aload_n 0, 1) := by decide +kernel
theorem dX9_goes_497 : decode cX9_goes 497 = .ok (.getfield 7, 3) := by decide +kernel
theorem dX9_goes_500 : decode cX9_goes 500 = .ok (.sipush 192, 3) := by decide +kernel
theorem dX9_goes_503 : decode cX9_goes 503 = .ok (.iload 6, 2) := by decide +kernel
theorem dX9_goes_505 : decode cX9_goes 505 = .ok (.iadd, 1) := by decide +kernel
theorem dX9_goes_506 : decode cX9_goes 506 = .ok (.bipush 14, 2) := by decide +kernel
theorem dX9_goes_508 : decode cX9_goes 508 = .ok (.iadd, 1) := by decide +kernel
theorem dX9_goes_509 : decode cX9_goes 509 = .ok (.iaload, 1) := by decide +kernel
theorem dX9_goes_510 : decode cX9_goes 510 = .ok (.iastore, 1) := by decide +kernel
theorem dX9_goes_511 : decode cX9_goes 511 = .ok (.iinc 6 1, 3) := by decide +kernel
theorem dX9_goes_514 : decode cX9_goes 514 = .ok (.goto (-44), 3) := by decide +kernel
theorem dX9_goes_517 : decode cX9_goes 517 = .ok (.return_, 1) := by decide +kernel
set_option maxRecDepth 20000 in
theorem ggX9_go_X9_refused : GoodIn wsX9_go wsX9_refused := goodIn_r _ [6, 7, 52, 53, 54, 55, 56, 57, 58, 59, 60, 61, 62, 63, 64, 65, 66, 67, 68, 69, 70, 71, 72, 73] (by decide +kernel) (by decide +kernel)
set_option maxRecDepth 20000 in
theorem gX9_go_X9_refused : GoodIn wsX9_go (wsV RX9 53 RX9 yX9_refused wsX9_refused) := goodIn_app (goodIn_of _ (by decide +kernel)) ggX9_go_X9_refused
set_option maxRecDepth 20000 in
theorem ggX9_go_X9_saves : GoodIn wsX9_go wsX9_saves := goodIn_r _ [11, 12, 13, 1, 52, 53, 54, 55, 56, 57, 58, 59, 60, 61, 62, 63, 64, 65, 66, 67, 68, 69, 70, 71, 72, 73] (by decide +kernel) (by decide +kernel)
set_option maxRecDepth 20000 in
theorem gX9_go_X9_saves : GoodIn wsX9_go (wsV RX9 56 RX9 yX9_saves wsX9_saves) := goodIn_app (goodIn_of _ (by decide +kernel)) ggX9_go_X9_saves
set_option maxRecDepth 20000 in
theorem ggX9_go_X9_goes : GoodIn wsX9_go wsX9_goes := goodIn_r _ [17, 1, 18, 19, 20, 21, 22, 23, 24, 25, 5, 26, 27, 28, 29, 30, 31, 32, 33, 34, 35, 36, 37, 38, 39, 40, 41, 42, 43, 44, 45, 46, 47, 48, 49, 50, 51, 52, 53, 54, 55, 56, 57, 58, 59, 60, 61, 62, 63, 64, 65, 66, 67, 68, 69, 70, 71, 72, 73] (by decide +kernel) (by decide +kernel)
set_option maxRecDepth 20000 in
theorem gX9_go_X9_goes : GoodIn wsX9_go (wsV RX9 98 RX9 yX9_goes wsX9_goes) := goodIn_app (goodIn_of _ (by decide +kernel)) ggX9_go_X9_goes
theorem dX9_go_0 : decode cX9_go 0 = .ok (.aload_n 0, 1) := by decide +kernel
theorem dX9_go_1 : decode cX9_go 1 = .ok (.aload_n 0, 1) := by decide +kernel
theorem dX9_go_2 : decode cX9_go 2 = .ok (.getfield 7, 3) := by decide +kernel
theorem dX9_go_5 : decode cX9_go 5 = .ok (.sipush 304, 3) := by decide +kernel
theorem dX9_go_8 : decode cX9_go 8 = .ok (.iaload, 1) := by decide +kernel
theorem dX9_go_9 : decode cX9_go 9 = .ok (.ifCond .ne 7, 3) := by decide +kernel
theorem dX9_go_12 : decode cX9_go 12 = .ok (.iconst 1, 1) := by decide +kernel
theorem dX9_go_13 : decode cX9_go 13 = .ok (.goto 4, 3) := by decide +kernel
theorem dX9_go_16 : decode cX9_go 16 = .ok (.iconst 0, 1) := by decide +kernel
theorem dX9_go_17 : decode cX9_go 17 = .ok (.invokevirtual 53, 3) := by decide +kernel
theorem dX9_go_20 : decode cX9_go 20 = .ok (.ifCond .eq 5, 3) := by decide +kernel
theorem dX9_go_23 : decode cX9_go 23 = .ok (.iconst 0, 1) := by decide +kernel
theorem dX9_go_24 : decode cX9_go 24 = .ok (.ireturn, 1) := by decide +kernel
theorem dX9_go_25 : decode cX9_go 25 = .ok (.aload_n 0, 1) := by decide +kernel
theorem dX9_go_26 : decode cX9_go 26 = .ok (.invokevirtual 56, 3) := by decide +kernel
theorem dX9_go_29 : decode cX9_go 29 = .ok (.aload_n 0, 1) := by decide +kernel
theorem dX9_go_30 : decode cX9_go 30 = .ok (.invokevirtual 98, 3) := by decide +kernel
theorem dX9_go_33 : decode cX9_go 33 = .ok (.aload_n 0, 1) := by decide +kernel
theorem dX9_go_34 : decode cX9_go 34 = .ok (.getfield 7, 3) := by decide +kernel
theorem dX9_go_37 : decode cX9_go 37 = .ok (.sipush 306, 3) := by decide +kernel
theorem dX9_go_40 : decode cX9_go 40 = .ok (.iaload, 1) := by decide +kernel
theorem dX9_go_41 : decode cX9_go 41 = .ok (.ireturn, 1) := by decide +kernel
set_option maxRecDepth 20000 in
theorem ggX9_append_X9_in : GoodIn wsX9_append wsX9_in := goodIn_r _ [6] (by decide +kernel) (by decide +kernel)
set_option maxRecDepth 20000 in
theorem gX9_append_X9_in : GoodIn wsX9_append (va_wsS RX9 35 yX9_in wsX9_in) := goodIn_app (goodIn_of _ (by decide +kernel)) ggX9_append_X9_in
set_option maxRecDepth 20000 in
theorem ggX9_append_X9_refused : GoodIn wsX9_append wsX9_refused := goodIn_r _ [10, 11, 12, 13, 14, 15, 16, 17, 18, 19, 20, 21, 22, 23, 24, 25, 26, 27, 28, 29, 30, 31, 32, 33] (by decide +kernel) (by decide +kernel)
set_option maxRecDepth 20000 in
theorem gX9_append_X9_refused : GoodIn wsX9_append (wsV RX9 53 RX9 yX9_refused wsX9_refused) := goodIn_app (goodIn_of _ (by decide +kernel)) ggX9_append_X9_refused
theorem dX9_append_0 : decode cX9_append 0 = .ok (.aload_n 0, 1) := by decide +kernel
theorem dX9_append_1 : decode cX9_append 1 = .ok (.iload_n 1, 1) := by decide +kernel
theorem dX9_append_2 : decode cX9_append 2 = .ok (.bipush 33, 2) := by decide +kernel
theorem dX9_append_4 : decode cX9_append 4 = .ok (.bipush 126, 2) := by decide +kernel
theorem dX9_append_6 : decode cX9_append 6 = .ok (.invokestatic 35, 3) := by decide +kernel
theorem dX9_append_9 : decode cX9_append 9 = .ok (.ifCond .ne 7, 3) := by decide +kernel
theorem dX9_append_12 : decode cX9_append 12 = .ok (.iconst 1, 1) := by decide +kernel
theorem dX9_append_13 : decode cX9_append 13 = .ok (.goto 17, 3) := by decide +kernel
theorem dX9_append_16 : decode cX9_append 16 = .ok (.aload_n 0, 1) := by decide +kernel
theorem dX9_append_17 : decode cX9_append 17 = .ok (.getfield 101, 3) := by decide +kernel
theorem dX9_append_20 : decode cX9_append 20 = .ok (.bipush 60, 2) := by decide +kernel
theorem dX9_append_22 : decode cX9_append 22 = .ok (.if_icmp .ne 7, 3) := by decide +kernel
theorem dX9_append_25 : decode cX9_append 25 = .ok (.iconst 2, 1) := by decide +kernel
theorem dX9_append_26 : decode cX9_append 26 = .ok (.goto 4, 3) := by decide +kernel
theorem dX9_append_29 : decode cX9_append 29 = .ok (.iconst 0, 1) := by decide +kernel
theorem dX9_append_30 : decode cX9_append 30 = .ok (.invokevirtual 53, 3) := by decide +kernel
theorem dX9_append_33 : decode cX9_append 33 = .ok (.ifCond .eq 5, 3) := by decide +kernel
theorem dX9_append_36 : decode cX9_append 36 = .ok (.iconst 0, 1) := by decide +kernel
theorem dX9_append_37 : decode cX9_append 37 = .ok (.ireturn, 1) := by decide +kernel
theorem dX9_append_38 : decode cX9_append 38 = .ok (.aload_n 0, 1) := by decide +kernel
theorem dX9_append_39 : decode cX9_append 39 = .ok (.getfield 19, 3) := by decide +kernel
theorem dX9_append_42 : decode cX9_append 42 = .ok (.aload_n 0, 1) := by decide +kernel
theorem dX9_append_43 : decode cX9_append 43 = .ok (.getfield 101, 3) := by decide +kernel
theorem dX9_append_46 : decode cX9_append 46 = .ok (.iload_n 1, 1) := by decide +kernel
theorem dX9_append_47 : decode cX9_append 47 = .ok (.iastore, 1) := by decide +kernel
theorem dX9_append_48 : decode cX9_append 48 = .ok (.aload_n 0, 1) := by decide +kernel
theorem dX9_append_49 : decode cX9_append 49 = .ok (.dup, 1) := by decide +kernel
theorem dX9_append_50 : decode cX9_append 50 = .ok (.getfield 101, 3) := by decide +kernel
theorem dX9_append_53 : decode cX9_append 53 = .ok (.iconst 1, 1) := by decide +kernel
theorem dX9_append_54 : decode cX9_append 54 = .ok (.iadd, 1) := by decide +kernel
theorem dX9_append_55 : decode cX9_append 55 = .ok (.putfield 101, 3) := by decide +kernel
theorem dX9_append_58 : decode cX9_append 58 = .ok (.aload_n 0, 1) := by decide +kernel
theorem dX9_append_59 : decode cX9_append 59 = .ok (.getfield 101, 3) := by decide +kernel
theorem dX9_append_62 : decode cX9_append 62 = .ok (.ireturn, 1) := by decide +kernel
theorem dX9_clearBuffer_0 : decode cX9_clearBuffer 0 = .ok (.aload_n 0, 1) := by decide +kernel
theorem dX9_clearBuffer_1 : decode cX9_clearBuffer 1 = .ok (.iconst 0, 1) := by decide +kernel
theorem dX9_clearBuffer_2 : decode cX9_clearBuffer 2 = .ok (.putfield 31, 3) := by decide +kernel
theorem dX9_clearBuffer_5 : decode cX9_clearBuffer 5 = .ok (.aload_n 0, 1) := by decide +kernel
theorem dX9_clearBuffer_6 : decode cX9_clearBuffer 6 = .ok (.getfield 101, 3) := by decide +kernel
theorem dX9_clearBuffer_9 : decode cX9_clearBuffer 9 = .ok (.istore_n 1, 1) := by decide +kernel
theorem dX9_clearBuffer_10 : decode cX9_clearBuffer 10 = .ok (.aload_n 0, 1) := by decide +kernel
theorem dX9_clearBuffer_11 : decode cX9_clearBuffer 11 = .ok (.iconst 0, 1) := by decide +kernel
theorem dX9_clearBuffer_12 : decode cX9_clearBuffer 12 = .ok (.putfield 101, 3) := by decide +kernel
theorem dX9_clearBuffer_15 : decode cX9_clearBuffer 15 = .ok (.iload_n 1, 1) := by decide +kernel
theorem dX9_clearBuffer_16 : decode cX9_clearBuffer 16 = .ok (.ireturn, 1) := by decide +kernel
theorem dX9_next_0 : decode cX9_next 0 = .ok (.aload_n 0, 1) := by decide +kernel
theorem dX9_next_1 : decode cX9_next 1 = .ok (.getfield 104, 3) := by decide +kernel
theorem dX9_next_4 : decode cX9_next 4 = .ok (.aload_n 0, 1) := by decide +kernel
theorem dX9_next_5 : decode cX9_next 5 = .ok (.getfield 101, 3) := by decide +kernel
theorem dX9_next_8 : decode cX9_next 8 = .ok (.if_icmp .ge 15, 3) := by decide +kernel
theorem dX9_next_11 : decode cX9_next 11 = .ok (.aload_n 0, 1) := by decide +kernel
theorem dX9_next_12 : decode cX9_next 12 = .ok (.getfield 19, 3) := by decide +kernel
theorem dX9_next_15 : decode cX9_next 15 = .ok (.aload_n 0, 1) := by decide +kernel
theorem dX9_next_16 : decode cX9_next 16 = .ok (.getfield 104, 3) := by decide +kernel
theorem dX9_next_19 : decode cX9_next 19 = .ok (.iaload, 1) := by decide +kernel
theorem dX9_next_20 : decode cX9_next 20 = .ok (.goto 4, 3) := by decide +kernel
theorem dX9_next_23 : decode cX9_next 23 = .ok (.iconst 0, 1) := by decide +kernel
theorem dX9_next_24 : decode cX9_next 24 = .ok (.ireturn, 1) := by decide +kernel
set_option maxRecDepth 20000 in
theorem ggX9_sign_X9_next : GoodIn wsX9_sign wsX9_next := goodIn_r _ [7, 2, 8, 9, 10, 11, 12, 13, 14, 15, 16, 17, 18, 19, 20, 21, 22, 23, 24, 25, 26, 27, 28, 29, 30, 31] (by decide +kernel) (by decide +kernel)
set_option maxRecDepth 20000 in
theorem gX9_sign_X9_next : GoodIn wsX9_sign (wsV RX9 110 RX9 yX9_next wsX9_next) := goodIn_app (goodIn_of _ (by decide +kernel)) ggX9_sign_X9_next
theorem dX9_sign_0 : decode cX9_sign 0 = .ok (.aload_n 0, 1) := by decide +kernel
theorem dX9_sign_1 : decode cX9_sign 1 = .ok (.aload_n 0, 1) := by decide +kernel
theorem dX9_sign_2 : decode cX9_sign 2 = .ok (.getfield 107, 3) := by decide +kernel
theorem dX9_sign_5 : decode cX9_sign 5 = .ok (.ifCond .ne 11, 3) := by decide +kernel
theorem dX9_sign_8 : decode cX9_sign 8 = .ok (.aload_n 0, 1) := by decide +kernel
theorem dX9_sign_9 : decode cX9_sign 9 = .ok (.invokevirtual 110, 3) := by decide +kernel
theorem dX9_sign_12 : decode cX9_sign 12 = .ok (.iload_n 1, 1) := by decide +kernel
theorem dX9_sign_13 : decode cX9_sign 13 = .ok (.if_icmp .eq 7, 3) := by decide +kernel
theorem dX9_sign_16 : decode cX9_sign 16 = .ok (.iconst 1, 1) := by decide +kernel
theorem dX9_sign_17 : decode cX9_sign 17 = .ok (.goto 4, 3) := by decide +kernel
theorem dX9_sign_20 : decode cX9_sign 20 = .ok (.iconst 0, 1) := by decide +kernel
theorem dX9_sign_21 : decode cX9_sign 21 = .ok (.putfield 107, 3) := by decide +kernel
theorem dX9_sign_24 : decode cX9_sign 24 = .ok (.aload_n 0, 1) := by decide +kernel
theorem dX9_sign_25 : decode cX9_sign 25 = .ok (.dup, 1) := by decide +kernel
theorem dX9_sign_26 : decode cX9_sign 26 = .ok (.getfield 104, 3) := by decide +kernel
theorem dX9_sign_29 : decode cX9_sign 29 = .ok (.aload_n 0, 1) := by decide +kernel
theorem dX9_sign_30 : decode cX9_sign 30 = .ok (.getfield 107, 3) := by decide +kernel
theorem dX9_sign_33 : decode cX9_sign 33 = .ok (.ifCond .eq 7, 3) := by decide +kernel
theorem dX9_sign_36 : decode cX9_sign 36 = .ok (.iconst 0, 1) := by decide +kernel
theorem dX9_sign_37 : decode cX9_sign 37 = .ok (.goto 4, 3) := by decide +kernel
theorem dX9_sign_40 : decode cX9_sign 40 = .ok (.iconst 1, 1) := by decide +kernel
theorem dX9_sign_41 : decode cX9_sign 41 = .ok (.iadd, 1) := by decide +kernel
theorem dX9_sign_42 : decode cX9_sign 42 = .ok (.putfield 104, 3) := by decide +kernel
theorem dX9_sign_45 : decode cX9_sign 45 = .ok (.return_, 1) := by decide +kernel
set_option maxRecDepth 20000 in
theorem ggX9_digit_X9_next : GoodIn wsX9_digit wsX9_next := goodIn_r _ [7, 2, 8, 9, 13, 14, 15, 16, 17, 18, 19, 20, 21, 22, 23, 24, 25, 26, 27, 28, 29, 30, 31, 32, 33, 34] (by decide +kernel) (by decide +kernel)
set_option maxRecDepth 20000 in
theorem gX9_digit_X9_next : GoodIn wsX9_digit (wsV RX9 110 RX9 yX9_next wsX9_next) := goodIn_app (goodIn_of _ (by decide +kernel)) ggX9_digit_X9_next
set_option maxRecDepth 20000 in
theorem ggX9_digit_X9_in : GoodIn wsX9_digit wsX9_in := goodIn_r _ [12] (by decide +kernel) (by decide +kernel)
set_option maxRecDepth 20000 in
theorem gX9_digit_X9_in : GoodIn wsX9_digit (va_wsS RX9 35 yX9_in wsX9_in) := goodIn_app (goodIn_of _ (by decide +kernel)) ggX9_digit_X9_in
theorem dX9_digit_0 : decode cX9_digit 0 = .ok (.aload_n 0, 1) := by decide +kernel
theorem dX9_digit_1 : decode cX9_digit 1 = .ok (.invokevirtual 110, 3) := by decide +kernel
theorem dX9_digit_4 : decode cX9_digit 4 = .ok (.bipush 48, 2) := by decide +kernel
theorem dX9_digit_6 : decode cX9_digit 6 = .ok (.isub, 1) := by decide +kernel
theorem dX9_digit_7 : decode cX9_digit 7 = .ok (.istore_n 3, 1) := by decide +kernel
theorem dX9_digit_8 : decode cX9_digit 8 = .ok (.aload_n 0, 1) := by decide +kernel
theorem dX9_digit_9 : decode cX9_digit 9 = .ok (.aload_n 0, 1) := by decide +kernel
theorem dX9_digit_10 : decode cX9_digit 10 = .ok (.getfield 107, 3) := by decide +kernel
theorem dX9_digit_13 : decode cX9_digit 13 = .ok (.ifCond .ne 12, 3) := by decide +kernel
theorem dX9_digit_16 : decode cX9_digit 16 = .ok (.iload_n 3, 1) := by decide +kernel
theorem dX9_digit_17 : decode cX9_digit 17 = .ok (.iload_n 1, 1) := by decide +kernel
theorem dX9_digit_18 : decode cX9_digit 18 = .ok (.iload_n 2, 1) := by decide +kernel
theorem dX9_digit_19 : decode cX9_digit 19 = .ok (.invokestatic 35, 3) := by decide +kernel
theorem dX9_digit_22 : decode cX9_digit 22 = .ok (.ifCond .ne 7, 3) := by decide +kernel
theorem dX9_digit_25 : decode cX9_digit 25 = .ok (.iconst 1, 1) := by decide +kernel
theorem dX9_digit_26 : decode cX9_digit 26 = .ok (.goto 4, 3) := by decide +kernel
theorem dX9_digit_29 : decode cX9_digit 29 = .ok (.iconst 0, 1) := by decide +kernel
theorem dX9_digit_30 : decode cX9_digit 30 = .ok (.putfield 107, 3) := by decide +kernel
theorem dX9_digit_33 : decode cX9_digit 33 = .ok (.aload_n 0, 1) := by decide +kernel
theorem dX9_digit_34 : decode cX9_digit 34 = .ok (.dup, 1) := by decide +kernel
theorem dX9_digit_35 : decode cX9_digit 35 = .ok (.getfield 104, 3) := by decide +kernel
theorem dX9_digit_38 : decode cX9_digit 38 = .ok (.aload_n 0, 1) := by decide +kernel
theorem dX9_digit_39 : decode cX9_digit 39 = .ok (.getfield 107, 3) := by decide +kernel
theorem dX9_digit_42 : decode cX9_digit 42 = .ok (.ifCond .eq 7, 3) := by decide +kernel
theorem dX9_digit_45 : decode cX9_digit 45 = .ok (.iconst 0, 1) := by decide +kernel
theorem dX9_digit_46 : decode cX9_digit 46 = .ok (.goto 4, 3) := by decide +kernel
theorem dX9_digit_49 : decode cX9_digit 49 = .ok (.iconst 1, 1) := by decide +kernel
theorem dX9_digit_50 : decode cX9_digit 50 = .ok (.iadd, 1) := by decide +kernel
theorem dX9_digit_51 : decode cX9_digit 51 = .ok (.putfield 104, 3) := by decide +kernel
theorem dX9_digit_54 : decode cX9_digit 54 = .ok (.iload_n 3, 1) := by decide +kernel
theorem dX9_digit_55 : decode cX9_digit 55 = .ok (.ireturn, 1) := by decide +kernel
set_option maxRecDepth 20000 in
theorem ggX9_word_X9_digit : GoodIn wsX9_word wsX9_digit := goodIn_r _ [7, 1, 2, 8, 9, 10, 6, 11, 12, 13, 14, 15, 16, 17, 18, 19, 20, 21, 22, 23, 24, 25, 26, 27, 28, 29, 30, 31, 32, 33, 34, 35, 36, 37, 38] (by decide +kernel) (by decide +kernel)
set_option maxRecDepth 20000 in
theorem gX9_word_X9_digit : GoodIn wsX9_word (wsV RX9 114 RX9 yX9_digit wsX9_digit) := goodIn_app (goodIn_of _ (by decide +kernel)) ggX9_word_X9_digit
set_option maxRecDepth 20000 in
theorem ggX9_word_X9_in : GoodIn wsX9_word wsX9_in := goodIn_r _ [16] (by decide +kernel) (by decide +kernel)
set_option maxRecDepth 20000 in
theorem gX9_word_X9_in : GoodIn wsX9_word (va_wsS RX9 35 yX9_in wsX9_in) := goodIn_app (goodIn_of _ (by decide +kernel)) ggX9_word_X9_in
set_option maxRecDepth 20000 in
theorem ggX9_word_X9_next : GoodIn wsX9_word wsX9_next := goodIn_r _ [11, 2, 12, 13, 17, 18, 19, 20, 21, 22, 23, 24, 25, 26, 27, 28, 29, 30, 31, 32, 33, 34, 35, 36, 37, 38] (by decide +kernel) (by decide +kernel)
set_option maxRecDepth 20000 in
theorem gX9_word_X9_next : GoodIn wsX9_word (wsV RX9 110 RX9 yX9_next wsX9_next) := goodIn_app (goodIn_of _ (by decide +kernel)) ggX9_word_X9_next
theorem dX9_word_0 : decode cX9_word 0 = .ok (.aload_n 0, 1) := by decide +kernel
theorem dX9_word_1 : decode cX9_word 1 = .ok (.iconst 0, 1) := by decide +kernel
theorem dX9_word_2 : decode cX9_word 2 = .ok (.bipush 9, 2) := by decide +kernel
theorem dX9_word_4 : decode cX9_word 4 = .ok (.invokevirtual 114, 3) := by decide +kernel
theorem dX9_word_7 : decode cX9_word 7 = .ok (.istore_n 1, 1) := by decide +kernel
theorem dX9_word_8 : decode cX9_word 8 = .ok (.aload_n 0, 1) := by decide +kernel
theorem dX9_word_9 : decode cX9_word 9 = .ok (.getfield 107, 3) := by decide +kernel
theorem dX9_word_12 : decode cX9_word 12 = .ok (.ifCond .ne 49, 3) := by decide +kernel
theorem dX9_word_15 : decode cX9_word 15 = .ok (.iload_n 1, 1) := by decide +kernel
theorem dX9_word_16 : decode cX9_word 16 = .ok (.iconst 1, 1) := by decide +kernel
theorem dX9_word_17 : decode cX9_word 17 = .ok (.iconst 2, 1) := by decide +kernel
theorem dX9_word_18 : decode cX9_word 18 = .ok (.invokestatic 35, 3) := by decide +kernel
theorem dX9_word_21 : decode cX9_word 21 = .ok (.ifCond .eq 40, 3) := by decide +kernel
theorem dX9_word_24 : decode cX9_word 24 = .ok (.aload_n 0, 1) := by decide +kernel
theorem dX9_word_25 : decode cX9_word 25 = .ok (.invokevirtual 110, 3) := by decide +kernel
theorem dX9_word_28 : decode cX9_word 28 = .ok (.bipush 48, 2) := by decide +kernel
theorem dX9_word_30 : decode cX9_word 30 = .ok (.bipush 57, 2) := by decide +kernel
theorem dX9_word_32 : decode cX9_word 32 = .ok (.invokestatic 35, 3) := by decide +kernel
theorem dX9_word_35 : decode cX9_word 35 = .ok (.ifCond .eq 26, 3) := by decide +kernel
theorem dX9_word_38 : decode cX9_word 38 = .ok (.bipush 10, 2) := by decide +kernel
theorem dX9_word_40 : decode cX9_word 40 = .ok (.iload_n 1, 1) := by decide +kernel
theorem dX9_word_41 : decode cX9_word 41 = .ok (.imul, 1) := by decide +kernel
theorem dX9_word_42 : decode cX9_word 42 = .ok (.aload_n 0, 1) := by decide +kernel
theorem dX9_word_43 : decode cX9_word 43 = .ok (.invokevirtual 110, 3) := by decide +kernel
theorem dX9_word_46 : decode cX9_word 46 = .ok (.iadd, 1) := by decide +kernel
theorem dX9_word_47 : decode cX9_word 47 = .ok (.bipush 48, 2) := by decide +kernel
theorem dX9_word_49 : decode cX9_word 49 = .ok (.isub, 1) := by decide +kernel
theorem dX9_word_50 : decode cX9_word 50 = .ok (.istore_n 1, 1) := by decide +kernel
theorem dX9_word_51 : decode cX9_word 51 = .ok (.aload_n 0, 1) := by decide +kernel
theorem dX9_word_52 : decode cX9_word 52 = .ok (.dup, 1) := by decide +kernel
theorem dX9_word_53 : decode cX9_word 53 = .ok (.getfield 104, 3) := by decide +kernel
theorem dX9_word_56 : decode cX9_word 56 = .ok (.iconst 1, 1) := by decide +kernel
theorem dX9_word_57 : decode cX9_word 57 = .ok (.iadd, 1) := by decide +kernel
theorem dX9_word_58 : decode cX9_word 58 = .ok (.putfield 104, 3) := by decide +kernel
theorem dX9_word_61 : decode cX9_word 61 = .ok (.iload_n 1, 1) := by decide +kernel
theorem dX9_word_62 : decode cX9_word 62 = .ok (.ireturn, 1) := by decide +kernel
set_option maxRecDepth 20000 in
theorem ggX9_says_X9_word : GoodIn wsX9_says wsX9_word := goodIn_r _ [10, 2, 4, 11, 12, 13, 9, 14, 15, 16, 17, 18, 19, 20, 21, 22, 23, 24, 25, 26, 27, 28, 29, 30, 31, 32, 33, 34, 35, 36, 37, 38, 39, 40, 41, 42, 43, 44, 45] (by decide +kernel) (by decide +kernel)
set_option maxRecDepth 20000 in
theorem gX9_says_X9_word : GoodIn wsX9_says (wsV RX9 120 RX9 yX9_word wsX9_word) := goodIn_app (goodIn_of _ (by decide +kernel)) ggX9_says_X9_word
set_option maxRecDepth 20000 in
theorem ggX9_says_X9_next : GoodIn wsX9_says wsX9_next := goodIn_r _ [18, 4, 19, 20, 24, 25, 26, 27, 28, 29, 30, 31, 32, 33, 34, 35, 36, 37, 38, 39, 40, 41, 42, 43, 44, 45] (by decide +kernel) (by decide +kernel)
set_option maxRecDepth 20000 in
theorem gX9_says_X9_next : GoodIn wsX9_says (wsV RX9 110 RX9 yX9_next wsX9_next) := goodIn_app (goodIn_of _ (by decide +kernel)) ggX9_says_X9_next
set_option maxRecDepth 20000 in
theorem ggX9_says_X9_digit : GoodIn wsX9_says wsX9_digit := goodIn_r _ [14, 2, 4, 15, 16, 17, 9, 18, 19, 20, 21, 22, 23, 24, 25, 26, 27, 28, 29, 30, 31, 32, 33, 34, 35, 36, 37, 38, 39, 40, 41, 42, 43, 44, 45] (by decide +kernel) (by decide +kernel)
set_option maxRecDepth 20000 in
theorem gX9_says_X9_digit : GoodIn wsX9_says (wsV RX9 114 RX9 yX9_digit wsX9_digit) := goodIn_app (goodIn_of _ (by decide +kernel)) ggX9_says_X9_digit
theorem dX9_says_0 : decode cX9_says 0 = .ok (.aload_n 0, 1) := by decide +kernel
theorem dX9_says_1 : decode cX9_says 1 = .ok (.iconst 0, 1) := by decide +kernel
theorem dX9_says_2 : decode cX9_says 2 = .ok (.putfield 117, 3) := by decide +kernel
theorem dX9_says_5 : decode cX9_says 5 = .ok (.iconst 1, 1) := by decide +kernel
theorem dX9_says_6 : decode cX9_says 6 = .ok (.istore_n 1, 1) := by decide +kernel
theorem dX9_says_7 : decode cX9_says 7 = .ok (.iload_n 1, 1) := by decide +kernel
theorem dX9_says_8 : decode cX9_says 8 = .ok (.ifCond .eq 90, 3) := by decide +kernel
theorem dX9_says_11 : decode cX9_says 11 = .ok (.aload_n 0, 1) := by decide +kernel
theorem dX9_says_12 : decode cX9_says 12 = .ok (.invokevirtual 120, 3) := by decide +kernel
theorem dX9_says_15 : decode cX9_says 15 = .ok (.istore_n 2, 1) := by decide +kernel
theorem dX9_says_16 : decode cX9_says 16 = .ok (.aload_n 0, 1) := by decide +kernel
theorem dX9_says_17 : decode cX9_says 17 = .ok (.getfield 107, 3) := by decide +kernel
theorem dX9_says_20 : decode cX9_says 20 = .ok (.ifCond .ne 7, 3) := by decide +kernel
theorem dX9_says_23 : decode cX9_says 23 = .ok (.iconst 1, 1) := by decide +kernel
theorem dX9_says_24 : decode cX9_says 24 = .ok (.goto 4, 3) := by decide +kernel
theorem dX9_says_27 : decode cX9_says 27 = .ok (.iconst 0, 1) := by decide +kernel
theorem dX9_says_28 : decode cX9_says 28 = .ok (.istore_n 1, 1) := by decide +kernel
theorem dX9_says_29 : decode cX9_says 29 = .ok (.iload_n 1, 1) := by decide +kernel
theorem dX9_says_30 : decode cX9_says 30 = .ok (.ifCond .eq 65, 3) := by decide +kernel
theorem dX9_says_33 : decode cX9_says 33 = .ok (.aload_n 0, 1) := by decide +kernel
theorem dX9_says_34 : decode cX9_says 34 = .ok (.getfield 28, 3) := by decide +kernel
theorem dX9_says_37 : decode cX9_says 37 = .ok (.aload_n 0, 1) := by decide +kernel
theorem dX9_says_38 : decode cX9_says 38 = .ok (.getfield 117, 3) := by decide +kernel
theorem dX9_says_41 : decode cX9_says 41 = .ok (.iload_n 2, 1) := by decide +kernel
theorem dX9_says_42 : decode cX9_says 42 = .ok (.iastore, 1) := by decide +kernel
theorem dX9_says_43 : decode cX9_says 43 = .ok (.aload_n 0, 1) := by decide +kernel
theorem dX9_says_44 : decode cX9_says 44 = .ok (.dup, 1) := by decide +kernel
theorem dX9_says_45 : decode cX9_says 45 = .ok (.getfield 117, 3) := by decide +kernel
theorem dX9_says_48 : decode cX9_says 48 = .ok (.iconst 1, 1) := by decide +kernel
theorem dX9_says_49 : decode cX9_says 49 = .ok (.iadd, 1) := by decide +kernel
theorem dX9_says_50 : decode cX9_says 50 = .ok (.putfield 117, 3) := by decide +kernel
theorem dX9_says_53 : decode cX9_says 53 = .ok (.aload_n 0, 1) := by decide +kernel
theorem dX9_says_54 : decode cX9_says 54 = .ok (.invokevirtual 110, 3) := by decide +kernel
theorem dX9_says_57 : decode cX9_says 57 = .ok (.bipush 44, 2) := by decide +kernel
theorem dX9_says_59 : decode cX9_says 59 = .ok (.if_icmp .ne 16, 3) := by decide +kernel
theorem dX9_says_62 : decode cX9_says 62 = .ok (.aload_n 0, 1) := by decide +kernel
theorem dX9_says_63 : decode cX9_says 63 = .ok (.getfield 117, 3) := by decide +kernel
theorem dX9_says_66 : decode cX9_says 66 = .ok (.bipush 12, 2) := by decide +kernel
theorem dX9_says_68 : decode cX9_says 68 = .ok (.if_icmp .ge 7, 3) := by decide +kernel
theorem dX9_says_71 : decode cX9_says 71 = .ok (.iconst 1, 1) := by decide +kernel
theorem dX9_says_72 : decode cX9_says 72 = .ok (.goto 4, 3) := by decide +kernel
theorem dX9_says_75 : decode cX9_says 75 = .ok (.iconst 0, 1) := by decide +kernel
theorem dX9_says_76 : decode cX9_says 76 = .ok (.istore_n 1, 1) := by decide +kernel
theorem dX9_says_77 : decode cX9_says 77 = .ok (.aload_n 0, 1) := by decide +kernel
theorem dX9_says_78 : decode cX9_says 78 = .ok (.dup, 1) := by decide +kernel
theorem dX9_says_79 : decode cX9_says 79 = .ok (.getfield 104, 3) := by decide +kernel
theorem dX9_says_82 : decode cX9_says 82 = .ok (.iload_n 1, 1) := by decide +kernel
theorem dX9_says_83 : decode cX9_says 83 = .ok (.ifCond .eq 7, 3) := by decide +kernel
theorem dX9_says_86 : decode cX9_says 86 = .ok (.iconst 1, 1) := by decide +kernel
theorem dX9_says_87 : decode cX9_says 87 = .ok (.goto 4, 3) := by decide +kernel
theorem dX9_says_90 : decode cX9_says 90 = .ok (.iconst 0, 1) := by decide +kernel
theorem dX9_says_91 : decode cX9_says 91 = .ok (.iadd, 1) := by decide +kernel
theorem dX9_says_92 : decode cX9_says 92 = .ok (.putfield 104, 3) := by decide +kernel
theorem dX9_says_95 : decode cX9_says 95 = .ok (.goto (-88), 3) := by decide +kernel
theorem dX9_says_98 : decode cX9_says 98 = .ok (.aload_n 0, 1) := by decide +kernel
theorem dX9_says_99 : decode cX9_says 99 = .ok (.iconst 1, 1) := by decide +kernel
theorem dX9_says_100 : decode cX9_says 100 = .ok (.putfield 123, 3) := by decide +kernel
theorem dX9_says_103 : decode cX9_says 103 = .ok (.aload_n 0, 1) := by decide +kernel
theorem dX9_says_104 : decode cX9_says 104 = .ok (.getfield 107, 3) := by decide +kernel
theorem dX9_says_107 : decode cX9_says 107 = .ok (.ifCond .ne 33, 3) := by decide +kernel
theorem dX9_says_110 : decode cX9_says 110 = .ok (.aload_n 0, 1) := by decide +kernel
theorem dX9_says_111 : decode cX9_says 111 = .ok (.invokevirtual 110, 3) := by decide +kernel
theorem dX9_says_114 : decode cX9_says 114 = .ok (.bipush 35, 2) := by decide +kernel
theorem dX9_says_116 : decode cX9_says 116 = .ok (.if_icmp .ne 24, 3) := by decide +kernel
theorem dX9_says_119 : decode cX9_says 119 = .ok (.aload_n 0, 1) := by decide +kernel
theorem dX9_says_120 : decode cX9_says 120 = .ok (.dup, 1) := by decide +kernel
theorem dX9_says_121 : decode cX9_says 121 = .ok (.getfield 104, 3) := by decide +kernel
theorem dX9_says_124 : decode cX9_says 124 = .ok (.iconst 1, 1) := by decide +kernel
theorem dX9_says_125 : decode cX9_says 125 = .ok (.iadd, 1) := by decide +kernel
theorem dX9_says_126 : decode cX9_says 126 = .ok (.putfield 104, 3) := by decide +kernel
theorem dX9_says_129 : decode cX9_says 129 = .ok (.aload_n 0, 1) := by decide +kernel
theorem dX9_says_130 : decode cX9_says 130 = .ok (.aload_n 0, 1) := by decide +kernel
theorem dX9_says_131 : decode cX9_says 131 = .ok (.iconst 1, 1) := by decide +kernel
theorem dX9_says_132 : decode cX9_says 132 = .ok (.bipush 9, 2) := by decide +kernel
theorem dX9_says_134 : decode cX9_says 134 = .ok (.invokevirtual 114, 3) := by decide +kernel
theorem dX9_says_137 : decode cX9_says 137 = .ok (.putfield 123, 3) := by decide +kernel
theorem dX9_says_140 : decode cX9_says 140 = .ok (.return_, 1) := by decide +kernel
set_option maxRecDepth 20000 in
theorem ggX9_part_X9_next : GoodIn wsX9_part wsX9_next := goodIn_r _ [11, 3, 12, 13, 35, 36, 37, 38, 39, 40, 41, 42, 43, 44, 45, 46, 47, 48, 49, 50, 51, 52, 53, 54, 55, 56] (by decide +kernel) (by decide +kernel)
set_option maxRecDepth 20000 in
theorem gX9_part_X9_next : GoodIn wsX9_part (wsV RX9 110 RX9 yX9_next wsX9_next) := goodIn_app (goodIn_of _ (by decide +kernel)) ggX9_part_X9_next
set_option maxRecDepth 20000 in
theorem ggX9_part_X9_sign : GoodIn wsX9_part wsX9_sign := goodIn_r _ [17, 1, 3, 7, 8, 9, 10, 11, 12, 13, 35, 36, 37, 38, 39, 40, 41, 42, 43, 44, 45, 46, 47, 48, 49, 50, 51, 52, 53, 54, 55, 56] (by decide +kernel) (by decide +kernel)
set_option maxRecDepth 20000 in
theorem gX9_part_X9_sign : GoodIn wsX9_part (wsV RX9 129 RX9 yX9_sign wsX9_sign) := goodIn_app (goodIn_of _ (by decide +kernel)) ggX9_part_X9_sign
set_option maxRecDepth 20000 in
theorem ggX9_part_X9_says : GoodIn wsX9_part wsX9_says := goodIn_r _ [21, 22, 1, 23, 3, 4, 24, 25, 26, 10, 27, 28, 29, 30, 31, 7, 8, 9, 11, 12, 13, 32, 33, 34, 35, 36, 37, 38, 39, 40, 41, 42, 43, 44, 45, 46, 47, 48, 49, 50, 51, 52, 53, 54, 55, 56] (by decide +kernel) (by decide +kernel)
set_option maxRecDepth 20000 in
theorem gX9_part_X9_says : GoodIn wsX9_part (wsV RX9 132 RX9 yX9_says wsX9_says) := goodIn_app (goodIn_of _ (by decide +kernel)) ggX9_part_X9_says
set_option maxRecDepth 20000 in
theorem ggX9_part_X9_digit : GoodIn wsX9_part wsX9_digit := goodIn_r _ [31, 1, 3, 7, 8, 9, 10, 11, 12, 13, 32, 33, 34, 35, 36, 37, 38, 39, 40, 41, 42, 43, 44, 45, 46, 47, 48, 49, 50, 51, 52, 53, 54, 55, 56] (by decide +kernel) (by decide +kernel)
set_option maxRecDepth 20000 in
theorem gX9_part_X9_digit : GoodIn wsX9_part (wsV RX9 114 RX9 yX9_digit wsX9_digit) := goodIn_app (goodIn_of _ (by decide +kernel)) ggX9_part_X9_digit
set_option maxRecDepth 20000 in
theorem ggX9_part_X9_word : GoodIn wsX9_part wsX9_word := goodIn_r _ [27, 1, 3, 28, 29, 30, 10, 31, 7, 8, 9, 11, 12, 13, 32, 33, 34, 35, 36, 37, 38, 39, 40, 41, 42, 43, 44, 45, 46, 47, 48, 49, 50, 51, 52, 53, 54, 55, 56] (by decide +kernel) (by decide +kernel)
set_option maxRecDepth 20000 in
theorem gX9_part_X9_word : GoodIn wsX9_part (wsV RX9 120 RX9 yX9_word wsX9_word) := goodIn_app (goodIn_of _ (by decide +kernel)) ggX9_part_X9_word
theorem dX9_part_0 : decode cX9_part 0 = .ok (.aload_n 0, 1) := by decide +kernel
theorem dX9_part_1 : decode cX9_part 1 = .ok (.aload_n 0, 1) := by decide +kernel
theorem dX9_part_2 : decode cX9_part 2 = .ok (.getfield 107, 3) := by decide +kernel
theorem dX9_part_5 : decode cX9_part 5 = .ok (.ifCond .eq 7, 3) := by decide +kernel
theorem dX9_part_8 : decode cX9_part 8 = .ok (.iconst 0, 1) := by decide +kernel
theorem dX9_part_9 : decode cX9_part 9 = .ok (.goto 7, 3) := by decide +kernel
theorem dX9_part_12 : decode cX9_part 12 = .ok (.aload_n 0, 1) := by decide +kernel
theorem dX9_part_13 : decode cX9_part 13 = .ok (.invokevirtual 110, 3) := by decide +kernel
theorem dX9_part_16 : decode cX9_part 16 = .ok (.putfield 126, 3) := by decide +kernel
theorem dX9_part_19 : decode cX9_part 19 = .ok (.aload_n 0, 1) := by decide +kernel
theorem dX9_part_20 : decode cX9_part 20 = .ok (.getfield 126, 3) := by decide +kernel
theorem dX9_part_23 : decode cX9_part 23 = .ok (.lookupswitch 286 #[(101, 97), (102, 97), (103, 78), (115, 49), (116, 177)], 49) := by decide +kernel
theorem dX9_part_72 : decode cX9_part 72 = .ok (.aload_n 0, 1) := by decide +kernel
theorem dX9_part_73 : decode cX9_part 73 = .ok (.dup, 1) := by decide +kernel
theorem dX9_part_74 : decode cX9_part 74 = .ok (.getfield 104, 3) := by decide +kernel
theorem dX9_part_77 : decode cX9_part 77 = .ok (.iconst 1, 1) := by decide +kernel
theorem dX9_part_78 : decode cX9_part 78 = .ok (.iadd, 1) := by decide +kernel
theorem dX9_part_79 : decode cX9_part 79 = .ok (.putfield 104, 3) := by decide +kernel
theorem dX9_part_82 : decode cX9_part 82 = .ok (.aload_n 0, 1) := by decide +kernel
theorem dX9_part_83 : decode cX9_part 83 = .ok (.bipush 97, 2) := by decide +kernel
theorem dX9_part_85 : decode cX9_part 85 = .ok (.invokevirtual 129, 3) := by decide +kernel
theorem dX9_part_88 : decode cX9_part 88 = .ok (.aload_n 0, 1) := by decide +kernel
theorem dX9_part_89 : decode cX9_part 89 = .ok (.bipush 121, 2) := by decide +kernel
theorem dX9_part_91 : decode cX9_part 91 = .ok (.invokevirtual 129, 3) := by decide +kernel
theorem dX9_part_94 : decode cX9_part 94 = .ok (.aload_n 0, 1) := by decide +kernel
theorem dX9_part_95 : decode cX9_part 95 = .ok (.invokevirtual 132, 3) := by decide +kernel
theorem dX9_part_98 : decode cX9_part 98 = .ok (.goto 216, 3) := by decide +kernel
theorem dX9_part_101 : decode cX9_part 101 = .ok (.aload_n 0, 1) := by decide +kernel
theorem dX9_part_102 : decode cX9_part 102 = .ok (.dup, 1) := by decide +kernel
theorem dX9_part_103 : decode cX9_part 103 = .ok (.getfield 104, 3) := by decide +kernel
theorem dX9_part_106 : decode cX9_part 106 = .ok (.iconst 1, 1) := by decide +kernel
theorem dX9_part_107 : decode cX9_part 107 = .ok (.iadd, 1) := by decide +kernel
theorem dX9_part_108 : decode cX9_part 108 = .ok (.putfield 104, 3) := by decide +kernel
theorem dX9_part_111 : decode cX9_part 111 = .ok (.aload_n 0, 1) := by decide +kernel
theorem dX9_part_112 : decode cX9_part 112 = .ok (.bipush 111, 2) := by decide +kernel
theorem dX9_part_114 : decode cX9_part 114 = .ok (.invokevirtual 129, 3) := by decide +kernel
theorem dX9_part_117 : decode cX9_part 117 = .ok (.goto 197, 3) := by decide +kernel
theorem dX9_part_120 : decode cX9_part 120 = .ok (.aload_n 0, 1) := by decide +kernel
theorem dX9_part_121 : decode cX9_part 121 = .ok (.dup, 1) := by decide +kernel
theorem dX9_part_122 : decode cX9_part 122 = .ok (.getfield 104, 3) := by decide +kernel
theorem dX9_part_125 : decode cX9_part 125 = .ok (.iconst 1, 1) := by decide +kernel
theorem dX9_part_126 : decode cX9_part 126 = .ok (.iadd, 1) := by decide +kernel
theorem dX9_part_127 : decode cX9_part 127 = .ok (.putfield 104, 3) := by decide +kernel
theorem dX9_part_130 : decode cX9_part 130 = .ok (.aload_n 0, 1) := by decide +kernel
theorem dX9_part_131 : decode cX9_part 131 = .ok (.aload_n 0, 1) := by decide +kernel
theorem dX9_part_132 : decode cX9_part 132 = .ok (.getfield 126, 3) := by decide +kernel
theorem dX9_part_135 : decode cX9_part 135 = .ok (.bipush 101, 2) := by decide +kernel
theorem dX9_part_137 : decode cX9_part 137 = .ok (.if_icmp .ne 8, 3) := by decide +kernel
theorem dX9_part_140 : decode cX9_part 140 = .ok (.bipush 97, 2) := by decide +kernel
theorem dX9_part_142 : decode cX9_part 142 = .ok (.goto 5, 3) := by decide +kernel
theorem dX9_part_145 : decode cX9_part 145 = .ok (.bipush 101, 2) := by decide +kernel
theorem dX9_part_147 : decode cX9_part 147 = .ok (.invokevirtual 129, 3) := by decide +kernel
theorem dX9_part_150 : decode cX9_part 150 = .ok (.aload_n 0, 1) := by decide +kernel
theorem dX9_part_151 : decode cX9_part 151 = .ok (.aload_n 0, 1) := by decide +kernel
theorem dX9_part_152 : decode cX9_part 152 = .ok (.getfield 126, 3) := by decide +kernel
theorem dX9_part_155 : decode cX9_part 155 = .ok (.bipush 101, 2) := by decide +kernel
theorem dX9_part_157 : decode cX9_part 157 = .ok (.if_icmp .ne 8, 3) := by decide +kernel
theorem dX9_part_160 : decode cX9_part 160 = .ok (.bipush 114, 2) := by decide +kernel
theorem dX9_part_162 : decode cX9_part 162 = .ok (.goto 5, 3) := by decide +kernel
theorem dX9_part_165 : decode cX9_part 165 = .ok (.bipush 101, 2) := by decide +kernel
theorem dX9_part_167 : decode cX9_part 167 = .ok (.invokevirtual 129, 3) := by decide +kernel
theorem dX9_part_170 : decode cX9_part 170 = .ok (.aload_n 0, 1) := by decide +kernel
theorem dX9_part_171 : decode cX9_part 171 = .ok (.aload_n 0, 1) := by decide +kernel
theorem dX9_part_172 : decode cX9_part 172 = .ok (.iconst 0, 1) := by decide +kernel
theorem dX9_part_173 : decode cX9_part 173 = .ok (.iconst 5, 1) := by decide +kernel
theorem dX9_part_174 : decode cX9_part 174 = .ok (.invokevirtual 114, 3) := by decide +kernel
theorem dX9_part_177 : decode cX9_part 177 = .ok (.putfield 123, 3) := by decide +kernel
theorem dX9_part_180 : decode cX9_part 180 = .ok (.aload_n 0, 1) := by decide +kernel
theorem dX9_part_181 : decode cX9_part 181 = .ok (.bipush 61, 2) := by decide +kernel
theorem dX9_part_183 : decode cX9_part 183 = .ok (.invokevirtual 129, 3) := by decide +kernel
theorem dX9_part_186 : decode cX9_part 186 = .ok (.aload_n 0, 1) := by decide +kernel
theorem dX9_part_187 : decode cX9_part 187 = .ok (.aload_n 0, 1) := by decide +kernel
theorem dX9_part_188 : decode cX9_part 188 = .ok (.iconst 0, 1) := by decide +kernel
theorem dX9_part_189 : decode cX9_part 189 = .ok (.bipush 9, 2) := by decide +kernel
theorem dX9_part_191 : decode cX9_part 191 = .ok (.invokevirtual 114, 3) := by decide +kernel
theorem dX9_part_194 : decode cX9_part 194 = .ok (.putfield 135, 3) := by decide +kernel
theorem dX9_part_197 : decode cX9_part 197 = .ok (.goto 117, 3) := by decide +kernel
