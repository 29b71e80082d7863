theorem dX11_init_448 : decode cX11_init 448 = .ok (.bipush 8, 2) := by decide +kernel
theorem dX11_init_450 : decode cX11_init 450 = .ok (.newarray .int, 2) := by decide +kernel
theorem dX11_init_452 : decode cX11_init 452 = .ok (.putfield 52, 3) := by decide +kernel
theorem dX11_init_455 : decode cX11_init 455 = .ok (.aload_n 0, 1) := by decide +kernel
theorem dX11_init_456 : decode cX11_init 456 = .ok (.sipush 256, 3) := by decide +kernel
theorem dX11_init_459 : decode cX11_init 459 = .ok (.newarray .int, 2) := by decide +kernel
theorem dX11_init_461 : decode cX11_init 461 = .ok (.putfield 55, 3) := by decide +kernel
theorem dX11_init_464 : decode cX11_init 464 = .ok (.aload_n 0, 1) := by decide +kernel
theorem dX11_init_465 : decode cX11_init 465 = .ok (.sipush 256, 3) := by decide +kernel
theorem dX11_init_468 : decode cX11_init 468 = .ok (.newarray .long, 2) := by decide +kernel
theorem dX11_init_470 : decode cX11_init 470 = .ok (.putfield 58, 3) := by decide +kernel
theorem dX11_init_473 : decode cX11_init 473 = .ok (.aload_n 0, 1) := by decide +kernel
theorem dX11_init_474 : decode cX11_init 474 = .ok (.iconst (-1), 1) := by decide +kernel
theorem dX11_init_475 : decode cX11_init 475 = .ok (.putfield 62, 3) := by decide +kernel
theorem dX11_init_478 : decode cX11_init 478 = .ok (.aload_n 0, 1) := by decide +kernel
theorem dX11_init_479 : decode cX11_init 479 = .ok (.sipush 256, 3) := by decide +kernel
theorem dX11_init_482 : decode cX11_init 482 = .ok (.newarray .boolean, 2) := by decide +kernel
theorem dX11_init_484 : decode cX11_init 484 = .ok (.putfield 65, 3) := by decide +kernel
theorem dX11_init_487 : decode cX11_init 487 = .ok (.aload_n 0, 1) := by decide +kernel
theorem dX11_init_488 : decode cX11_init 488 = .ok (.bipush 10, 2) := by decide +kernel
theorem dX11_init_490 : decode cX11_init 490 = .ok (.newarray .int, 2) := by decide +kernel
theorem dX11_init_492 : decode cX11_init 492 = .ok (.putfield 68, 3) := by decide +kernel
theorem dX11_init_495 : decode cX11_init 495 = .ok (.aload_n 0, 1) := by decide +kernel
theorem dX11_init_496 : decode cX11_init 496 = .ok (.sipush 256, 3) := by decide +kernel
theorem dX11_init_499 : decode cX11_init 499 = .ok (.newarray .int, 2) := by decide +kernel
theorem dX11_init_501 : decode cX11_init 501 = .ok (.putfield 71, 3) := by decide +kernel
theorem dX11_init_504 : decode cX11_init 504 = .ok (.aload_n 0, 1) := by decide +kernel
theorem dX11_init_505 : decode cX11_init 505 = .ok (.bipush 8, 2) := by decide +kernel
theorem dX11_init_507 : decode cX11_init 507 = .ok (.newarray .int, 2) := by decide +kernel
theorem dX11_init_509 : decode cX11_init 509 = .ok (.putfield 74, 3) := by decide +kernel
theorem dX11_init_512 : decode cX11_init 512 = .ok (.aload_n 0, 1) := by decide +kernel
theorem dX11_init_513 : decode cX11_init 513 = .ok (.bipush 30, 2) := by decide +kernel
theorem dX11_init_515 : decode cX11_init 515 = .ok (.newarray .int, 2) := by decide +kernel
theorem dX11_init_517 : decode cX11_init 517 = .ok (.putfield 77, 3) := by decide +kernel
theorem dX11_init_520 : decode cX11_init 520 = .ok (.aload_n 0, 1) := by decide +kernel
theorem dX11_init_521 : decode cX11_init 521 = .ok (.sipush 256, 3) := by decide +kernel
theorem dX11_init_524 : decode cX11_init 524 = .ok (.newarray .long, 2) := by decide +kernel
theorem dX11_init_526 : decode cX11_init 526 = .ok (.putfield 80, 3) := by decide +kernel
theorem dX11_init_529 : decode cX11_init 529 = .ok (.aload_n 0, 1) := by decide +kernel
theorem dX11_init_530 : decode cX11_init 530 = .ok (.sipush 256, 3) := by decide +kernel
theorem dX11_init_533 : decode cX11_init 533 = .ok (.newarray .long, 2) := by decide +kernel
theorem dX11_init_535 : decode cX11_init 535 = .ok (.putfield 83, 3) := by decide +kernel
theorem dX11_init_538 : decode cX11_init 538 = .ok (.aload_n 0, 1) := by decide +kernel
theorem dX11_init_539 : decode cX11_init 539 = .ok (.sipush 4352, 3) := by decide +kernel
theorem dX11_init_542 : decode cX11_init 542 = .ok (.newarray .int, 2) := by decide +kernel
theorem dX11_init_544 : decode cX11_init 544 = .ok (.putfield 86, 3) := by decide +kernel
theorem dX11_init_547 : decode cX11_init 547 = .ok (.aload_n 0, 1) := by decide +kernel
theorem dX11_init_548 : decode cX11_init 548 = .ok (.sipush 4352, 3) := by decide +kernel
theorem dX11_init_551 : decode cX11_init 551 = .ok (.newarray .int, 2) := by decide +kernel
theorem dX11_init_553 : decode cX11_init 553 = .ok (.putfield 89, 3) := by decide +kernel
theorem dX11_init_556 : decode cX11_init 556 = .ok (.aload_n 0, 1) := by decide +kernel
theorem dX11_init_557 : decode cX11_init 557 = .ok (.bipush 24, 2) := by decide +kernel
theorem dX11_init_559 : decode cX11_init 559 = .ok (.newarray .int, 2) := by decide +kernel
theorem dX11_init_561 : decode cX11_init 561 = .ok (.putfield 92, 3) := by decide +kernel
theorem dX11_init_564 : decode cX11_init 564 = .ok (.aload_n 0, 1) := by decide +kernel
theorem dX11_init_565 : decode cX11_init 565 = .ok (.iconst (-1), 1) := by decide +kernel
theorem dX11_init_566 : decode cX11_init 566 = .ok (.putfield 95, 3) := by decide +kernel
theorem dX11_init_569 : decode cX11_init 569 = .ok (.aload_n 0, 1) := by decide +kernel
theorem dX11_init_570 : decode cX11_init 570 = .ok (.getfield 20, 3) := by decide +kernel
theorem dX11_init_573 : decode cX11_init 573 = .ok (.sipush 304, 3) := by decide +kernel
theorem dX11_init_576 : decode cX11_init 576 = .ok (.iconst 3, 1) := by decide +kernel
theorem dX11_init_577 : decode cX11_init 577 = .ok (.iastore, 1) := by decide +kernel
theorem dX11_init_578 : decode cX11_init 578 = .ok (.aload_n 0, 1) := by decide +kernel
theorem dX11_init_579 : decode cX11_init 579 = .ok (.getfield 20, 3) := by decide +kernel
theorem dX11_init_582 : decode cX11_init 582 = .ok (.sipush 305, 3) := by decide +kernel
theorem dX11_init_585 : decode cX11_init 585 = .ok (.iconst 4, 1) := by decide +kernel
theorem dX11_init_586 : decode cX11_init 586 = .ok (.iastore, 1) := by decide +kernel
theorem dX11_init_587 : decode cX11_init 587 = .ok (.iconst 0, 1) := by decide +kernel
theorem dX11_init_588 : decode cX11_init 588 = .ok (.istore_n 1, 1) := by decide +kernel
theorem dX11_init_589 : decode cX11_init 589 = .ok (.iload_n 1, 1) := by decide +kernel
theorem dX11_init_590 : decode cX11_init 590 = .ok (.bipush 8, 2) := by decide +kernel
theorem dX11_init_592 : decode cX11_init 592 = .ok (.if_icmp .ge 20, 3) := by decide +kernel
theorem dX11_init_595 : decode cX11_init 595 = .ok (.aload_n 0, 1) := by decide +kernel
theorem dX11_init_596 : decode cX11_init 596 = .ok (.getfield 20, 3) := by decide +kernel
theorem dX11_init_599 : decode cX11_init 599 = .ok (.sipush 256, 3) := by decide +kernel
theorem dX11_init_602 : decode cX11_init 602 = .ok (.iload_n 1, 1) := by decide +kernel
theorem dX11_init_603 : decode cX11_init 603 = .ok (.iadd, 1) := by decide +kernel
theorem dX11_init_604 : decode cX11_init 604 = .ok (.iconst 1, 1) := by decide +kernel
theorem dX11_init_605 : decode cX11_init 605 = .ok (.iastore, 1) := by decide +kernel
theorem dX11_init_606 : decode cX11_init 606 = .ok (.iinc 1 1, 3) := by decide +kernel
theorem dX11_init_609 : decode cX11_init 609 = .ok (.goto (-20), 3) := by decide +kernel
theorem dX11_init_612 : decode cX11_init 612 = .ok (.aload_n 0, 1) := by decide +kernel
theorem dX11_init_613 : decode cX11_init 613 = .ok (.invokevirtual 98, 3) := by decide +kernel
theorem dX11_init_616 : decode cX11_init 616 = .ok (.return_, 1) := by decide +kernel
theorem dX11_empties_0 : decode cX11_empties 0 = .ok (.iconst 0, 1) := by decide +kernel
theorem dX11_empties_1 : decode cX11_empties 1 = .ok (.istore_n 1, 1) := by decide +kernel
theorem dX11_empties_2 : decode cX11_empties 2 = .ok (.iload_n 1, 1) := by decide +kernel
theorem dX11_empties_3 : decode cX11_empties 3 = .ok (.sipush 256, 3) := by decide +kernel
theorem dX11_empties_6 : decode cX11_empties 6 = .ok (.if_icmp .ge 18, 3) := by decide +kernel
theorem dX11_empties_9 : decode cX11_empties 9 = .ok (.aload_n 0, 1) := by decide +kernel
theorem dX11_empties_10 : decode cX11_empties 10 = .ok (.getfield 20, 3) := by decide +kernel
theorem dX11_empties_13 : decode cX11_empties 13 = .ok (.iconst 0, 1) := by decide +kernel
theorem dX11_empties_14 : decode cX11_empties 14 = .ok (.iload_n 1, 1) := by decide +kernel
theorem dX11_empties_15 : decode cX11_empties 15 = .ok (.iadd, 1) := by decide +kernel
theorem dX11_empties_16 : decode cX11_empties 16 = .ok (.iconst (-1), 1) := by decide +kernel
theorem dX11_empties_17 : decode cX11_empties 17 = .ok (.iastore, 1) := by decide +kernel
theorem dX11_empties_18 : decode cX11_empties 18 = .ok (.iinc 1 1, 3) := by decide +kernel
theorem dX11_empties_21 : decode cX11_empties 21 = .ok (.goto (-19), 3) := by decide +kernel
theorem dX11_empties_24 : decode cX11_empties 24 = .ok (.aload_n 0, 1) := by decide +kernel
theorem dX11_empties_25 : decode cX11_empties 25 = .ok (.getfield 20, 3) := by decide +kernel
theorem dX11_empties_28 : decode cX11_empties 28 = .ok (.sipush 307, 3) := by decide +kernel
theorem dX11_empties_31 : decode cX11_empties 31 = .ok (.iconst 0, 1) := by decide +kernel
theorem dX11_empties_32 : decode cX11_empties 32 = .ok (.iastore, 1) := by decide +kernel
theorem dX11_empties_33 : decode cX11_empties 33 = .ok (.aload_n 0, 1) := by decide +kernel
theorem dX11_empties_34 : decode cX11_empties 34 = .ok (.getfield 20, 3) := by decide +kernel
theorem dX11_empties_37 : decode cX11_empties 37 = .ok (.sipush 308, 3) := by decide +kernel
theorem dX11_empties_40 : decode cX11_empties 40 = .ok (.iconst 0, 1) := by decide +kernel
theorem dX11_empties_41 : decode cX11_empties 41 = .ok (.iastore, 1) := by decide +kernel
theorem dX11_empties_42 : decode cX11_empties 42 = .ok (.aload_n 0, 1) := by decide +kernel
theorem dX11_empties_43 : decode cX11_empties 43 = .ok (.getfield 20, 3) := by decide +kernel
theorem dX11_empties_46 : decode cX11_empties 46 = .ok (.sipush 309, 3) := by decide +kernel
theorem dX11_empties_49 : decode cX11_empties 49 = .ok (.iconst 0, 1) := by decide +kernel
theorem dX11_empties_50 : decode cX11_empties 50 = .ok (.iastore, 1) := by decide +kernel
theorem dX11_empties_51 : decode cX11_empties 51 = .ok (.return_, 1) := by decide +kernel
theorem dX11_image_0 : decode cX11_image 0 = .ok (.iload_n 1, 1) := by decide +kernel
theorem dX11_image_1 : decode cX11_image 1 = .ok (.iconst 0, 1) := by decide +kernel
theorem dX11_image_2 : decode cX11_image 2 = .ok (.iconst 1, 1) := by decide +kernel
theorem dX11_image_3 : decode cX11_image 3 = .ok (.invokestatic 101, 3) := by decide +kernel
theorem dX11_image_6 : decode cX11_image 6 = .ok (.ifCond .ne 9, 3) := by decide +kernel
theorem dX11_image_9 : decode cX11_image 9 = .ok (.aload_n 0, 1) := by decide +kernel
theorem dX11_image_10 : decode cX11_image 10 = .ok (.iconst (-1), 1) := by decide +kernel
theorem dX11_image_11 : decode cX11_image 11 = .ok (.invokevirtual 105, 3) := by decide +kernel
theorem dX11_image_14 : decode cX11_image 14 = .ok (.ireturn, 1) := by decide +kernel
theorem dX11_image_15 : decode cX11_image 15 = .ok (.iconst 0, 1) := by decide +kernel
theorem dX11_image_16 : decode cX11_image 16 = .ok (.istore_n 2, 1) := by decide +kernel
theorem dX11_image_17 : decode cX11_image 17 = .ok (.iload_n 2, 1) := by decide +kernel
theorem dX11_image_18 : decode cX11_image 18 = .ok (.sipush 5117, 3) := by decide +kernel
theorem dX11_image_21 : decode cX11_image 21 = .ok (.if_icmp .ge 27, 3) := by decide +kernel
theorem dX11_image_24 : decode cX11_image 24 = .ok (.aload_n 0, 1) := by decide +kernel
theorem dX11_image_25 : decode cX11_image 25 = .ok (.getfield 23, 3) := by decide +kernel
theorem dX11_image_28 : decode cX11_image 28 = .ok (.sipush 5117, 3) := by decide +kernel
theorem dX11_image_31 : decode cX11_image 31 = .ok (.iload_n 1, 1) := by decide +kernel
theorem dX11_image_32 : decode cX11_image 32 = .ok (.imul, 1) := by decide +kernel
theorem dX11_image_33 : decode cX11_image 33 = .ok (.iload_n 2, 1) := by decide +kernel
theorem dX11_image_34 : decode cX11_image 34 = .ok (.iadd, 1) := by decide +kernel
theorem dX11_image_35 : decode cX11_image 35 = .ok (.aload_n 0, 1) := by decide +kernel
theorem dX11_image_36 : decode cX11_image 36 = .ok (.getfield 20, 3) := by decide +kernel
theorem dX11_image_39 : decode cX11_image 39 = .ok (.iload_n 2, 1) := by decide +kernel
theorem dX11_image_40 : decode cX11_image 40 = .ok (.iaload, 1) := by decide +kernel
theorem dX11_image_41 : decode cX11_image 41 = .ok (.iastore, 1) := by decide +kernel
theorem dX11_image_42 : decode cX11_image 42 = .ok (.iinc 2 1, 3) := by decide +kernel
theorem dX11_image_45 : decode cX11_image 45 = .ok (.goto (-28), 3) := by decide +kernel
theorem dX11_image_48 : decode cX11_image 48 = .ok (.aload_n 0, 1) := by decide +kernel
theorem dX11_image_49 : decode cX11_image 49 = .ok (.getfield 26, 3) := by decide +kernel
theorem dX11_image_52 : decode cX11_image 52 = .ok (.iload_n 1, 1) := by decide +kernel
theorem dX11_image_53 : decode cX11_image 53 = .ok (.iconst 1, 1) := by decide +kernel
theorem dX11_image_54 : decode cX11_image 54 = .ok (.bastore, 1) := by decide +kernel
theorem dX11_image_55 : decode cX11_image 55 = .ok (.aload_n 0, 1) := by decide +kernel
theorem dX11_image_56 : decode cX11_image 56 = .ok (.iconst 0, 1) := by decide +kernel
theorem dX11_image_57 : decode cX11_image 57 = .ok (.invokevirtual 109, 3) := by decide +kernel
theorem dX11_image_60 : decode cX11_image 60 = .ok (.ireturn, 1) := by decide +kernel
theorem dX11_back_0 : decode cX11_back 0 = .ok (.iload_n 1, 1) := by decide +kernel
theorem dX11_back_1 : decode cX11_back 1 = .ok (.iconst 0, 1) := by decide +kernel
theorem dX11_back_2 : decode cX11_back 2 = .ok (.iconst 1, 1) := by decide +kernel
theorem dX11_back_3 : decode cX11_back 3 = .ok (.invokestatic 101, 3) := by decide +kernel
theorem dX11_back_6 : decode cX11_back 6 = .ok (.ifCond .ne 9, 3) := by decide +kernel
theorem dX11_back_9 : decode cX11_back 9 = .ok (.aload_n 0, 1) := by decide +kernel
theorem dX11_back_10 : decode cX11_back 10 = .ok (.iconst (-1), 1) := by decide +kernel
theorem dX11_back_11 : decode cX11_back 11 = .ok (.invokevirtual 105, 3) := by decide +kernel
theorem dX11_back_14 : decode cX11_back 14 = .ok (.ireturn, 1) := by decide +kernel
theorem dX11_back_15 : decode cX11_back 15 = .ok (.aload_n 0, 1) := by decide +kernel
theorem dX11_back_16 : decode cX11_back 16 = .ok (.getfield 26, 3) := by decide +kernel
theorem dX11_back_19 : decode cX11_back 19 = .ok (.iload_n 1, 1) := by decide +kernel
theorem dX11_back_20 : decode cX11_back 20 = .ok (.baload, 1) := by decide +kernel
theorem dX11_back_21 : decode cX11_back 21 = .ok (.ifCond .ne 10, 3) := by decide +kernel
theorem dX11_back_24 : decode cX11_back 24 = .ok (.aload_n 0, 1) := by decide +kernel
theorem dX11_back_25 : decode cX11_back 25 = .ok (.bipush (-2), 2) := by decide +kernel
theorem dX11_back_27 : decode cX11_back 27 = .ok (.invokevirtual 105, 3) := by decide +kernel
theorem dX11_back_30 : decode cX11_back 30 = .ok (.ireturn, 1) := by decide +kernel
theorem dX11_back_31 : decode cX11_back 31 = .ok (.iconst 0, 1) := by decide +kernel
theorem dX11_back_32 : decode cX11_back 32 = .ok (.istore_n 2, 1) := by decide +kernel
theorem dX11_back_33 : decode cX11_back 33 = .ok (.iload_n 2, 1) := by decide +kernel
theorem dX11_back_34 : decode cX11_back 34 = .ok (.sipush 5117, 3) := by decide +kernel
theorem dX11_back_37 : decode cX11_back 37 = .ok (.if_icmp .ge 27, 3) := by decide +kernel
theorem dX11_back_40 : decode cX11_back 40 = .ok (.aload_n 0, 1) := by decide +kernel
theorem dX11_back_41 : decode cX11_back 41 = .ok (.getfield 20, 3) := by decide +kernel
theorem dX11_back_44 : decode cX11_back 44 = .ok (.iload_n 2, 1) := by decide +kernel
theorem dX11_back_45 : decode cX11_back 45 = .ok (.aload_n 0, 1) := by decide +kernel
theorem dX11_back_46 : decode cX11_back 46 = .ok (.getfield 23, 3) := by decide +kernel
theorem dX11_back_49 : decode cX11_back 49 = .ok (.sipush 5117, 3) := by decide +kernel
theorem dX11_back_52 : decode cX11_back 52 = .ok (.iload_n 1, 1) := by decide +kernel
theorem dX11_back_53 : decode cX11_back 53 = .ok (.imul, 1) := by decide +kernel
theorem dX11_back_54 : decode cX11_back 54 = .ok (.iload_n 2, 1) := by decide +kernel
theorem dX11_back_55 : decode cX11_back 55 = .ok (.iadd, 1) := by decide +kernel
theorem dX11_back_56 : decode cX11_back 56 = .ok (.iaload, 1) := by decide +kernel
theorem dX11_back_57 : decode cX11_back 57 = .ok (.iastore, 1) := by decide +kernel
theorem dX11_back_58 : decode cX11_back 58 = .ok (.iinc 2 1, 3) := by decide +kernel
theorem dX11_back_61 : decode cX11_back 61 = .ok (.goto (-28), 3) := by decide +kernel
theorem dX11_back_64 : decode cX11_back 64 = .ok (.aload_n 0, 1) := by decide +kernel
theorem dX11_back_65 : decode cX11_back 65 = .ok (.iconst 0, 1) := by decide +kernel
theorem dX11_back_66 : decode cX11_back 66 = .ok (.invokevirtual 109, 3) := by decide +kernel
theorem dX11_back_69 : decode cX11_back 69 = .ok (.ireturn, 1) := by decide +kernel
theorem dX11_states_0 : decode cX11_states 0 = .ok (.iconst 1, 1) := by decide +kernel
theorem dX11_states_1 : decode cX11_states 1 = .ok (.aload_n 0, 1) := by decide +kernel
theorem dX11_states_2 : decode cX11_states 2 = .ok (.getfield 20, 3) := by decide +kernel
theorem dX11_states_5 : decode cX11_states 5 = .ok (.sipush 304, 3) := by decide +kernel
theorem dX11_states_8 : decode cX11_states 8 = .ok (.iaload, 1) := by decide +kernel
theorem dX11_states_9 : decode cX11_states 9 = .ok (.ishl, 1) := by decide +kernel
theorem dX11_states_10 : decode cX11_states 10 = .ok (.ireturn, 1) := by decide +kernel
theorem dX11_isState_0 : decode cX11_isState 0 = .ok (.iload_n 1, 1) := by decide +kernel
theorem dX11_isState_1 : decode cX11_isState 1 = .ok (.iconst 0, 1) := by decide +kernel
theorem dX11_isState_2 : decode cX11_isState 2 = .ok (.aload_n 0, 1) := by decide +kernel
theorem dX11_isState_3 : decode cX11_isState 3 = .ok (.invokevirtual 112, 3) := by decide +kernel
theorem dX11_isState_6 : decode cX11_isState 6 = .ok (.iconst 1, 1) := by decide +kernel
theorem dX11_isState_7 : decode cX11_isState 7 = .ok (.isub, 1) := by decide +kernel
theorem dX11_isState_8 : decode cX11_isState 8 = .ok (.invokestatic 101, 3) := by decide +kernel
theorem dX11_isState_11 : decode cX11_isState 11 = .ok (.ireturn, 1) := by decide +kernel
theorem dX11_isNews_0 : decode cX11_isNews 0 = .ok (.iload_n 1, 1) := by decide +kernel
theorem dX11_isNews_1 : decode cX11_isNews 1 = .ok (.iconst 0, 1) := by decide +kernel
theorem dX11_isNews_2 : decode cX11_isNews 2 = .ok (.aload_n 0, 1) := by decide +kernel
theorem dX11_isNews_3 : decode cX11_isNews 3 = .ok (.getfield 20, 3) := by decide +kernel
theorem dX11_isNews_6 : decode cX11_isNews 6 = .ok (.sipush 305, 3) := by decide +kernel
theorem dX11_isNews_9 : decode cX11_isNews 9 = .ok (.iaload, 1) := by decide +kernel
theorem dX11_isNews_10 : decode cX11_isNews 10 = .ok (.iconst 1, 1) := by decide +kernel
theorem dX11_isNews_11 : decode cX11_isNews 11 = .ok (.isub, 1) := by decide +kernel
theorem dX11_isNews_12 : decode cX11_isNews 12 = .ok (.invokestatic 101, 3) := by decide +kernel
theorem dX11_isNews_15 : decode cX11_isNews 15 = .ok (.ireturn, 1) := by decide +kernel
theorem dX11_isLamp_0 : decode cX11_isLamp 0 = .ok (.iload_n 1, 1) := by decide +kernel
theorem dX11_isLamp_1 : decode cX11_isLamp 1 = .ok (.iconst 0, 1) := by decide +kernel
theorem dX11_isLamp_2 : decode cX11_isLamp 2 = .ok (.aload_n 0, 1) := by decide +kernel
theorem dX11_isLamp_3 : decode cX11_isLamp 3 = .ok (.getfield 20, 3) := by decide +kernel
theorem dX11_isLamp_6 : decode cX11_isLamp 6 = .ok (.sipush 304, 3) := by decide +kernel
theorem dX11_isLamp_9 : decode cX11_isLamp 9 = .ok (.iaload, 1) := by decide +kernel
theorem dX11_isLamp_10 : decode cX11_isLamp 10 = .ok (.iconst 1, 1) := by decide +kernel
theorem dX11_isLamp_11 : decode cX11_isLamp 11 = .ok (.isub, 1) := by decide +kernel
theorem dX11_isLamp_12 : decode cX11_isLamp 12 = .ok (.invokestatic 101, 3) := by decide +kernel
theorem dX11_isLamp_15 : decode cX11_isLamp 15 = .ok (.ireturn, 1) := by decide +kernel
theorem dX11_isManner_0 : decode cX11_isManner 0 = .ok (.iload_n 0, 1) := by decide +kernel
theorem dX11_isManner_1 : decode cX11_isManner 1 = .ok (.iconst 0, 1) := by decide +kernel
theorem dX11_isManner_2 : decode cX11_isManner 2 = .ok (.iconst 3, 1) := by decide +kernel
theorem dX11_isManner_3 : decode cX11_isManner 3 = .ok (.invokestatic 101, 3) := by decide +kernel
theorem dX11_isManner_6 : decode cX11_isManner 6 = .ok (.ireturn, 1) := by decide +kernel
theorem dX11_readOf_0 : decode cX11_readOf 0 = .ok (.aload_n 0, 1) := by decide +kernel
theorem dX11_readOf_1 : decode cX11_readOf 1 = .ok (.getfield 20, 3) := by decide +kernel
theorem dX11_readOf_4 : decode cX11_readOf 4 = .ok (.iconst 0, 1) := by decide +kernel
theorem dX11_readOf_5 : decode cX11_readOf 5 = .ok (.iload_n 1, 1) := by decide +kernel
theorem dX11_readOf_6 : decode cX11_readOf 6 = .ok (.iadd, 1) := by decide +kernel
theorem dX11_readOf_7 : decode cX11_readOf 7 = .ok (.iaload, 1) := by decide +kernel
theorem dX11_readOf_8 : decode cX11_readOf 8 = .ok (.ireturn, 1) := by decide +kernel
theorem dX11_lamps_0 : decode cX11_lamps 0 = .ok (.iload_n 1, 1) := by decide +kernel
theorem dX11_lamps_1 : decode cX11_lamps 1 = .ok (.iconst 1, 1) := by decide +kernel
theorem dX11_lamps_2 : decode cX11_lamps 2 = .ok (.bipush 8, 2) := by decide +kernel
theorem dX11_lamps_4 : decode cX11_lamps 4 = .ok (.invokestatic 101, 3) := by decide +kernel
theorem dX11_lamps_7 : decode cX11_lamps 7 = .ok (.ifCond .ne 9, 3) := by decide +kernel
theorem dX11_lamps_10 : decode cX11_lamps 10 = .ok (.aload_n 0, 1) := by decide +kernel
theorem dX11_lamps_11 : decode cX11_lamps 11 = .ok (.iconst (-1), 1) := by decide +kernel
theorem dX11_lamps_12 : decode cX11_lamps 12 = .ok (.invokevirtual 105, 3) := by decide +kernel
theorem dX11_lamps_15 : decode cX11_lamps 15 = .ok (.ireturn, 1) := by decide +kernel
theorem dX11_lamps_16 : decode cX11_lamps 16 = .ok (.aload_n 0, 1) := by decide +kernel
theorem dX11_lamps_17 : decode cX11_lamps 17 = .ok (.getfield 20, 3) := by decide +kernel
theorem dX11_lamps_20 : decode cX11_lamps 20 = .ok (.sipush 304, 3) := by decide +kernel
theorem dX11_lamps_23 : decode cX11_lamps 23 = .ok (.iaload, 1) := by decide +kernel
theorem dX11_lamps_24 : decode cX11_lamps 24 = .ok (.istore_n 2, 1) := by decide +kernel
theorem dX11_lamps_25 : decode cX11_lamps 25 = .ok (.aload_n 0, 1) := by decide +kernel
theorem dX11_lamps_26 : decode cX11_lamps 26 = .ok (.getfield 20, 3) := by decide +kernel
theorem dX11_lamps_29 : decode cX11_lamps 29 = .ok (.sipush 304, 3) := by decide +kernel
theorem dX11_lamps_32 : decode cX11_lamps 32 = .ok (.iload_n 1, 1) := by decide +kernel
theorem dX11_lamps_33 : decode cX11_lamps 33 = .ok (.iastore, 1) := by decide +kernel
theorem dX11_lamps_34 : decode cX11_lamps 34 = .ok (.aload_n 0, 1) := by decide +kernel
theorem dX11_lamps_35 : decode cX11_lamps 35 = .ok (.getfield 20, 3) := by decide +kernel
theorem dX11_lamps_38 : decode cX11_lamps 38 = .ok (.sipush 306, 3) := by decide +kernel
theorem dX11_lamps_41 : decode cX11_lamps 41 = .ok (.iconst 0, 1) := by decide +kernel
theorem dX11_lamps_42 : decode cX11_lamps 42 = .ok (.iastore, 1) := by decide +kernel
theorem dX11_lamps_43 : decode cX11_lamps 43 = .ok (.iconst 0, 1) := by decide +kernel
theorem dX11_lamps_44 : decode cX11_lamps 44 = .ok (.istore_n 3, 1) := by decide +kernel
theorem dX11_lamps_45 : decode cX11_lamps 45 = .ok (.iload_n 3, 1) := by decide +kernel
theorem dX11_lamps_46 : decode cX11_lamps 46 = .ok (.bipush 8, 2) := by decide +kernel
theorem dX11_lamps_48 : decode cX11_lamps 48 = .ok (.if_icmp .ge 20, 3) := by decide +kernel
theorem dX11_lamps_51 : decode cX11_lamps 51 = .ok (.aload_n 0, 1) := by decide +kernel
theorem dX11_lamps_52 : decode cX11_lamps 52 = .ok (.getfield 20, 3) := by decide +kernel
theorem dX11_lamps_55 : decode cX11_lamps 55 = .ok (.sipush 256, 3) := by decide +kernel
theorem dX11_lamps_58 : decode cX11_lamps 58 = .ok (.iload_n 3, 1) := by decide +kernel
theorem dX11_lamps_59 : decode cX11_lamps 59 = .ok (.iadd, 1) := by decide +kernel
theorem dX11_lamps_60 : decode cX11_lamps 60 = .ok (.iconst 1, 1) := by decide +kernel
theorem dX11_lamps_61 : decode cX11_lamps 61 = .ok (.iastore, 1) := by decide +kernel
theorem dX11_lamps_62 : decode cX11_lamps 62 = .ok (.iinc 3 1, 3) := by decide +kernel
theorem dX11_lamps_65 : decode cX11_lamps 65 = .ok (.goto (-20), 3) := by decide +kernel
theorem dX11_lamps_68 : decode cX11_lamps 68 = .ok (.aload_n 0, 1) := by decide +kernel
theorem dX11_lamps_69 : decode cX11_lamps 69 = .ok (.invokevirtual 98, 3) := by decide +kernel
theorem dX11_lamps_72 : decode cX11_lamps 72 = .ok (.aload_n 0, 1) := by decide +kernel
theorem dX11_lamps_73 : decode cX11_lamps 73 = .ok (.iload_n 2, 1) := by decide +kernel
theorem dX11_lamps_74 : decode cX11_lamps 74 = .ok (.invokevirtual 109, 3) := by decide +kernel
theorem dX11_lamps_77 : decode cX11_lamps 77 = .ok (.ireturn, 1) := by decide +kernel
theorem dX11_news_0 : decode cX11_news 0 = .ok (.iload_n 1, 1) := by decide +kernel
theorem dX11_news_1 : decode cX11_news 1 = .ok (.iconst 2, 1) := by decide +kernel
theorem dX11_news_2 : decode cX11_news 2 = .ok (.bipush 8, 2) := by decide +kernel
theorem dX11_news_4 : decode cX11_news 4 = .ok (.invokestatic 101, 3) := by decide +kernel
theorem dX11_news_7 : decode cX11_news 7 = .ok (.ifCond .ne 9, 3) := by decide +kernel
theorem dX11_news_10 : decode cX11_news 10 = .ok (.aload_n 0, 1) := by decide +kernel
theorem dX11_news_11 : decode cX11_news 11 = .ok (.iconst (-1), 1) := by decide +kernel
theorem dX11_news_12 : decode cX11_news 12 = .ok (.invokevirtual 105, 3) := by decide +kernel
theorem dX11_news_15 : decode cX11_news 15 = .ok (.ireturn, 1) := by decide +kernel
theorem dX11_news_16 : decode cX11_news 16 = .ok (.aload_n 0, 1) := by decide +kernel
theorem dX11_news_17 : decode cX11_news 17 = .ok (.getfield 20, 3) := by decide +kernel
theorem dX11_news_20 : decode cX11_news 20 = .ok (.sipush 305, 3) := by decide +kernel
theorem dX11_news_23 : decode cX11_news 23 = .ok (.iaload, 1) := by decide +kernel
theorem dX11_news_24 : decode cX11_news 24 = .ok (.istore_n 2, 1) := by decide +kernel
theorem dX11_news_25 : decode cX11_news 25 = .ok (.aload_n 0, 1) := by decide +kernel
theorem dX11_news_26 : decode cX11_news 26 = .ok (.getfield 20, 3) := by decide +kernel
theorem dX11_news_29 : decode cX11_news 29 = .ok (.sipush 305, 3) := by decide +kernel
theorem dX11_news_32 : decode cX11_news 32 = .ok (.iload_n 1, 1) := by decide +kernel
theorem dX11_news_33 : decode cX11_news 33 = .ok (.iastore, 1) := by decide +kernel
theorem dX11_news_34 : decode cX11_news 34 = .ok (.aload_n 0, 1) := by decide +kernel
theorem dX11_news_35 : decode cX11_news 35 = .ok (.invokevirtual 98, 3) := by decide +kernel
theorem dX11_news_38 : decode cX11_news 38 = .ok (.aload_n 0, 1) := by decide +kernel
theorem dX11_news_39 : decode cX11_news 39 = .ok (.iload_n 2, 1) := by decide +kernel
theorem dX11_news_40 : decode cX11_news 40 = .ok (.invokevirtual 109, 3) := by decide +kernel
theorem dX11_news_43 : decode cX11_news 43 = .ok (.ireturn, 1) := by decide +kernel
theorem dX11_oil_0 : decode cX11_oil 0 = .ok (.aload_n 0, 1) := by decide +kernel
theorem dX11_oil_1 : decode cX11_oil 1 = .ok (.iload_n 1, 1) := by decide +kernel
theorem dX11_oil_2 : decode cX11_oil 2 = .ok (.invokevirtual 116, 3) := by decide +kernel
theorem dX11_oil_5 : decode cX11_oil 5 = .ok (.ifCond .eq 13, 3) := by decide +kernel
theorem dX11_oil_8 : decode cX11_oil 8 = .ok (.iload_n 2, 1) := by decide +kernel
theorem dX11_oil_9 : decode cX11_oil 9 = .ok (.iconst 0, 1) := by decide +kernel
theorem dX11_oil_10 : decode cX11_oil 10 = .ok (.bipush 99, 2) := by decide +kernel
theorem dX11_oil_12 : decode cX11_oil 12 = .ok (.invokestatic 101, 3) := by decide +kernel
theorem dX11_oil_15 : decode cX11_oil 15 = .ok (.ifCond .ne 9, 3) := by decide +kernel
theorem dX11_oil_18 : decode cX11_oil 18 = .ok (.aload_n 0, 1) := by decide +kernel
theorem dX11_oil_19 : decode cX11_oil 19 = .ok (.iconst (-1), 1) := by decide +kernel
theorem dX11_oil_20 : decode cX11_oil 20 = .ok (.invokevirtual 105, 3) := by decide +kernel
theorem dX11_oil_23 : decode cX11_oil 23 = .ok (.ireturn, 1) := by decide +kernel
theorem dX11_oil_24 : decode cX11_oil 24 = .ok (.aload_n 0, 1) := by decide +kernel
theorem dX11_oil_25 : decode cX11_oil 25 = .ok (.getfield 20, 3) := by decide +kernel
theorem dX11_oil_28 : decode cX11_oil 28 = .ok (.sipush 256, 3) := by decide +kernel
theorem dX11_oil_31 : decode cX11_oil 31 = .ok (.iload_n 1, 1) := by decide +kernel
theorem dX11_oil_32 : decode cX11_oil 32 = .ok (.iadd, 1) := by decide +kernel
theorem dX11_oil_33 : decode cX11_oil 33 = .ok (.iaload, 1) := by decide +kernel
theorem dX11_oil_34 : decode cX11_oil 34 = .ok (.istore_n 3, 1) := by decide +kernel
theorem dX11_oil_35 : decode cX11_oil 35 = .ok (.aload_n 0, 1) := by decide +kernel
theorem dX11_oil_36 : decode cX11_oil 36 = .ok (.getfield 20, 3) := by decide +kernel
theorem dX11_oil_39 : decode cX11_oil 39 = .ok (.sipush 256, 3) := by decide +kernel
theorem dX11_oil_42 : decode cX11_oil 42 = .ok (.iload_n 1, 1) := by decide +kernel
theorem dX11_oil_43 : decode cX11_oil 43 = .ok (.iadd, 1) := by decide +kernel
theorem dX11_oil_44 : decode cX11_oil 44 = .ok (.iload_n 2, 1) := by decide +kernel
theorem dX11_oil_45 : decode cX11_oil 45 = .ok (.iastore, 1) := by decide +kernel
theorem dX11_oil_46 : decode cX11_oil 46 = .ok (.aload_n 0, 1) := by decide +kernel
theorem dX11_oil_47 : decode cX11_oil 47 = .ok (.iload_n 3, 1) := by decide +kernel
theorem dX11_oil_48 : decode cX11_oil 48 = .ok (.invokevirtual 109, 3) := by decide +kernel
theorem dX11_oil_51 : decode cX11_oil 51 = .ok (.ireturn, 1) := by decide +kernel
theorem dX11_broken_0 : decode cX11_broken 0 = .ok (.aload_n 0, 1) := by decide +kernel
theorem dX11_broken_1 : decode cX11_broken 1 = .ok (.iload_n 1, 1) := by decide +kernel
theorem dX11_broken_2 : decode cX11_broken 2 = .ok (.invokevirtual 116, 3) := by decide +kernel
theorem dX11_broken_5 : decode cX11_broken 5 = .ok (.ifCond .eq 12, 3) := by decide +kernel
theorem dX11_broken_8 : decode cX11_broken 8 = .ok (.iload_n 2, 1) := by decide +kernel
theorem dX11_broken_9 : decode cX11_broken 9 = .ok (.iconst 0, 1) := by decide +kernel
theorem dX11_broken_10 : decode cX11_broken 10 = .ok (.iconst 1, 1) := by decide +kernel
theorem dX11_broken_11 : decode cX11_broken 11 = .ok (.invokestatic 101, 3) := by decide +kernel
theorem dX11_broken_14 : decode cX11_broken 14 = .ok (.ifCond .ne 9, 3) := by decide +kernel
theorem dX11_broken_17 : decode cX11_broken 17 = .ok (.aload_n 0, 1) := by decide +kernel
theorem dX11_broken_18 : decode cX11_broken 18 = .ok (.iconst (-1), 1) := by decide +kernel
theorem dX11_broken_19 : decode cX11_broken 19 = .ok (.invokevirtual 105, 3) := by decide +kernel
theorem dX11_broken_22 : decode cX11_broken 22 = .ok (.ireturn, 1) := by decide +kernel
theorem dX11_broken_23 : decode cX11_broken 23 = .ok (.aload_n 0, 1) := by decide +kernel
theorem dX11_broken_24 : decode cX11_broken 24 = .ok (.getfield 20, 3) := by decide +kernel
theorem dX11_broken_27 : decode cX11_broken 27 = .ok (.sipush 306, 3) := by decide +kernel
theorem dX11_broken_30 : decode cX11_broken 30 = .ok (.iaload, 1) := by decide +kernel
theorem dX11_broken_31 : decode cX11_broken 31 = .ok (.iload_n 1, 1) := by decide +kernel
theorem dX11_broken_32 : decode cX11_broken 32 = .ok (.ishr, 1) := by decide +kernel
theorem dX11_broken_33 : decode cX11_broken 33 = .ok (.iconst 1, 1) := by decide +kernel
theorem dX11_broken_34 : decode cX11_broken 34 = .ok (.iand, 1) := by decide +kernel
theorem dX11_broken_35 : decode cX11_broken 35 = .ok (.istore_n 3, 1) := by decide +kernel
theorem dX11_broken_36 : decode cX11_broken 36 = .ok (.aload_n 0, 1) := by decide +kernel
theorem dX11_broken_37 : decode cX11_broken 37 = .ok (.getfield 20, 3) := by decide +kernel
theorem dX11_broken_40 : decode cX11_broken 40 = .ok (.sipush 306, 3) := by decide +kernel
theorem dX11_broken_43 : decode cX11_broken 43 = .ok (.aload_n 0, 1) := by decide +kernel
theorem dX11_broken_44 : decode cX11_broken 44 = .ok (.getfield 20, 3) := by decide +kernel
theorem dX11_broken_47 : decode cX11_broken 47 = .ok (.sipush 306, 3) := by decide +kernel
theorem dX11_broken_50 : decode cX11_broken 50 = .ok (.iaload, 1) := by decide +kernel
theorem dX11_broken_51 : decode cX11_broken 51 = .ok (.iconst 1, 1) := by decide +kernel
theorem dX11_broken_52 : decode cX11_broken 52 = .ok (.iload_n 1, 1) := by decide +kernel
theorem dX11_broken_53 : decode cX11_broken 53 = .ok (.ishl, 1) := by decide +kernel
theorem dX11_broken_54 : decode cX11_broken 54 = .ok (.iconst (-1), 1) := by decide +kernel
theorem dX11_broken_55 : decode cX11_broken 55 = .ok (.ixor, 1) := by decide +kernel
theorem dX11_broken_56 : decode cX11_broken 56 = .ok (.iand, 1) := by decide +kernel
theorem dX11_broken_57 : decode cX11_broken 57 = .ok (.iload_n 2, 1) := by decide +kernel
theorem dX11_broken_58 : decode cX11_broken 58 = .ok (.iload_n 1, 1) := by decide +kernel
theorem dX11_broken_59 : decode cX11_broken 59 = .ok (.ishl, 1) := by decide +kernel
theorem dX11_broken_60 : decode cX11_broken 60 = .ok (.ior, 1) := by decide +kernel
theorem dX11_broken_61 : decode cX11_broken 61 = .ok (.iastore, 1) := by decide +kernel
theorem dX11_broken_62 : decode cX11_broken 62 = .ok (.aload_n 0, 1) := by decide +kernel
theorem dX11_broken_63 : decode cX11_broken 63 = .ok (.iload_n 3, 1) := by decide +kernel
theorem dX11_broken_64 : decode cX11_broken 64 = .ok (.invokevirtual 109, 3) := by decide +kernel
theorem dX11_broken_67 : decode cX11_broken 67 = .ok (.ireturn, 1) := by decide +kernel
theorem dX11_read_0 : decode cX11_read 0 = .ok (.aload_n 0, 1) := by decide +kernel
theorem dX11_read_1 : decode cX11_read 1 = .ok (.iload_n 1, 1) := by decide +kernel
theorem dX11_read_2 : decode cX11_read 2 = .ok (.invokevirtual 120, 3) := by decide +kernel
theorem dX11_read_5 : decode cX11_read 5 = .ok (.ifCond .eq 16, 3) := by decide +kernel
theorem dX11_read_8 : decode cX11_read 8 = .ok (.iload_n 2, 1) := by decide +kernel
theorem dX11_read_9 : decode cX11_read 9 = .ok (.iconst (-1), 1) := by decide +kernel
theorem dX11_read_10 : decode cX11_read 10 = .ok (.if_icmp .eq 17, 3) := by decide +kernel
theorem dX11_read_13 : decode cX11_read 13 = .ok (.aload_n 0, 1) := by decide +kernel
theorem dX11_read_14 : decode cX11_read 14 = .ok (.iload_n 2, 1) := by decide +kernel
theorem dX11_read_15 : decode cX11_read 15 = .ok (.invokevirtual 123, 3) := by decide +kernel
theorem dX11_read_18 : decode cX11_read 18 = .ok (.ifCond .ne 9, 3) := by decide +kernel
theorem dX11_read_21 : decode cX11_read 21 = .ok (.aload_n 0, 1) := by decide +kernel
theorem dX11_read_22 : decode cX11_read 22 = .ok (.iconst (-1), 1) := by decide +kernel
theorem dX11_read_23 : decode cX11_read 23 = .ok (.invokevirtual 105, 3) := by decide +kernel
theorem dX11_read_26 : decode cX11_read 26 = .ok (.ireturn, 1) := by decide +kernel
theorem dX11_read_27 : decode cX11_read 27 = .ok (.aload_n 0, 1) := by decide +kernel
theorem dX11_read_28 : decode cX11_read 28 = .ok (.iload_n 1, 1) := by decide +kernel
theorem dX11_read_29 : decode cX11_read 29 = .ok (.invokevirtual 126, 3) := by decide +kernel
theorem dX11_read_32 : decode cX11_read 32 = .ok (.istore_n 3, 1) := by decide +kernel
theorem dX11_read_33 : decode cX11_read 33 = .ok (.aload_n 0, 1) := by decide +kernel
theorem dX11_read_34 : decode cX11_read 34 = .ok (.getfield 20, 3) := by decide +kernel
theorem dX11_read_37 : decode cX11_read 37 = .ok (.iconst 0, 1) := by decide +kernel
theorem dX11_read_38 : decode cX11_read 38 = .ok (.iload_n 1, 1) := by decide +kernel
theorem dX11_read_39 : decode cX11_read 39 = .ok (.iadd, 1) := by decide +kernel
theorem dX11_read_40 : decode cX11_read 40 = .ok (.iload_n 2, 1) := by decide +kernel
theorem dX11_read_41 : decode cX11_read 41 = .ok (.iastore, 1) := by decide +kernel
theorem dX11_read_42 : decode cX11_read 42 = .ok (.aload_n 0, 1) := by decide +kernel
theorem dX11_read_43 : decode cX11_read 43 = .ok (.iload_n 3, 1) := by decide +kernel
theorem dX11_read_44 : decode cX11_read 44 = .ok (.invokevirtual 109, 3) := by decide +kernel
theorem dX11_read_47 : decode cX11_read 47 = .ok (.ireturn, 1) := by decide +kernel
theorem dX11_of_0 : decode cX11_of 0 = .ok (.aload_n 0, 1) := by decide +kernel
theorem dX11_of_1 : decode cX11_of 1 = .ok (.iload_n 1, 1) := by decide +kernel
theorem dX11_of_2 : decode cX11_of 2 = .ok (.invokevirtual 120, 3) := by decide +kernel
theorem dX11_of_5 : decode cX11_of 5 = .ok (.ifCond .eq 11, 3) := by decide +kernel
theorem dX11_of_8 : decode cX11_of 8 = .ok (.aload_n 0, 1) := by decide +kernel
theorem dX11_of_9 : decode cX11_of 9 = .ok (.iload_n 1, 1) := by decide +kernel
theorem dX11_of_10 : decode cX11_of 10 = .ok (.invokevirtual 126, 3) := by decide +kernel
theorem dX11_of_13 : decode cX11_of 13 = .ok (.goto 4, 3) := by decide +kernel
theorem dX11_of_16 : decode cX11_of 16 = .ok (.iconst (-1), 1) := by decide +kernel
theorem dX11_of_17 : decode cX11_of 17 = .ok (.ireturn, 1) := by decide +kernel
theorem dX11_readMany_0 : decode cX11_readMany 0 = .ok (.iconst 0, 1) := by decide +kernel
theorem dX11_readMany_1 : decode cX11_readMany 1 = .ok (.istore_n 1, 1) := by decide +kernel
theorem dX11_readMany_2 : decode cX11_readMany 2 = .ok (.iconst 0, 1) := by decide +kernel
theorem dX11_readMany_3 : decode cX11_readMany 3 = .ok (.istore_n 2, 1) := by decide +kernel
theorem dX11_readMany_4 : decode cX11_readMany 4 = .ok (.iload_n 2, 1) := by decide +kernel
theorem dX11_readMany_5 : decode cX11_readMany 5 = .ok (.aload_n 0, 1) := by decide +kernel
theorem dX11_readMany_6 : decode cX11_readMany 6 = .ok (.invokevirtual 112, 3) := by decide +kernel
theorem dX11_readMany_9 : decode cX11_readMany 9 = .ok (.if_icmp .ge 26, 3) := by decide +kernel
theorem dX11_readMany_12 : decode cX11_readMany 12 = .ok (.iload_n 1, 1) := by decide +kernel
theorem dX11_readMany_13 : decode cX11_readMany 13 = .ok (.aload_n 0, 1) := by decide +kernel
theorem dX11_readMany_14 : decode cX11_readMany 14 = .ok (.iload_n 2, 1) := by decide +kernel
theorem dX11_readMany_15 : decode cX11_readMany 15 = .ok (.invokevirtual 126, 3) := by decide +kernel
theorem dX11_readMany_18 : decode cX11_readMany 18 = .ok (.iconst (-1), 1) := by decide +kernel
theorem dX11_readMany_19 : decode cX11_readMany 19 = .ok (.if_icmp .ne 7, 3) := by decide +kernel
theorem dX11_readMany_22 : decode cX11_readMany 22 = .ok (.iconst 0, 1) := by decide +kernel
theorem dX11_readMany_23 : decode cX11_readMany 23 = .ok (.goto 4, 3) := by decide +kernel
theorem dX11_readMany_26 : decode cX11_readMany 26 = .ok (.iconst 1, 1) := by decide +kernel
theorem dX11_readMany_27 : decode cX11_readMany 27 = .ok (.iadd, 1) := by decide +kernel
theorem dX11_readMany_28 : decode cX11_readMany 28 = .ok (.istore_n 1, 1) := by decide +kernel
theorem dX11_readMany_29 : decode cX11_readMany 29 = .ok (.iinc 2 1, 3) := by decide +kernel
theorem dX11_readMany_32 : decode cX11_readMany 32 = .ok (.goto (-28), 3) := by decide +kernel
theorem dX11_readMany_35 : decode cX11_readMany 35 = .ok (.iload_n 1, 1) := by decide +kernel
theorem dX11_readMany_36 : decode cX11_readMany 36 = .ok (.ireturn, 1) := by decide +kernel
theorem dX11_row_0 : decode cX11_row 0 = .ok (.aload_n 0, 1) := by decide +kernel
theorem dX11_row_1 : decode cX11_row 1 = .ok (.getfield 129, 3) := by decide +kernel
theorem dX11_row_4 : decode cX11_row 4 = .ok (.istore_n 1, 1) := by decide +kernel
theorem dX11_row_5 : decode cX11_row 5 = .ok (.aload_n 0, 1) := by decide +kernel
theorem dX11_row_6 : decode cX11_row 6 = .ok (.iconst 0, 1) := by decide +kernel
theorem dX11_row_7 : decode cX11_row 7 = .ok (.putfield 129, 3) := by decide +kernel
theorem dX11_row_10 : decode cX11_row 10 = .ok (.iload_n 1, 1) := by decide +kernel
theorem dX11_row_11 : decode cX11_row 11 = .ok (.ifCond .ne 10, 3) := by decide +kernel
theorem dX11_row_14 : decode cX11_row 14 = .ok (.aload_n 0, 1) := by decide +kernel
theorem dX11_row_15 : decode cX11_row 15 = .ok (.bipush (-6), 2) := by decide +kernel
theorem dX11_row_17 : decode cX11_row 17 = .ok (.invokevirtual 105, 3) := by decide +kernel
theorem dX11_row_20 : decode cX11_row 20 = .ok (.ireturn, 1) := by decide +kernel
theorem dX11_row_21 : decode cX11_row 21 = .ok (.iconst 0, 1) := by decide +kernel
theorem dX11_row_22 : decode cX11_row 22 = .ok (.istore_n 2, 1) := by decide +kernel
theorem dX11_row_23 : decode cX11_row 23 = .ok (.iload_n 2, 1) := by decide +kernel
theorem dX11_row_24 : decode cX11_row 24 = .ok (.aload_n 0, 1) := by decide +kernel
theorem dX11_row_25 : decode cX11_row 25 = .ok (.invokevirtual 112, 3) := by decide +kernel
theorem dX11_row_28 : decode cX11_row 28 = .ok (.if_icmp .ge 45, 3) := by decide +kernel
theorem dX11_row_31 : decode cX11_row 31 = .ok (.aload_n 0, 1) := by decide +kernel
theorem dX11_row_32 : decode cX11_row 32 = .ok (.getfield 20, 3) := by decide +kernel
theorem dX11_row_35 : decode cX11_row 35 = .ok (.iconst 0, 1) := by decide +kernel
theorem dX11_row_36 : decode cX11_row 36 = .ok (.iload_n 2, 1) := by decide +kernel
theorem dX11_row_37 : decode cX11_row 37 = .ok (.iadd, 1) := by decide +kernel
theorem dX11_row_38 : decode cX11_row 38 = .ok (.iload_n 2, 1) := by decide +kernel
theorem dX11_row_39 : decode cX11_row 39 = .ok (.iload_n 1, 1) := by decide +kernel
theorem dX11_row_40 : decode cX11_row 40 = .ok (.if_icmp .ge 25, 3) := by decide +kernel
theorem dX11_row_43 : decode cX11_row 43 = .ok (.aload_n 0, 1) := by decide +kernel
theorem dX11_row_44 : decode cX11_row 44 = .ok (.aload_n 0, 1) := by decide +kernel
theorem dX11_row_45 : decode cX11_row 45 = .ok (.getfield 34, 3) := by decide +kernel
theorem dX11_row_48 : decode cX11_row 48 = .ok (.iload_n 2, 1) := by decide +kernel
theorem dX11_row_49 : decode cX11_row 49 = .ok (.baload, 1) := by decide +kernel
theorem dX11_row_50 : decode cX11_row 50 = .ok (.invokevirtual 123, 3) := by decide +kernel
theorem dX11_row_53 : decode cX11_row 53 = .ok (.ifCond .eq 12, 3) := by decide +kernel
theorem dX11_row_56 : decode cX11_row 56 = .ok (.aload_n 0, 1) := by decide +kernel
theorem dX11_row_57 : decode cX11_row 57 = .ok (.getfield 34, 3) := by decide +kernel
theorem dX11_row_60 : decode cX11_row 60 = .ok (.iload_n 2, 1) := by decide +kernel
theorem dX11_row_61 : decode cX11_row 61 = .ok (.baload, 1) := by decide +kernel
theorem dX11_row_62 : decode cX11_row 62 = .ok (.goto 4, 3) := by decide +kernel
theorem dX11_row_65 : decode cX11_row 65 = .ok (.iconst (-1), 1) := by decide +kernel
theorem dX11_row_66 : decode cX11_row 66 = .ok (.iastore, 1) := by decide +kernel
theorem dX11_row_67 : decode cX11_row 67 = .ok (.iinc 2 1, 3) := by decide +kernel
theorem dX11_row_70 : decode cX11_row 70 = .ok (.goto (-47), 3) := by decide +kernel
theorem dX11_row_73 : decode cX11_row 73 = .ok (.aload_n 0, 1) := by decide +kernel
theorem dX11_row_74 : decode cX11_row 74 = .ok (.iconst 0, 1) := by decide +kernel
theorem dX11_row_75 : decode cX11_row 75 = .ok (.iload_n 1, 1) := by decide +kernel
theorem dX11_row_76 : decode cX11_row 76 = .ok (.aload_n 0, 1) := by decide +kernel
theorem dX11_row_77 : decode cX11_row 77 = .ok (.invokevirtual 112, 3) := by decide +kernel
theorem dX11_row_80 : decode cX11_row 80 = .ok (.isub, 1) := by decide +kernel
theorem dX11_row_81 : decode cX11_row 81 = .ok (.invokestatic 132, 3) := by decide +kernel
theorem dX11_row_84 : decode cX11_row 84 = .ok (.putfield 136, 3) := by decide +kernel
theorem dX11_row_87 : decode cX11_row 87 = .ok (.aload_n 0, 1) := by decide +kernel
theorem dX11_row_88 : decode cX11_row 88 = .ok (.aload_n 0, 1) := by decide +kernel
theorem dX11_row_89 : decode cX11_row 89 = .ok (.invokevirtual 139, 3) := by decide +kernel
theorem dX11_row_92 : decode cX11_row 92 = .ok (.invokevirtual 109, 3) := by decide +kernel
theorem dX11_row_95 : decode cX11_row 95 = .ok (.ireturn, 1) := by decide +kernel
theorem dX11_torn_0 : decode cX11_torn 0 = .ok (.aload_n 0, 1) := by decide +kernel
theorem dX11_torn_1 : decode cX11_torn 1 = .ok (.getfield 136, 3) := by decide +kernel
theorem dX11_torn_4 : decode cX11_torn 4 = .ok (.ireturn, 1) := by decide +kernel
theorem dX11_feed_0 : decode cX11_feed 0 = .ok (.aload_n 0, 1) := by decide +kernel
theorem dX11_feed_1 : decode cX11_feed 1 = .ok (.getfield 129, 3) := by decide +kernel
theorem dX11_feed_4 : decode cX11_feed 4 = .ok (.bipush 20, 2) := by decide +kernel
theorem dX11_feed_6 : decode cX11_feed 6 = .ok (.iadd, 1) := by decide +kernel
theorem dX11_feed_7 : decode cX11_feed 7 = .ok (.sipush 400, 3) := by decide +kernel
theorem dX11_feed_10 : decode cX11_feed 10 = .ok (.if_icmp .le 5, 3) := by decide +kernel
theorem dX11_feed_13 : decode cX11_feed 13 = .ok (.iconst (-1), 1) := by decide +kernel
theorem dX11_feed_14 : decode cX11_feed 14 = .ok (.ireturn, 1) := by decide +kernel
theorem dX11_feed_15 : decode cX11_feed 15 = .ok (.aload_n 0, 1) := by decide +kernel
theorem dX11_feed_16 : decode cX11_feed 16 = .ok (.getfield 37, 3) := by decide +kernel
theorem dX11_feed_19 : decode cX11_feed 19 = .ok (.iconst 0, 1) := by decide +kernel
theorem dX11_feed_20 : decode cX11_feed 20 = .ok (.iload_n 1, 1) := by decide +kernel
theorem dX11_feed_21 : decode cX11_feed 21 = .ok (.iastore, 1) := by decide +kernel
theorem dX11_feed_22 : decode cX11_feed 22 = .ok (.aload_n 0, 1) := by decide +kernel
theorem dX11_feed_23 : decode cX11_feed 23 = .ok (.getfield 37, 3) := by decide +kernel
theorem dX11_feed_26 : decode cX11_feed 26 = .ok (.iconst 1, 1) := by decide +kernel
theorem dX11_feed_27 : decode cX11_feed 27 = .ok (.iload_n 2, 1) := by decide +kernel
theorem dX11_feed_28 : decode cX11_feed 28 = .ok (.iastore, 1) := by decide +kernel
theorem dX11_feed_29 : decode cX11_feed 29 = .ok (.aload_n 0, 1) := by decide +kernel
theorem dX11_feed_30 : decode cX11_feed 30 = .ok (.getfield 37, 3) := by decide +kernel
theorem dX11_feed_33 : decode cX11_feed 33 = .ok (.iconst 2, 1) := by decide +kernel
theorem dX11_feed_34 : decode cX11_feed 34 = .ok (.iload_n 3, 1) := by decide +kernel
theorem dX11_feed_35 : decode cX11_feed 35 = .ok (.iastore, 1) := by decide +kernel
theorem dX11_feed_36 : decode cX11_feed 36 = .ok (.aload_n 0, 1) := by decide +kernel
theorem dX11_feed_37 : decode cX11_feed 37 = .ok (.getfield 37, 3) := by decide +kernel
theorem dX11_feed_40 : decode cX11_feed 40 = .ok (.iconst 3, 1) := by decide +kernel
theorem dX11_feed_41 : decode cX11_feed 41 = .ok (.iload 4, 2) := by decide +kernel
theorem dX11_feed_43 : decode cX11_feed 43 = .ok (.iastore, 1) := by decide +kernel
theorem dX11_feed_44 : decode cX11_feed 44 = .ok (.aload_n 0, 1) := by decide +kernel
theorem dX11_feed_45 : decode cX11_feed 45 = .ok (.getfield 37, 3) := by decide +kernel
theorem dX11_feed_48 : decode cX11_feed 48 = .ok (.iconst 4, 1) := by decide +kernel
theorem dX11_feed_49 : decode cX11_feed 49 = .ok (.iload 5, 2) := by decide +kernel
theorem dX11_feed_51 : decode cX11_feed 51 = .ok (.iastore, 1) := by decide +kernel
theorem dX11_feed_52 : decode cX11_feed 52 = .ok (.iconst 0, 1) := by decide +kernel
theorem dX11_feed_53 : decode cX11_feed 53 = .ok (.istore 6, 2) := by decide +kernel
theorem dX11_feed_55 : decode cX11_feed 55 = .ok (.iload 6, 2) := by decide +kernel
theorem dX11_feed_57 : decode cX11_feed 57 = .ok (.bipush 20, 2) := by decide +kernel
theorem dX11_feed_59 : decode cX11_feed 59 = .ok (.if_icmp .ge 42, 3) := by decide +kernel
theorem dX11_feed_62 : decode cX11_feed 62 = .ok (.aload_n 0, 1) := by decide +kernel
theorem dX11_feed_63 : decode cX11_feed 63 = .ok (.getfield 34, 3) := by decide +kernel
theorem dX11_feed_66 : decode cX11_feed 66 = .ok (.aload_n 0, 1) := by decide +kernel
theorem dX11_feed_67 : decode cX11_feed 67 = .ok (.getfield 129, 3) := by decide +kernel
theorem dX11_feed_70 : decode cX11_feed 70 = .ok (.iload 6, 2) := by decide +kernel
theorem dX11_feed_72 : decode cX11_feed 72 = .ok (.iadd, 1) := by decide +kernel
theorem dX11_feed_73 : decode cX11_feed 73 = .ok (.aload_n 0, 1) := by decide +kernel
theorem dX11_feed_74 : decode cX11_feed 74 = .ok (.getfield 37, 3) := by decide +kernel
theorem dX11_feed_77 : decode cX11_feed 77 = .ok (.iload 6, 2) := by decide +kernel
theorem dX11_feed_79 : decode cX11_feed 79 = .ok (.iconst 4, 1) := by decide +kernel
theorem dX11_feed_80 : decode cX11_feed 80 = .ok (.idiv, 1) := by decide +kernel
theorem dX11_feed_81 : decode cX11_feed 81 = .ok (.iaload, 1) := by decide +kernel
theorem dX11_feed_82 : decode cX11_feed 82 = .ok (.bipush 24, 2) := by decide +kernel
theorem dX11_feed_84 : decode cX11_feed 84 = .ok (.bipush 8, 2) := by decide +kernel
theorem dX11_feed_86 : decode cX11_feed 86 = .ok (.iload 6, 2) := by decide +kernel
theorem dX11_feed_88 : decode cX11_feed 88 = .ok (.iconst 4, 1) := by decide +kernel
theorem dX11_feed_89 : decode cX11_feed 89 = .ok (.irem, 1) := by decide +kernel
theorem dX11_feed_90 : decode cX11_feed 90 = .ok (.imul, 1) := by decide +kernel
theorem dX11_feed_91 : decode cX11_feed 91 = .ok (.isub, 1) := by decide +kernel
theorem dX11_feed_92 : decode cX11_feed 92 = .ok (.ishr, 1) := by decide +kernel
theorem dX11_feed_93 : decode cX11_feed 93 = .ok (.i2b, 1) := by decide +kernel
theorem dX11_feed_94 : decode cX11_feed 94 = .ok (.bastore, 1) := by decide +kernel
theorem dX11_feed_95 : decode cX11_feed 95 = .ok (.iinc 6 1, 3) := by decide +kernel
theorem dX11_feed_98 : decode cX11_feed 98 = .ok (.goto (-43), 3) := by decide +kernel
theorem dX11_feed_101 : decode cX11_feed 101 = .ok (.aload_n 0, 1) := by decide +kernel
theorem dX11_feed_102 : decode cX11_feed 102 = .ok (.dup, 1) := by decide +kernel
theorem dX11_feed_103 : decode cX11_feed 103 = .ok (.getfield 129, 3) := by decide +kernel
theorem dX11_feed_106 : decode cX11_feed 106 = .ok (.bipush 20, 2) := by decide +kernel
theorem dX11_feed_108 : decode cX11_feed 108 = .ok (.iadd, 1) := by decide +kernel
theorem dX11_feed_109 : decode cX11_feed 109 = .ok (.putfield 129, 3) := by decide +kernel
theorem dX11_feed_112 : decode cX11_feed 112 = .ok (.aload_n 0, 1) := by decide +kernel
theorem dX11_feed_113 : decode cX11_feed 113 = .ok (.getfield 129, 3) := by decide +kernel
theorem dX11_feed_116 : decode cX11_feed 116 = .ok (.ireturn, 1) := by decide +kernel
theorem dX11_end_0 : decode cX11_end 0 = .ok (.iload_n 1, 1) := by decide +kernel
theorem dX11_end_1 : decode cX11_end 1 = .ok (.iconst 0, 1) := by decide +kernel
theorem dX11_end_2 : decode cX11_end 2 = .ok (.aload_n 0, 1) := by decide +kernel
theorem dX11_end_3 : decode cX11_end 3 = .ok (.getfield 129, 3) := by decide +kernel
theorem dX11_end_6 : decode cX11_end 6 = .ok (.invokestatic 101, 3) := by decide +kernel
theorem dX11_end_9 : decode cX11_end 9 = .ok (.ifCond .ne 5, 3) := by decide +kernel
theorem dX11_end_12 : decode cX11_end 12 = .ok (.iconst (-1), 1) := by decide +kernel
theorem dX11_end_13 : decode cX11_end 13 = .ok (.ireturn, 1) := by decide +kernel
theorem dX11_end_14 : decode cX11_end 14 = .ok (.aload_n 0, 1) := by decide +kernel
theorem dX11_end_15 : decode cX11_end 15 = .ok (.iload_n 1, 1) := by decide +kernel
theorem dX11_end_16 : decode cX11_end 16 = .ok (.putfield 129, 3) := by decide +kernel
theorem dX11_end_19 : decode cX11_end 19 = .ok (.iload_n 1, 1) := by decide +kernel
theorem dX11_end_20 : decode cX11_end 20 = .ok (.ireturn, 1) := by decide +kernel
theorem dX11_isSmall_0 : decode cX11_isSmall 0 = .ok (.iload_n 0, 1) := by decide +kernel
theorem dX11_isSmall_1 : decode cX11_isSmall 1 = .ok (.bipush 97, 2) := by decide +kernel
theorem dX11_isSmall_3 : decode cX11_isSmall 3 = .ok (.if_icmp .lt 13, 3) := by decide +kernel
theorem dX11_isSmall_6 : decode cX11_isSmall 6 = .ok (.iload_n 0, 1) := by decide +kernel
theorem dX11_isSmall_7 : decode cX11_isSmall 7 = .ok (.bipush 122, 2) := by decide +kernel
theorem dX11_isSmall_9 : decode cX11_isSmall 9 = .ok (.if_icmp .gt 7, 3) := by decide +kernel
theorem dX11_isSmall_12 : decode cX11_isSmall 12 = .ok (.iconst 1, 1) := by decide +kernel
theorem dX11_isSmall_13 : decode cX11_isSmall 13 = .ok (.goto 4, 3) := by decide +kernel
theorem dX11_isSmall_16 : decode cX11_isSmall 16 = .ok (.iconst 0, 1) := by decide +kernel
theorem dX11_isSmall_17 : decode cX11_isSmall 17 = .ok (.ireturn, 1) := by decide +kernel
theorem dX11_isDigit_0 : decode cX11_isDigit 0 = .ok (.iload_n 0, 1) := by decide +kernel
theorem dX11_isDigit_1 : decode cX11_isDigit 1 = .ok (.bipush 48, 2) := by decide +kernel
theorem dX11_isDigit_3 : decode cX11_isDigit 3 = .ok (.if_icmp .lt 13, 3) := by decide +kernel
theorem dX11_isDigit_6 : decode cX11_isDigit 6 = .ok (.iload_n 0, 1) := by decide +kernel
theorem dX11_isDigit_7 : decode cX11_isDigit 7 = .ok (.bipush 57, 2) := by decide +kernel
theorem dX11_isDigit_9 : decode cX11_isDigit 9 = .ok (.if_icmp .gt 7, 3) := by decide +kernel
theorem dX11_isDigit_12 : decode cX11_isDigit 12 = .ok (.iconst 1, 1) := by decide +kernel
theorem dX11_isDigit_13 : decode cX11_isDigit 13 = .ok (.goto 4, 3) := by decide +kernel
theorem dX11_isDigit_16 : decode cX11_isDigit 16 = .ok (.iconst 0, 1) := by decide +kernel
theorem dX11_isDigit_17 : decode cX11_isDigit 17 = .ok (.ireturn, 1) := by decide +kernel
theorem dX11_wordOf_0 : decode cX11_wordOf 0 = .ok (.iconst 1, 1) := by decide +kernel
theorem dX11_wordOf_1 : decode cX11_wordOf 1 = .ok (.istore_n 3, 1) := by decide +kernel
theorem dX11_wordOf_2 : decode cX11_wordOf 2 = .ok (.iconst 0, 1) := by decide +kernel
theorem dX11_wordOf_3 : decode cX11_wordOf 3 = .ok (.istore 4, 2) := by decide +kernel
theorem dX11_wordOf_5 : decode cX11_wordOf 5 = .ok (.iload 4, 2) := by decide +kernel
theorem dX11_wordOf_7 : decode cX11_wordOf 7 = .ok (.aload_n 0, 1) := by decide +kernel
theorem dX11_wordOf_8 : decode cX11_wordOf 8 = .ok (.getfield 30, 3) := by decide +kernel
theorem dX11_wordOf_11 : decode cX11_wordOf 11 = .ok (.arraylength, 1) := by decide +kernel
theorem dX11_wordOf_12 : decode cX11_wordOf 12 = .ok (.if_icmp .ge 114, 3) := by decide +kernel
theorem dX11_wordOf_15 : decode cX11_wordOf 15 = .ok (.iconst 0, 1) := by decide +kernel
theorem dX11_wordOf_16 : decode cX11_wordOf 16 = .ok (.istore 5, 2) := by decide +kernel
theorem dX11_wordOf_18 : decode cX11_wordOf 18 = .ok (.aload_n 0, 1) := by decide +kernel
theorem dX11_wordOf_19 : decode cX11_wordOf 19 = .ok (.getfield 30, 3) := by decide +kernel
theorem dX11_wordOf_22 : decode cX11_wordOf 22 = .ok (.iload 4, 2) := by decide +kernel
theorem dX11_wordOf_24 : decode cX11_wordOf 24 = .ok (.iload 5, 2) := by decide +kernel
theorem dX11_wordOf_26 : decode cX11_wordOf 26 = .ok (.iadd, 1) := by decide +kernel
theorem dX11_wordOf_27 : decode cX11_wordOf 27 = .ok (.baload, 1) := by decide +kernel
theorem dX11_wordOf_28 : decode cX11_wordOf 28 = .ok (.bipush 32, 2) := by decide +kernel
theorem dX11_wordOf_30 : decode cX11_wordOf 30 = .ok (.if_icmp .eq 9, 3) := by decide +kernel
theorem dX11_wordOf_33 : decode cX11_wordOf 33 = .ok (.iinc 5 1, 3) := by decide +kernel
theorem dX11_wordOf_36 : decode cX11_wordOf 36 = .ok (.goto (-18), 3) := by decide +kernel
theorem dX11_wordOf_39 : decode cX11_wordOf 39 = .ok (.iload 5, 2) := by decide +kernel
theorem dX11_wordOf_41 : decode cX11_wordOf 41 = .ok (.iload_n 2, 1) := by decide +kernel
theorem dX11_wordOf_42 : decode cX11_wordOf 42 = .ok (.iload_n 1, 1) := by decide +kernel
theorem dX11_wordOf_43 : decode cX11_wordOf 43 = .ok (.isub, 1) := by decide +kernel
theorem dX11_wordOf_44 : decode cX11_wordOf 44 = .ok (.if_icmp .ne 7, 3) := by decide +kernel
theorem dX11_wordOf_47 : decode cX11_wordOf 47 = .ok (.iconst 1, 1) := by decide +kernel
theorem dX11_wordOf_48 : decode cX11_wordOf 48 = .ok (.goto 4, 3) := by decide +kernel
theorem dX11_wordOf_51 : decode cX11_wordOf 51 = .ok (.iconst 0, 1) := by decide +kernel
theorem dX11_wordOf_52 : decode cX11_wordOf 52 = .ok (.istore 6, 2) := by decide +kernel
theorem dX11_wordOf_54 : decode cX11_wordOf 54 = .ok (.iconst 0, 1) := by decide +kernel
theorem dX11_wordOf_55 : decode cX11_wordOf 55 = .ok (.istore 7, 2) := by decide +kernel
theorem dX11_wordOf_57 : decode cX11_wordOf 57 = .ok (.iload 7, 2) := by decide +kernel
theorem dX11_wordOf_59 : decode cX11_wordOf 59 = .ok (.iload 5, 2) := by decide +kernel
theorem dX11_wordOf_61 : decode cX11_wordOf 61 = .ok (.if_icmp .ge 43, 3) := by decide +kernel
theorem dX11_wordOf_64 : decode cX11_wordOf 64 = .ok (.iload 6, 2) := by decide +kernel
theorem dX11_wordOf_66 : decode cX11_wordOf 66 = .ok (.ifCond .eq 38, 3) := by decide +kernel
theorem dX11_wordOf_69 : decode cX11_wordOf 69 = .ok (.aload_n 0, 1) := by decide +kernel
theorem dX11_wordOf_70 : decode cX11_wordOf 70 = .ok (.getfield 30, 3) := by decide +kernel
theorem dX11_wordOf_73 : decode cX11_wordOf 73 = .ok (.iload 4, 2) := by decide +kernel
theorem dX11_wordOf_75 : decode cX11_wordOf 75 = .ok (.iload 7, 2) := by decide +kernel
theorem dX11_wordOf_77 : decode cX11_wordOf 77 = .ok (.iadd, 1) := by decide +kernel
theorem dX11_wordOf_78 : decode cX11_wordOf 78 = .ok (.baload, 1) := by decide +kernel
theorem dX11_wordOf_79 : decode cX11_wordOf 79 = .ok (.aload_n 0, 1) := by decide +kernel
theorem dX11_wordOf_80 : decode cX11_wordOf 80 = .ok (.getfield 34, 3) := by decide +kernel
theorem dX11_wordOf_83 : decode cX11_wordOf 83 = .ok (.iload_n 1, 1) := by decide +kernel
theorem dX11_wordOf_84 : decode cX11_wordOf 84 = .ok (.iload 7, 2) := by decide +kernel
theorem dX11_wordOf_86 : decode cX11_wordOf 86 = .ok (.iadd, 1) := by decide +kernel
theorem dX11_wordOf_87 : decode cX11_wordOf 87 = .ok (.baload, 1) := by decide +kernel
theorem dX11_wordOf_88 : decode cX11_wordOf 88 = .ok (.if_icmp .ne 7, 3) := by decide +kernel
theorem dX11_wordOf_91 : decode cX11_wordOf 91 = .ok (.iconst 1, 1) := by decide +kernel
theorem dX11_wordOf_92 : decode cX11_wordOf 92 = .ok (.goto 4, 3) := by decide +kernel
theorem dX11_wordOf_95 : decode cX11_wordOf 95 = .ok (.iconst 0, 1) := by decide +kernel
theorem dX11_wordOf_96 : decode cX11_wordOf 96 = .ok (.istore 6, 2) := by decide +kernel
theorem dX11_wordOf_98 : decode cX11_wordOf 98 = .ok (.iinc 7 1, 3) := by decide +kernel
theorem dX11_wordOf_101 : decode cX11_wordOf 101 = .ok (.goto (-44), 3) := by decide +kernel
theorem dX11_wordOf_104 : decode cX11_wordOf 104 = .ok (.iload 6, 2) := by decide +kernel
theorem dX11_wordOf_106 : decode cX11_wordOf 106 = .ok (.ifCond .eq 5, 3) := by decide +kernel
theorem dX11_wordOf_109 : decode cX11_wordOf 109 = .ok (.iload_n 3, 1) := by decide +kernel
theorem dX11_wordOf_110 : decode cX11_wordOf 110 = .ok (.ireturn, 1) := by decide +kernel
theorem dX11_wordOf_111 : decode cX11_wordOf 111 = .ok (.iload 4, 2) := by decide +kernel
theorem dX11_wordOf_113 : decode cX11_wordOf 113 = .ok (.iload 5, 2) := by decide +kernel
theorem dX11_wordOf_115 : decode cX11_wordOf 115 = .ok (.iconst 1, 1) := by decide +kernel
theorem dX11_wordOf_116 : decode cX11_wordOf 116 = .ok (.iadd, 1) := by decide +kernel
theorem dX11_wordOf_117 : decode cX11_wordOf 117 = .ok (.iadd, 1) := by decide +kernel
theorem dX11_wordOf_118 : decode cX11_wordOf 118 = .ok (.istore 4, 2) := by decide +kernel
theorem dX11_wordOf_120 : decode cX11_wordOf 120 = .ok (.iinc 3 1, 3) := by decide +kernel
theorem dX11_wordOf_123 : decode cX11_wordOf 123 = .ok (.goto (-118), 3) := by decide +kernel
theorem dX11_wordOf_126 : decode cX11_wordOf 126 = .ok (.iconst 0, 1) := by decide +kernel
theorem dX11_wordOf_127 : decode cX11_wordOf 127 = .ok (.ireturn, 1) := by decide +kernel
theorem dX11_splits_0 : decode cX11_splits 0 = .ok (.aload_n 0, 1) := by decide +kernel
theorem dX11_splits_1 : decode cX11_splits 1 = .ok (.iconst 0, 1) := by decide +kernel
theorem dX11_splits_2 : decode cX11_splits 2 = .ok (.putfield 142, 3) := by decide +kernel
theorem dX11_splits_5 : decode cX11_splits 5 = .ok (.iconst 0, 1) := by decide +kernel
theorem dX11_splits_6 : decode cX11_splits 6 = .ok (.istore_n 2, 1) := by decide +kernel
theorem dX11_splits_7 : decode cX11_splits 7 = .ok (.iload_n 2, 1) := by decide +kernel
theorem dX11_splits_8 : decode cX11_splits 8 = .ok (.iload_n 1, 1) := by decide +kernel
theorem dX11_splits_9 : decode cX11_splits 9 = .ok (.if_icmp .ge 254, 3) := by decide +kernel
theorem dX11_splits_12 : decode cX11_splits 12 = .ok (.aload_n 0, 1) := by decide +kernel
theorem dX11_splits_13 : decode cX11_splits 13 = .ok (.getfield 34, 3) := by decide +kernel
theorem dX11_splits_16 : decode cX11_splits 16 = .ok (.iload_n 2, 1) := by decide +kernel
theorem dX11_splits_17 : decode cX11_splits 17 = .ok (.baload, 1) := by decide +kernel
theorem dX11_splits_18 : decode cX11_splits 18 = .ok (.istore_n 3, 1) := by decide +kernel
theorem dX11_splits_19 : decode cX11_splits 19 = .ok (.iload_n 3, 1) := by decide +kernel
theorem dX11_splits_20 : decode cX11_splits 20 = .ok (.bipush 32, 2) := by decide +kernel
theorem dX11_splits_22 : decode cX11_splits 22 = .ok (.if_icmp .ne 9, 3) := by decide +kernel
theorem dX11_splits_25 : decode cX11_splits 25 = .ok (.iinc 2 1, 3) := by decide +kernel
theorem dX11_splits_28 : decode cX11_splits 28 = .ok (.goto (-21), 3) := by decide +kernel
theorem dX11_splits_31 : decode cX11_splits 31 = .ok (.iload_n 2, 1) := by decide +kernel
theorem dX11_splits_32 : decode cX11_splits 32 = .ok (.iconst 1, 1) := by decide +kernel
theorem dX11_splits_33 : decode cX11_splits 33 = .ok (.iadd, 1) := by decide +kernel
theorem dX11_splits_34 : decode cX11_splits 34 = .ok (.istore 4, 2) := by decide +kernel
theorem dX11_splits_36 : decode cX11_splits 36 = .ok (.iload_n 3, 1) := by decide +kernel
theorem dX11_splits_37 : decode cX11_splits 37 = .ok (.invokestatic 145, 3) := by decide +kernel
theorem dX11_splits_40 : decode cX11_splits 40 = .ok (.ifCond .eq 28, 3) := by decide +kernel
theorem dX11_splits_43 : decode cX11_splits 43 = .ok (.iload 4, 2) := by decide +kernel
theorem dX11_splits_45 : decode cX11_splits 45 = .ok (.iload_n 1, 1) := by decide +kernel
theorem dX11_splits_46 : decode cX11_splits 46 = .ok (.if_icmp .ge 22, 3) := by decide +kernel
theorem dX11_splits_49 : decode cX11_splits 49 = .ok (.aload_n 0, 1) := by decide +kernel
theorem dX11_splits_50 : decode cX11_splits 50 = .ok (.getfield 34, 3) := by decide +kernel
theorem dX11_splits_53 : decode cX11_splits 53 = .ok (.iload 4, 2) := by decide +kernel
theorem dX11_splits_55 : decode cX11_splits 55 = .ok (.baload, 1) := by decide +kernel
theorem dX11_splits_56 : decode cX11_splits 56 = .ok (.invokestatic 145, 3) := by decide +kernel
theorem dX11_splits_59 : decode cX11_splits 59 = .ok (.ifCond .eq 9, 3) := by decide +kernel
theorem dX11_splits_62 : decode cX11_splits 62 = .ok (.iinc 4 1, 3) := by decide +kernel
theorem dX11_splits_65 : decode cX11_splits 65 = .ok (.goto (-22), 3) := by decide +kernel
theorem dX11_splits_68 : decode cX11_splits 68 = .ok (.iload_n 3, 1) := by decide +kernel
theorem dX11_splits_69 : decode cX11_splits 69 = .ok (.invokestatic 148, 3) := by decide +kernel
theorem dX11_splits_72 : decode cX11_splits 72 = .ok (.ifCond .eq 28, 3) := by decide +kernel
theorem dX11_splits_75 : decode cX11_splits 75 = .ok (.iload 4, 2) := by decide +kernel
theorem dX11_splits_77 : decode cX11_splits 77 = .ok (.iload_n 1, 1) := by decide +kernel
theorem dX11_splits_78 : decode cX11_splits 78 = .ok (.if_icmp .ge 22, 3) := by decide +kernel
theorem dX11_splits_81 : decode cX11_splits 81 = .ok (.aload_n 0, 1) := by decide +kernel
theorem dX11_splits_82 : decode cX11_splits 82 = .ok (.getfield 34, 3) := by decide +kernel
theorem dX11_splits_85 : decode cX11_splits 85 = .ok (.iload 4, 2) := by decide +kernel
theorem dX11_splits_87 : decode cX11_splits 87 = .ok (.baload, 1) := by decide +kernel
theorem dX11_splits_88 : decode cX11_splits 88 = .ok (.invokestatic 148, 3) := by decide +kernel
theorem dX11_splits_91 : decode cX11_splits 91 = .ok (.ifCond .eq 9, 3) := by decide +kernel
theorem dX11_splits_94 : decode cX11_splits 94 = .ok (.iinc 4 1, 3) := by decide +kernel
theorem dX11_splits_97 : decode cX11_splits 97 = .ok (.goto (-22), 3) := by decide +kernel
theorem dX11_splits_100 : decode cX11_splits 100 = .ok (.aload_n 0, 1) := by decide +kernel
theorem dX11_splits_101 : decode cX11_splits 101 = .ok (.getfield 49, 3) := by decide +kernel
theorem dX11_splits_104 : decode cX11_splits 104 = .ok (.aload_n 0, 1) := by decide +kernel
theorem dX11_splits_105 : decode cX11_splits 105 = .ok (.getfield 142, 3) := by decide +kernel
theorem dX11_splits_108 : decode cX11_splits 108 = .ok (.iload_n 2, 1) := by decide +kernel
theorem dX11_splits_109 : decode cX11_splits 109 = .ok (.iastore, 1) := by decide +kernel
theorem dX11_splits_110 : decode cX11_splits 110 = .ok (.aload_n 0, 1) := by decide +kernel
theorem dX11_splits_111 : decode cX11_splits 111 = .ok (.getfield 46, 3) := by decide +kernel
theorem dX11_splits_114 : decode cX11_splits 114 = .ok (.aload_n 0, 1) := by decide +kernel
theorem dX11_splits_115 : decode cX11_splits 115 = .ok (.getfield 142, 3) := by decide +kernel
theorem dX11_splits_118 : decode cX11_splits 118 = .ok (.iconst 0, 1) := by decide +kernel
theorem dX11_splits_119 : decode cX11_splits 119 = .ok (.iastore, 1) := by decide +kernel
theorem dX11_splits_120 : decode cX11_splits 120 = .ok (.aload_n 0, 1) := by decide +kernel
theorem dX11_splits_121 : decode cX11_splits 121 = .ok (.getfield 43, 3) := by decide +kernel
theorem dX11_splits_124 : decode cX11_splits 124 = .ok (.aload_n 0, 1) := by decide +kernel
theorem dX11_splits_125 : decode cX11_splits 125 = .ok (.getfield 142, 3) := by decide +kernel
theorem dX11_splits_128 : decode cX11_splits 128 = .ok (.iload_n 3, 1) := by decide +kernel
theorem dX11_splits_129 : decode cX11_splits 129 = .ok (.invokestatic 145, 3) := by decide +kernel
theorem dX11_splits_132 : decode cX11_splits 132 = .ok (.ifCond .eq 13, 3) := by decide +kernel
theorem dX11_splits_135 : decode cX11_splits 135 = .ok (.aload_n 0, 1) := by decide +kernel
theorem dX11_splits_136 : decode cX11_splits 136 = .ok (.iload_n 2, 1) := by decide +kernel
theorem dX11_splits_137 : decode cX11_splits 137 = .ok (.iload 4, 2) := by decide +kernel
theorem dX11_splits_139 : decode cX11_splits 139 = .ok (.invokevirtual 151, 3) := by decide +kernel
theorem dX11_splits_142 : decode cX11_splits 142 = .ok (.goto 23, 3) := by decide +kernel
theorem dX11_splits_145 : decode cX11_splits 145 = .ok (.iload_n 3, 1) := by decide +kernel
theorem dX11_splits_146 : decode cX11_splits 146 = .ok (.invokestatic 148, 3) := by decide +kernel
theorem dX11_splits_149 : decode cX11_splits 149 = .ok (.ifCond .eq 8, 3) := by decide +kernel
theorem dX11_splits_152 : decode cX11_splits 152 = .ok (.bipush 50, 2) := by decide +kernel
theorem dX11_splits_154 : decode cX11_splits 154 = .ok (.goto 11, 3) := by decide +kernel
theorem dX11_splits_157 : decode cX11_splits 157 = .ok (.bipush 100, 2) := by decide +kernel
theorem dX11_splits_159 : decode cX11_splits 159 = .ok (.iload_n 3, 1) := by decide +kernel
theorem dX11_splits_160 : decode cX11_splits 160 = .ok (.sipush 255, 3) := by decide +kernel
theorem dX11_splits_163 : decode cX11_splits 163 = .ok (.iand, 1) := by decide +kernel
theorem dX11_splits_164 : decode cX11_splits 164 = .ok (.iadd, 1) := by decide +kernel
theorem dX11_splits_165 : decode cX11_splits 165 = .ok (.iastore, 1) := by decide +kernel
theorem dX11_splits_166 : decode cX11_splits 166 = .ok (.iload_n 2, 1) := by decide +kernel
theorem dX11_splits_167 : decode cX11_splits 167 = .ok (.istore 5, 2) := by decide +kernel
theorem dX11_splits_169 : decode cX11_splits 169 = .ok (.iload 5, 2) := by decide +kernel
theorem dX11_splits_171 : decode cX11_splits 171 = .ok (.iload 4, 2) := by decide +kernel
theorem dX11_splits_173 : decode cX11_splits 173 = .ok (.if_icmp .ge 74, 3) := by decide +kernel
theorem dX11_splits_176 : decode cX11_splits 176 = .ok (.iload_n 3, 1) := by decide +kernel
theorem dX11_splits_177 : decode cX11_splits 177 = .ok (.invokestatic 148, 3) := by decide +kernel
theorem dX11_splits_180 : decode cX11_splits 180 = .ok (.ifCond .eq 67, 3) := by decide +kernel
theorem dX11_splits_183 : decode cX11_splits 183 = .ok (.aload_n 0, 1) := by decide +kernel
theorem dX11_splits_184 : decode cX11_splits 184 = .ok (.getfield 46, 3) := by decide +kernel
theorem dX11_splits_187 : decode cX11_splits 187 = .ok (.aload_n 0, 1) := by decide +kernel
theorem dX11_splits_188 : decode cX11_splits 188 = .ok (.getfield 142, 3) := by decide +kernel
theorem dX11_splits_191 : decode cX11_splits 191 = .ok (.aload_n 0, 1) := by decide +kernel
theorem dX11_splits_192 : decode cX11_splits 192 = .ok (.getfield 46, 3) := by decide +kernel
theorem dX11_splits_195 : decode cX11_splits 195 = .ok (.aload_n 0, 1) := by decide +kernel
theorem dX11_splits_196 : decode cX11_splits 196 = .ok (.getfield 142, 3) := by decide +kernel
theorem dX11_splits_199 : decode cX11_splits 199 = .ok (.iaload, 1) := by decide +kernel
theorem dX11_splits_200 : decode cX11_splits 200 = .ok (.ldc 154, 2) := by decide +kernel
theorem dX11_splits_202 : decode cX11_splits 202 = .ok (.if_icmp .le 15, 3) := by decide +kernel
theorem dX11_splits_205 : decode cX11_splits 205 = .ok (.aload_n 0, 1) := by decide +kernel
theorem dX11_splits_206 : decode cX11_splits 206 = .ok (.getfield 46, 3) := by decide +kernel
theorem dX11_splits_209 : decode cX11_splits 209 = .ok (.aload_n 0, 1) := by decide +kernel
theorem dX11_splits_210 : decode cX11_splits 210 = .ok (.getfield 142, 3) := by decide +kernel
theorem dX11_splits_213 : decode cX11_splits 213 = .ok (.iaload, 1) := by decide +kernel
theorem dX11_splits_214 : decode cX11_splits 214 = .ok (.goto 26, 3) := by decide +kernel
theorem dX11_splits_217 : decode cX11_splits 217 = .ok (.bipush 10, 2) := by decide +kernel
theorem dX11_splits_219 : decode cX11_splits 219 = .ok (.aload_n 0, 1) := by decide +kernel
theorem dX11_splits_220 : decode cX11_splits 220 = .ok (.getfield 46, 3) := by decide +kernel
theorem dX11_splits_223 : decode cX11_splits 223 = .ok (.aload_n 0, 1) := by decide +kernel
theorem dX11_splits_224 : decode cX11_splits 224 = .ok (.getfield 142, 3) := by decide +kernel
theorem dX11_splits_227 : decode cX11_splits 227 = .ok (.iaload, 1) := by decide +kernel
theorem dX11_splits_228 : decode cX11_splits 228 = .ok (.imul, 1) := by decide +kernel
theorem dX11_splits_229 : decode cX11_splits 229 = .ok (.aload_n 0, 1) := by decide +kernel
theorem dX11_splits_230 : decode cX11_splits 230 = .ok (.getfield 34, 3) := by decide +kernel
theorem dX11_splits_233 : decode cX11_splits 233 = .ok (.iload 5, 2) := by decide +kernel
theorem dX11_splits_235 : decode cX11_splits 235 = .ok (.baload, 1) := by decide +kernel
theorem dX11_splits_236 : decode cX11_splits 236 = .ok (.iadd, 1) := by decide +kernel
theorem dX11_splits_237 : decode cX11_splits 237 = .ok (.bipush 48, 2) := by decide +kernel
theorem dX11_splits_239 : decode cX11_splits 239 = .ok (.isub, 1) := by decide +kernel
theorem dX11_splits_240 : decode cX11_splits 240 = .ok (.iastore, 1) := by decide +kernel
theorem dX11_splits_241 : decode cX11_splits 241 = .ok (.iinc 5 1, 3) := by decide +kernel
theorem dX11_splits_244 : decode cX11_splits 244 = .ok (.goto (-75), 3) := by decide +kernel
theorem dX11_splits_247 : decode cX11_splits 247 = .ok (.aload_n 0, 1) := by decide +kernel
theorem dX11_splits_248 : decode cX11_splits 248 = .ok (.dup, 1) := by decide +kernel
theorem dX11_splits_249 : decode cX11_splits 249 = .ok (.getfield 142, 3) := by decide +kernel
theorem dX11_splits_252 : decode cX11_splits 252 = .ok (.iconst 1, 1) := by decide +kernel
theorem dX11_splits_253 : decode cX11_splits 253 = .ok (.iadd, 1) := by decide +kernel
theorem dX11_splits_254 : decode cX11_splits 254 = .ok (.putfield 142, 3) := by decide +kernel
theorem dX11_splits_257 : decode cX11_splits 257 = .ok (.iload 4, 2) := by decide +kernel
theorem dX11_splits_259 : decode cX11_splits 259 = .ok (.istore_n 2, 1) := by decide +kernel
theorem dX11_splits_260 : decode cX11_splits 260 = .ok (.goto (-253), 3) := by decide +kernel
theorem dX11_splits_263 : decode cX11_splits 263 = .ok (.aload_n 0, 1) := by decide +kernel
theorem dX11_splits_264 : decode cX11_splits 264 = .ok (.getfield 49, 3) := by decide +kernel
theorem dX11_splits_267 : decode cX11_splits 267 = .ok (.aload_n 0, 1) := by decide +kernel
theorem dX11_splits_268 : decode cX11_splits 268 = .ok (.getfield 142, 3) := by decide +kernel
theorem dX11_splits_271 : decode cX11_splits 271 = .ok (.iload_n 1, 1) := by decide +kernel
theorem dX11_splits_272 : decode cX11_splits 272 = .ok (.iastore, 1) := by decide +kernel
theorem dX11_splits_273 : decode cX11_splits 273 = .ok (.aload_n 0, 1) := by decide +kernel
theorem dX11_splits_274 : decode cX11_splits 274 = .ok (.getfield 43, 3) := by decide +kernel
theorem dX11_splits_277 : decode cX11_splits 277 = .ok (.aload_n 0, 1) := by decide +kernel
theorem dX11_splits_278 : decode cX11_splits 278 = .ok (.getfield 142, 3) := by decide +kernel
theorem dX11_splits_281 : decode cX11_splits 281 = .ok (.iconst 0, 1) := by decide +kernel
theorem dX11_splits_282 : decode cX11_splits 282 = .ok (.iastore, 1) := by decide +kernel
theorem dX11_splits_283 : decode cX11_splits 283 = .ok (.aload_n 0, 1) := by decide +kernel
theorem dX11_splits_284 : decode cX11_splits 284 = .ok (.getfield 46, 3) := by decide +kernel
theorem dX11_splits_287 : decode cX11_splits 287 = .ok (.aload_n 0, 1) := by decide +kernel
theorem dX11_splits_288 : decode cX11_splits 288 = .ok (.getfield 142, 3) := by decide +kernel
theorem dX11_splits_291 : decode cX11_splits 291 = .ok (.iconst 0, 1) := by decide +kernel
theorem dX11_splits_292 : decode cX11_splits 292 = .ok (.iastore, 1) := by decide +kernel
theorem dX11_splits_293 : decode cX11_splits 293 = .ok (.return_, 1) := by decide +kernel
theorem dX11_fine_0 : decode cX11_fine 0 = .ok (.aload_n 0, 1) := by decide +kernel
theorem dX11_fine_1 : decode cX11_fine 1 = .ok (.getfield 155, 3) := by decide +kernel
theorem dX11_fine_4 : decode cX11_fine 4 = .ok (.iconst (-1), 1) := by decide +kernel
theorem dX11_fine_5 : decode cX11_fine 5 = .ok (.if_icmp .ne 7, 3) := by decide +kernel
theorem dX11_fine_8 : decode cX11_fine 8 = .ok (.iconst 1, 1) := by decide +kernel
theorem dX11_fine_9 : decode cX11_fine 9 = .ok (.goto 4, 3) := by decide +kernel
theorem dX11_fine_12 : decode cX11_fine 12 = .ok (.iconst 0, 1) := by decide +kernel
theorem dX11_fine_13 : decode cX11_fine 13 = .ok (.ireturn, 1) := by decide +kernel
theorem dX11_faults_0 : decode cX11_faults 0 = .ok (.aload_n 0, 1) := by decide +kernel
theorem dX11_faults_1 : decode cX11_faults 1 = .ok (.invokevirtual 158, 3) := by decide +kernel
theorem dX11_faults_4 : decode cX11_faults 4 = .ok (.ifCond .eq 16, 3) := by decide +kernel
theorem dX11_faults_7 : decode cX11_faults 7 = .ok (.aload_n 0, 1) := by decide +kernel
theorem dX11_faults_8 : decode cX11_faults 8 = .ok (.aload_n 0, 1) := by decide +kernel
theorem dX11_faults_9 : decode cX11_faults 9 = .ok (.getfield 49, 3) := by decide +kernel
theorem dX11_faults_12 : decode cX11_faults 12 = .ok (.aload_n 0, 1) := by decide +kernel
theorem dX11_faults_13 : decode cX11_faults 13 = .ok (.getfield 162, 3) := by decide +kernel
theorem dX11_faults_16 : decode cX11_faults 16 = .ok (.iaload, 1) := by decide +kernel
theorem dX11_faults_17 : decode cX11_faults 17 = .ok (.putfield 155, 3) := by decide +kernel
theorem dX11_faults_20 : decode cX11_faults 20 = .ok (.return_, 1) := by decide +kernel
theorem dX11_takes0_0 : decode cX11_takes0 0 = .ok (.aload_n 0, 1) := by decide +kernel
theorem dX11_takes0_1 : decode cX11_takes0 1 = .ok (.invokevirtual 158, 3) := by decide +kernel
theorem dX11_takes0_4 : decode cX11_takes0 4 = .ok (.ifCond .eq 20, 3) := by decide +kernel
theorem dX11_takes0_7 : decode cX11_takes0 7 = .ok (.aload_n 0, 1) := by decide +kernel
theorem dX11_takes0_8 : decode cX11_takes0 8 = .ok (.getfield 43, 3) := by decide +kernel
theorem dX11_takes0_11 : decode cX11_takes0 11 = .ok (.aload_n 0, 1) := by decide +kernel
theorem dX11_takes0_12 : decode cX11_takes0 12 = .ok (.getfield 162, 3) := by decide +kernel
theorem dX11_takes0_15 : decode cX11_takes0 15 = .ok (.iaload, 1) := by decide +kernel
theorem dX11_takes0_16 : decode cX11_takes0 16 = .ok (.iload_n 1, 1) := by decide +kernel
theorem dX11_takes0_17 : decode cX11_takes0 17 = .ok (.if_icmp .ne 7, 3) := by decide +kernel
theorem dX11_takes0_20 : decode cX11_takes0 20 = .ok (.iconst 1, 1) := by decide +kernel
theorem dX11_takes0_21 : decode cX11_takes0 21 = .ok (.goto 4, 3) := by decide +kernel
theorem dX11_takes0_24 : decode cX11_takes0 24 = .ok (.iconst 0, 1) := by decide +kernel
theorem dX11_takes0_25 : decode cX11_takes0 25 = .ok (.istore_n 2, 1) := by decide +kernel
theorem dX11_takes0_26 : decode cX11_takes0 26 = .ok (.iload_n 2, 1) := by decide +kernel
theorem dX11_takes0_27 : decode cX11_takes0 27 = .ok (.ifCond .eq 13, 3) := by decide +kernel
theorem dX11_takes0_30 : decode cX11_takes0 30 = .ok (.aload_n 0, 1) := by decide +kernel
theorem dX11_takes0_31 : decode cX11_takes0 31 = .ok (.dup, 1) := by decide +kernel
theorem dX11_takes0_32 : decode cX11_takes0 32 = .ok (.getfield 162, 3) := by decide +kernel
theorem dX11_takes0_35 : decode cX11_takes0 35 = .ok (.iconst 1, 1) := by decide +kernel
theorem dX11_takes0_36 : decode cX11_takes0 36 = .ok (.iadd, 1) := by decide +kernel
theorem dX11_takes0_37 : decode cX11_takes0 37 = .ok (.putfield 162, 3) := by decide +kernel
theorem dX11_takes0_40 : decode cX11_takes0 40 = .ok (.iload_n 2, 1) := by decide +kernel
theorem dX11_takes0_41 : decode cX11_takes0 41 = .ok (.ireturn, 1) := by decide +kernel
theorem dX11_must_0 : decode cX11_must 0 = .ok (.aload_n 0, 1) := by decide +kernel
theorem dX11_must_1 : decode cX11_must 1 = .ok (.iload_n 1, 1) := by decide +kernel
theorem dX11_must_2 : decode cX11_must 2 = .ok (.invokevirtual 165, 3) := by decide +kernel
theorem dX11_must_5 : decode cX11_must 5 = .ok (.ifCond .ne 7, 3) := by decide +kernel
theorem dX11_must_8 : decode cX11_must 8 = .ok (.aload_n 0, 1) := by decide +kernel
theorem dX11_must_9 : decode cX11_must 9 = .ok (.invokevirtual 168, 3) := by decide +kernel
theorem dX11_must_12 : decode cX11_must 12 = .ok (.return_, 1) := by decide +kernel
theorem dX11_leaf_0 : decode cX11_leaf 0 = .ok (.aload_n 0, 1) := by decide +kernel
theorem dX11_leaf_1 : decode cX11_leaf 1 = .ok (.getfield 171, 3) := by decide +kernel
theorem dX11_leaf_4 : decode cX11_leaf 4 = .ok (.bipush 50, 2) := by decide +kernel
theorem dX11_leaf_6 : decode cX11_leaf 6 = .ok (.if_icmp .ne 7, 3) := by decide +kernel
theorem dX11_leaf_9 : decode cX11_leaf 9 = .ok (.aload_n 0, 1) := by decide +kernel
theorem dX11_leaf_10 : decode cX11_leaf 10 = .ok (.invokevirtual 168, 3) := by decide +kernel
theorem dX11_leaf_13 : decode cX11_leaf 13 = .ok (.aload_n 0, 1) := by decide +kernel
theorem dX11_leaf_14 : decode cX11_leaf 14 = .ok (.dup, 1) := by decide +kernel
theorem dX11_leaf_15 : decode cX11_leaf 15 = .ok (.getfield 171, 3) := by decide +kernel
theorem dX11_leaf_18 : decode cX11_leaf 18 = .ok (.iconst 1, 1) := by decide +kernel
theorem dX11_leaf_19 : decode cX11_leaf 19 = .ok (.iadd, 1) := by decide +kernel
theorem dX11_leaf_20 : decode cX11_leaf 20 = .ok (.putfield 171, 3) := by decide +kernel
theorem dX11_leaf_23 : decode cX11_leaf 23 = .ok (.aload_n 0, 1) := by decide +kernel
theorem dX11_leaf_24 : decode cX11_leaf 24 = .ok (.invokevirtual 158, 3) := by decide +kernel
theorem dX11_leaf_27 : decode cX11_leaf 27 = .ok (.ifCond .eq 13, 3) := by decide +kernel
theorem dX11_leaf_30 : decode cX11_leaf 30 = .ok (.aload_n 0, 1) := by decide +kernel
theorem dX11_leaf_31 : decode cX11_leaf 31 = .ok (.dup, 1) := by decide +kernel
theorem dX11_leaf_32 : decode cX11_leaf 32 = .ok (.getfield 162, 3) := by decide +kernel
theorem dX11_leaf_35 : decode cX11_leaf 35 = .ok (.iconst 1, 1) := by decide +kernel
theorem dX11_leaf_36 : decode cX11_leaf 36 = .ok (.iadd, 1) := by decide +kernel
theorem dX11_leaf_37 : decode cX11_leaf 37 = .ok (.putfield 162, 3) := by decide +kernel
theorem dX11_leaf_40 : decode cX11_leaf 40 = .ok (.return_, 1) := by decide +kernel
theorem dX11_sign_0 : decode cX11_sign 0 = .ok (.bipush 100, 2) := by decide +kernel
theorem dX11_sign_2 : decode cX11_sign 2 = .ok (.iload_n 0, 1) := by decide +kernel
theorem dX11_sign_3 : decode cX11_sign 3 = .ok (.iadd, 1) := by decide +kernel
theorem dX11_sign_4 : decode cX11_sign 4 = .ok (.ireturn, 1) := by decide +kernel
theorem dX11_readClause_0 : decode cX11_readClause 0 = .ok (.aload_n 0, 1) := by decide +kernel
theorem dX11_readClause_1 : decode cX11_readClause 1 = .ok (.iconst 1, 1) := by decide +kernel
theorem dX11_readClause_2 : decode cX11_readClause 2 = .ok (.invokevirtual 174, 3) := by decide +kernel
theorem dX11_readClause_5 : decode cX11_readClause 5 = .ok (.aload_n 0, 1) := by decide +kernel
theorem dX11_readClause_6 : decode cX11_readClause 6 = .ok (.iconst 0, 1) := by decide +kernel
theorem dX11_readClause_7 : decode cX11_readClause 7 = .ok (.invokevirtual 178, 3) := by decide +kernel
theorem dX11_readClause_10 : decode cX11_readClause 10 = .ok (.aload_n 0, 1) := by decide +kernel
theorem dX11_readClause_11 : decode cX11_readClause 11 = .ok (.iconst 2, 1) := by decide +kernel
theorem dX11_readClause_12 : decode cX11_readClause 12 = .ok (.invokevirtual 165, 3) := by decide +kernel
theorem dX11_readClause_15 : decode cX11_readClause 15 = .ok (.ifCond .eq 8, 3) := by decide +kernel
theorem dX11_readClause_18 : decode cX11_readClause 18 = .ok (.aload_n 0, 1) := by decide +kernel
theorem dX11_readClause_19 : decode cX11_readClause 19 = .ok (.iconst 0, 1) := by decide +kernel
theorem dX11_readClause_20 : decode cX11_readClause 20 = .ok (.invokevirtual 181, 3) := by decide +kernel
theorem dX11_readClause_23 : decode cX11_readClause 23 = .ok (.return_, 1) := by decide +kernel
theorem dX11_readTest_0 : decode cX11_readTest 0 = .ok (.aload_n 0, 1) := by decide +kernel
theorem dX11_readTest_1 : decode cX11_readTest 1 = .ok (.iload_n 1, 1) := by decide +kernel
theorem dX11_readTest_2 : decode cX11_readTest 2 = .ok (.invokevirtual 184, 3) := by decide +kernel
theorem dX11_readTest_5 : decode cX11_readTest 5 = .ok (.aload_n 0, 1) := by decide +kernel
theorem dX11_readTest_6 : decode cX11_readTest 6 = .ok (.iconst 3, 1) := by decide +kernel
theorem dX11_readTest_7 : decode cX11_readTest 7 = .ok (.invokevirtual 165, 3) := by decide +kernel
theorem dX11_readTest_10 : decode cX11_readTest 10 = .ok (.ifCond .eq 11, 3) := by decide +kernel
theorem dX11_readTest_13 : decode cX11_readTest 13 = .ok (.aload_n 0, 1) := by decide +kernel
theorem dX11_readTest_14 : decode cX11_readTest 14 = .ok (.iload_n 1, 1) := by decide +kernel
theorem dX11_readTest_15 : decode cX11_readTest 15 = .ok (.invokevirtual 184, 3) := by decide +kernel
theorem dX11_readTest_18 : decode cX11_readTest 18 = .ok (.goto (-13), 3) := by decide +kernel
theorem dX11_readTest_21 : decode cX11_readTest 21 = .ok (.return_, 1) := by decide +kernel
theorem dX11_readBoth_0 : decode cX11_readBoth 0 = .ok (.aload_n 0, 1) := by decide +kernel
theorem dX11_readBoth_1 : decode cX11_readBoth 1 = .ok (.iload_n 1, 1) := by decide +kernel
theorem dX11_readBoth_2 : decode cX11_readBoth 2 = .ok (.invokevirtual 187, 3) := by decide +kernel
theorem dX11_readBoth_5 : decode cX11_readBoth 5 = .ok (.aload_n 0, 1) := by decide +kernel
theorem dX11_readBoth_6 : decode cX11_readBoth 6 = .ok (.iconst 4, 1) := by decide +kernel
theorem dX11_readBoth_7 : decode cX11_readBoth 7 = .ok (.invokevirtual 165, 3) := by decide +kernel
theorem dX11_readBoth_10 : decode cX11_readBoth 10 = .ok (.ifCond .eq 11, 3) := by decide +kernel
theorem dX11_readBoth_13 : decode cX11_readBoth 13 = .ok (.aload_n 0, 1) := by decide +kernel
theorem dX11_readBoth_14 : decode cX11_readBoth 14 = .ok (.iload_n 1, 1) := by decide +kernel
theorem dX11_readBoth_15 : decode cX11_readBoth 15 = .ok (.invokevirtual 187, 3) := by decide +kernel
theorem dX11_readBoth_18 : decode cX11_readBoth 18 = .ok (.goto (-13), 3) := by decide +kernel
theorem dX11_readBoth_21 : decode cX11_readBoth 21 = .ok (.return_, 1) := by decide +kernel
theorem dX11_readPlain_0 : decode cX11_readPlain 0 = .ok (.iconst 1, 1) := by decide +kernel
theorem dX11_readPlain_1 : decode cX11_readPlain 1 = .ok (.istore_n 2, 1) := by decide +kernel
theorem dX11_readPlain_2 : decode cX11_readPlain 2 = .ok (.iload_n 2, 1) := by decide +kernel
theorem dX11_readPlain_3 : decode cX11_readPlain 3 = .ok (.ifCond .eq 12, 3) := by decide +kernel
theorem dX11_readPlain_6 : decode cX11_readPlain 6 = .ok (.aload_n 0, 1) := by decide +kernel
theorem dX11_readPlain_7 : decode cX11_readPlain 7 = .ok (.iconst 5, 1) := by decide +kernel
theorem dX11_readPlain_8 : decode cX11_readPlain 8 = .ok (.invokevirtual 165, 3) := by decide +kernel
theorem dX11_readPlain_11 : decode cX11_readPlain 11 = .ok (.istore_n 2, 1) := by decide +kernel
theorem dX11_readPlain_12 : decode cX11_readPlain 12 = .ok (.goto (-10), 3) := by decide +kernel
theorem dX11_readPlain_15 : decode cX11_readPlain 15 = .ok (.aload_n 0, 1) := by decide +kernel
theorem dX11_readPlain_16 : decode cX11_readPlain 16 = .ok (.invokevirtual 158, 3) := by decide +kernel
theorem dX11_readPlain_19 : decode cX11_readPlain 19 = .ok (.ifCond .ne 4, 3) := by decide +kernel
theorem dX11_readPlain_22 : decode cX11_readPlain 22 = .ok (.return_, 1) := by decide +kernel
theorem dX11_readPlain_23 : decode cX11_readPlain 23 = .ok (.aload_n 0, 1) := by decide +kernel
theorem dX11_readPlain_24 : decode cX11_readPlain 24 = .ok (.getfield 43, 3) := by decide +kernel
theorem dX11_readPlain_27 : decode cX11_readPlain 27 = .ok (.aload_n 0, 1) := by decide +kernel
theorem dX11_readPlain_28 : decode cX11_readPlain 28 = .ok (.getfield 162, 3) := by decide +kernel
theorem dX11_readPlain_31 : decode cX11_readPlain 31 = .ok (.iaload, 1) := by decide +kernel
theorem dX11_readPlain_32 : decode cX11_readPlain 32 = .ok (.istore_n 3, 1) := by decide +kernel
theorem dX11_readPlain_33 : decode cX11_readPlain 33 = .ok (.iload_n 3, 1) := by decide +kernel
theorem dX11_readPlain_34 : decode cX11_readPlain 34 = .ok (.bipush 40, 2) := by decide +kernel
theorem dX11_readPlain_36 : decode cX11_readPlain 36 = .ok (.invokestatic 190, 3) := by decide +kernel
theorem dX11_readPlain_39 : decode cX11_readPlain 39 = .ok (.if_icmp .ne 50, 3) := by decide +kernel
theorem dX11_readPlain_42 : decode cX11_readPlain 42 = .ok (.iload_n 1, 1) := by decide +kernel
theorem dX11_readPlain_43 : decode cX11_readPlain 43 = .ok (.bipush 8, 2) := by decide +kernel
theorem dX11_readPlain_45 : decode cX11_readPlain 45 = .ok (.if_icmp .ne 7, 3) := by decide +kernel
theorem dX11_readPlain_48 : decode cX11_readPlain 48 = .ok (.aload_n 0, 1) := by decide +kernel
theorem dX11_readPlain_49 : decode cX11_readPlain 49 = .ok (.invokevirtual 168, 3) := by decide +kernel
theorem dX11_readPlain_52 : decode cX11_readPlain 52 = .ok (.aload_n 0, 1) := by decide +kernel
theorem dX11_readPlain_53 : decode cX11_readPlain 53 = .ok (.invokevirtual 158, 3) := by decide +kernel
theorem dX11_readPlain_56 : decode cX11_readPlain 56 = .ok (.ifCond .ne 4, 3) := by decide +kernel
theorem dX11_readPlain_59 : decode cX11_readPlain 59 = .ok (.return_, 1) := by decide +kernel
theorem dX11_readPlain_60 : decode cX11_readPlain 60 = .ok (.aload_n 0, 1) := by decide +kernel
theorem dX11_readPlain_61 : decode cX11_readPlain 61 = .ok (.dup, 1) := by decide +kernel
theorem dX11_readPlain_62 : decode cX11_readPlain 62 = .ok (.getfield 162, 3) := by decide +kernel
theorem dX11_readPlain_65 : decode cX11_readPlain 65 = .ok (.iconst 1, 1) := by decide +kernel
theorem dX11_readPlain_66 : decode cX11_readPlain 66 = .ok (.iadd, 1) := by decide +kernel
theorem dX11_readPlain_67 : decode cX11_readPlain 67 = .ok (.putfield 162, 3) := by decide +kernel
theorem dX11_readPlain_70 : decode cX11_readPlain 70 = .ok (.aload_n 0, 1) := by decide +kernel
theorem dX11_readPlain_71 : decode cX11_readPlain 71 = .ok (.iload_n 1, 1) := by decide +kernel
theorem dX11_readPlain_72 : decode cX11_readPlain 72 = .ok (.iconst 1, 1) := by decide +kernel
theorem dX11_readPlain_73 : decode cX11_readPlain 73 = .ok (.iadd, 1) := by decide +kernel
theorem dX11_readPlain_74 : decode cX11_readPlain 74 = .ok (.invokevirtual 181, 3) := by decide +kernel
theorem dX11_readPlain_77 : decode cX11_readPlain 77 = .ok (.aload_n 0, 1) := by decide +kernel
theorem dX11_readPlain_78 : decode cX11_readPlain 78 = .ok (.bipush 41, 2) := by decide +kernel
theorem dX11_readPlain_80 : decode cX11_readPlain 80 = .ok (.invokestatic 190, 3) := by decide +kernel
theorem dX11_readPlain_83 : decode cX11_readPlain 83 = .ok (.invokevirtual 174, 3) := by decide +kernel
theorem dX11_readPlain_86 : decode cX11_readPlain 86 = .ok (.goto 46, 3) := by decide +kernel
theorem dX11_readPlain_89 : decode cX11_readPlain 89 = .ok (.aload_n 0, 1) := by decide +kernel
theorem dX11_readPlain_90 : decode cX11_readPlain 90 = .ok (.iload_n 1, 1) := by decide +kernel
theorem dX11_readPlain_91 : decode cX11_readPlain 91 = .ok (.invokevirtual 178, 3) := by decide +kernel
theorem dX11_readPlain_94 : decode cX11_readPlain 94 = .ok (.aload_n 0, 1) := by decide +kernel
theorem dX11_readPlain_95 : decode cX11_readPlain 95 = .ok (.bipush 60, 2) := by decide +kernel
theorem dX11_readPlain_97 : decode cX11_readPlain 97 = .ok (.invokestatic 190, 3) := by decide +kernel
theorem dX11_readPlain_100 : decode cX11_readPlain 100 = .ok (.invokevirtual 165, 3) := by decide +kernel
theorem dX11_readPlain_103 : decode cX11_readPlain 103 = .ok (.ifCond .ne 24, 3) := by decide +kernel
theorem dX11_readPlain_106 : decode cX11_readPlain 106 = .ok (.aload_n 0, 1) := by decide +kernel
theorem dX11_readPlain_107 : decode cX11_readPlain 107 = .ok (.bipush 62, 2) := by decide +kernel
theorem dX11_readPlain_109 : decode cX11_readPlain 109 = .ok (.invokestatic 190, 3) := by decide +kernel
theorem dX11_readPlain_112 : decode cX11_readPlain 112 = .ok (.invokevirtual 165, 3) := by decide +kernel
theorem dX11_readPlain_115 : decode cX11_readPlain 115 = .ok (.ifCond .ne 12, 3) := by decide +kernel
theorem dX11_readPlain_118 : decode cX11_readPlain 118 = .ok (.aload_n 0, 1) := by decide +kernel
theorem dX11_readPlain_119 : decode cX11_readPlain 119 = .ok (.bipush 61, 2) := by decide +kernel
theorem dX11_readPlain_121 : decode cX11_readPlain 121 = .ok (.invokestatic 190, 3) := by decide +kernel
theorem dX11_readPlain_124 : decode cX11_readPlain 124 = .ok (.invokevirtual 174, 3) := by decide +kernel
theorem dX11_readPlain_127 : decode cX11_readPlain 127 = .ok (.aload_n 0, 1) := by decide +kernel
theorem dX11_readPlain_128 : decode cX11_readPlain 128 = .ok (.iload_n 1, 1) := by decide +kernel
theorem dX11_readPlain_129 : decode cX11_readPlain 129 = .ok (.invokevirtual 178, 3) := by decide +kernel
theorem dX11_readPlain_132 : decode cX11_readPlain 132 = .ok (.return_, 1) := by decide +kernel
theorem dX11_readSum_0 : decode cX11_readSum 0 = .ok (.aload_n 0, 1) := by decide +kernel
theorem dX11_readSum_1 : decode cX11_readSum 1 = .ok (.iload_n 1, 1) := by decide +kernel
theorem dX11_readSum_2 : decode cX11_readSum 2 = .ok (.invokevirtual 194, 3) := by decide +kernel
theorem dX11_readSum_5 : decode cX11_readSum 5 = .ok (.aload_n 0, 1) := by decide +kernel
theorem dX11_readSum_6 : decode cX11_readSum 6 = .ok (.bipush 43, 2) := by decide +kernel
theorem dX11_readSum_8 : decode cX11_readSum 8 = .ok (.invokestatic 190, 3) := by decide +kernel
theorem dX11_readSum_11 : decode cX11_readSum 11 = .ok (.invokevirtual 165, 3) := by decide +kernel
theorem dX11_readSum_14 : decode cX11_readSum 14 = .ok (.ifCond .ne 15, 3) := by decide +kernel
theorem dX11_readSum_17 : decode cX11_readSum 17 = .ok (.aload_n 0, 1) := by decide +kernel
theorem dX11_readSum_18 : decode cX11_readSum 18 = .ok (.bipush 45, 2) := by decide +kernel
theorem dX11_readSum_20 : decode cX11_readSum 20 = .ok (.invokestatic 190, 3) := by decide +kernel
theorem dX11_readSum_23 : decode cX11_readSum 23 = .ok (.invokevirtual 165, 3) := by decide +kernel
theorem dX11_readSum_26 : decode cX11_readSum 26 = .ok (.ifCond .eq 11, 3) := by decide +kernel
theorem dX11_readSum_29 : decode cX11_readSum 29 = .ok (.aload_n 0, 1) := by decide +kernel
theorem dX11_readSum_30 : decode cX11_readSum 30 = .ok (.iload_n 1, 1) := by decide +kernel
theorem dX11_readSum_31 : decode cX11_readSum 31 = .ok (.invokevirtual 194, 3) := by decide +kernel
theorem dX11_readSum_34 : decode cX11_readSum 34 = .ok (.goto (-29), 3) := by decide +kernel
theorem dX11_readSum_37 : decode cX11_readSum 37 = .ok (.return_, 1) := by decide +kernel
theorem dX11_readTerm_0 : decode cX11_readTerm 0 = .ok (.aload_n 0, 1) := by decide +kernel
theorem dX11_readTerm_1 : decode cX11_readTerm 1 = .ok (.iload_n 1, 1) := by decide +kernel
theorem dX11_readTerm_2 : decode cX11_readTerm 2 = .ok (.invokevirtual 197, 3) := by decide +kernel
theorem dX11_readTerm_5 : decode cX11_readTerm 5 = .ok (.aload_n 0, 1) := by decide +kernel
theorem dX11_readTerm_6 : decode cX11_readTerm 6 = .ok (.bipush 42, 2) := by decide +kernel
theorem dX11_readTerm_8 : decode cX11_readTerm 8 = .ok (.invokestatic 190, 3) := by decide +kernel
theorem dX11_readTerm_11 : decode cX11_readTerm 11 = .ok (.invokevirtual 165, 3) := by decide +kernel
theorem dX11_readTerm_14 : decode cX11_readTerm 14 = .ok (.ifCond .ne 27, 3) := by decide +kernel
theorem dX11_readTerm_17 : decode cX11_readTerm 17 = .ok (.aload_n 0, 1) := by decide +kernel
theorem dX11_readTerm_18 : decode cX11_readTerm 18 = .ok (.bipush 47, 2) := by decide +kernel
theorem dX11_readTerm_20 : decode cX11_readTerm 20 = .ok (.invokestatic 190, 3) := by decide +kernel
theorem dX11_readTerm_23 : decode cX11_readTerm 23 = .ok (.invokevirtual 165, 3) := by decide +kernel
theorem dX11_readTerm_26 : decode cX11_readTerm 26 = .ok (.ifCond .ne 15, 3) := by decide +kernel
theorem dX11_readTerm_29 : decode cX11_readTerm 29 = .ok (.aload_n 0, 1) := by decide +kernel
theorem dX11_readTerm_30 : decode cX11_readTerm 30 = .ok (.bipush 37, 2) := by decide +kernel
theorem dX11_readTerm_32 : decode cX11_readTerm 32 = .ok (.invokestatic 190, 3) := by decide +kernel
theorem dX11_readTerm_35 : decode cX11_readTerm 35 = .ok (.invokevirtual 165, 3) := by decide +kernel
theorem dX11_readTerm_38 : decode cX11_readTerm 38 = .ok (.ifCond .eq 11, 3) := by decide +kernel
theorem dX11_readTerm_41 : decode cX11_readTerm 41 = .ok (.aload_n 0, 1) := by decide +kernel
theorem dX11_readTerm_42 : decode cX11_readTerm 42 = .ok (.iload_n 1, 1) := by decide +kernel
theorem dX11_readTerm_43 : decode cX11_readTerm 43 = .ok (.invokevirtual 197, 3) := by decide +kernel
theorem dX11_readTerm_46 : decode cX11_readTerm 46 = .ok (.goto (-41), 3) := by decide +kernel
theorem dX11_readTerm_49 : decode cX11_readTerm 49 = .ok (.return_, 1) := by decide +kernel
theorem dX11_readPart_0 : decode cX11_readPart 0 = .ok (.aload_n 0, 1) := by decide +kernel
theorem dX11_readPart_1 : decode cX11_readPart 1 = .ok (.invokevirtual 158, 3) := by decide +kernel
theorem dX11_readPart_4 : decode cX11_readPart 4 = .ok (.ifCond .ne 4, 3) := by decide +kernel
theorem dX11_readPart_7 : decode cX11_readPart 7 = .ok (.return_, 1) := by decide +kernel
theorem dX11_readPart_8 : decode cX11_readPart 8 = .ok (.aload_n 0, 1) := by decide +kernel
theorem dX11_readPart_9 : decode cX11_readPart 9 = .ok (.getfield 43, 3) := by decide +kernel
theorem dX11_readPart_12 : decode cX11_readPart 12 = .ok (.aload_n 0, 1) := by decide +kernel
theorem dX11_readPart_13 : decode cX11_readPart 13 = .ok (.getfield 162, 3) := by decide +kernel
theorem dX11_readPart_16 : decode cX11_readPart 16 = .ok (.iaload, 1) := by decide +kernel
theorem dX11_readPart_17 : decode cX11_readPart 17 = .ok (.istore_n 2, 1) := by decide +kernel
theorem dX11_readPart_18 : decode cX11_readPart 18 = .ok (.iload_n 2, 1) := by decide +kernel
theorem dX11_readPart_19 : decode cX11_readPart 19 = .ok (.bipush 91, 2) := by decide +kernel
theorem dX11_readPart_21 : decode cX11_readPart 21 = .ok (.invokestatic 190, 3) := by decide +kernel
theorem dX11_readPart_24 : decode cX11_readPart 24 = .ok (.if_icmp .ne 50, 3) := by decide +kernel
theorem dX11_readPart_27 : decode cX11_readPart 27 = .ok (.iload_n 1, 1) := by decide +kernel
theorem dX11_readPart_28 : decode cX11_readPart 28 = .ok (.bipush 8, 2) := by decide +kernel
theorem dX11_readPart_30 : decode cX11_readPart 30 = .ok (.if_icmp .ne 7, 3) := by decide +kernel
theorem dX11_readPart_33 : decode cX11_readPart 33 = .ok (.aload_n 0, 1) := by decide +kernel
theorem dX11_readPart_34 : decode cX11_readPart 34 = .ok (.invokevirtual 168, 3) := by decide +kernel
theorem dX11_readPart_37 : decode cX11_readPart 37 = .ok (.aload_n 0, 1) := by decide +kernel
theorem dX11_readPart_38 : decode cX11_readPart 38 = .ok (.invokevirtual 158, 3) := by decide +kernel
theorem dX11_readPart_41 : decode cX11_readPart 41 = .ok (.ifCond .ne 4, 3) := by decide +kernel
theorem dX11_readPart_44 : decode cX11_readPart 44 = .ok (.return_, 1) := by decide +kernel
theorem dX11_readPart_45 : decode cX11_readPart 45 = .ok (.aload_n 0, 1) := by decide +kernel
theorem dX11_readPart_46 : decode cX11_readPart 46 = .ok (.dup, 1) := by decide +kernel
theorem dX11_readPart_47 : decode cX11_readPart 47 = .ok (.getfield 162, 3) := by decide +kernel
theorem dX11_readPart_50 : decode cX11_readPart 50 = .ok (.iconst 1, 1) := by decide +kernel
theorem dX11_readPart_51 : decode cX11_readPart 51 = .ok (.iadd, 1) := by decide +kernel
theorem dX11_readPart_52 : decode cX11_readPart 52 = .ok (.putfield 162, 3) := by decide +kernel
theorem dX11_readPart_55 : decode cX11_readPart 55 = .ok (.aload_n 0, 1) := by decide +kernel
theorem dX11_readPart_56 : decode cX11_readPart 56 = .ok (.iload_n 1, 1) := by decide +kernel
theorem dX11_readPart_57 : decode cX11_readPart 57 = .ok (.iconst 1, 1) := by decide +kernel
theorem dX11_readPart_58 : decode cX11_readPart 58 = .ok (.iadd, 1) := by decide +kernel
theorem dX11_readPart_59 : decode cX11_readPart 59 = .ok (.invokevirtual 178, 3) := by decide +kernel
theorem dX11_readPart_62 : decode cX11_readPart 62 = .ok (.aload_n 0, 1) := by decide +kernel
theorem dX11_readPart_63 : decode cX11_readPart 63 = .ok (.bipush 93, 2) := by decide +kernel
theorem dX11_readPart_65 : decode cX11_readPart 65 = .ok (.invokestatic 190, 3) := by decide +kernel
theorem dX11_readPart_68 : decode cX11_readPart 68 = .ok (.invokevirtual 174, 3) := by decide +kernel
theorem dX11_readPart_71 : decode cX11_readPart 71 = .ok (.goto 47, 3) := by decide +kernel
theorem dX11_readPart_74 : decode cX11_readPart 74 = .ok (.iload_n 2, 1) := by decide +kernel
theorem dX11_readPart_75 : decode cX11_readPart 75 = .ok (.bipush 50, 2) := by decide +kernel
theorem dX11_readPart_77 : decode cX11_readPart 77 = .ok (.if_icmp .ne 18, 3) := by decide +kernel
theorem dX11_readPart_80 : decode cX11_readPart 80 = .ok (.aload_n 0, 1) := by decide +kernel
theorem dX11_readPart_81 : decode cX11_readPart 81 = .ok (.getfield 46, 3) := by decide +kernel
theorem dX11_readPart_84 : decode cX11_readPart 84 = .ok (.aload_n 0, 1) := by decide +kernel
theorem dX11_readPart_85 : decode cX11_readPart 85 = .ok (.getfield 162, 3) := by decide +kernel
theorem dX11_readPart_88 : decode cX11_readPart 88 = .ok (.iaload, 1) := by decide +kernel
theorem dX11_readPart_89 : decode cX11_readPart 89 = .ok (.sipush 1000, 3) := by decide +kernel
theorem dX11_readPart_92 : decode cX11_readPart 92 = .ok (.if_icmp .le 15, 3) := by decide +kernel
theorem dX11_readPart_95 : decode cX11_readPart 95 = .ok (.iload_n 2, 1) := by decide +kernel
theorem dX11_readPart_96 : decode cX11_readPart 96 = .ok (.bipush 6, 2) := by decide +kernel
theorem dX11_readPart_98 : decode cX11_readPart 98 = .ok (.if_icmp .lt 16, 3) := by decide +kernel
theorem dX11_readPart_101 : decode cX11_readPart 101 = .ok (.iload_n 2, 1) := by decide +kernel
theorem dX11_readPart_102 : decode cX11_readPart 102 = .ok (.bipush 13, 2) := by decide +kernel
theorem dX11_readPart_104 : decode cX11_readPart 104 = .ok (.if_icmp .gt 10, 3) := by decide +kernel
theorem dX11_readPart_107 : decode cX11_readPart 107 = .ok (.aload_n 0, 1) := by decide +kernel
theorem dX11_readPart_108 : decode cX11_readPart 108 = .ok (.invokevirtual 200, 3) := by decide +kernel
theorem dX11_readPart_111 : decode cX11_readPart 111 = .ok (.goto 7, 3) := by decide +kernel
theorem dX11_readPart_114 : decode cX11_readPart 114 = .ok (.aload_n 0, 1) := by decide +kernel
theorem dX11_readPart_115 : decode cX11_readPart 115 = .ok (.invokevirtual 168, 3) := by decide +kernel
theorem dX11_readPart_118 : decode cX11_readPart 118 = .ok (.return_, 1) := by decide +kernel
theorem dX11_reads_0 : decode cX11_reads 0 = .ok (.aload_n 0, 1) := by decide +kernel
theorem dX11_reads_1 : decode cX11_reads 1 = .ok (.aload_n 0, 1) := by decide +kernel
theorem dX11_reads_2 : decode cX11_reads 2 = .ok (.getfield 129, 3) := by decide +kernel
theorem dX11_reads_5 : decode cX11_reads 5 = .ok (.invokevirtual 203, 3) := by decide +kernel
theorem dX11_reads_8 : decode cX11_reads 8 = .ok (.aload_n 0, 1) := by decide +kernel
theorem dX11_reads_9 : decode cX11_reads 9 = .ok (.iconst 0, 1) := by decide +kernel
theorem dX11_reads_10 : decode cX11_reads 10 = .ok (.putfield 129, 3) := by decide +kernel
theorem dX11_reads_13 : decode cX11_reads 13 = .ok (.aload_n 0, 1) := by decide +kernel
theorem dX11_reads_14 : decode cX11_reads 14 = .ok (.iconst 0, 1) := by decide +kernel
theorem dX11_reads_15 : decode cX11_reads 15 = .ok (.putfield 162, 3) := by decide +kernel
theorem dX11_reads_18 : decode cX11_reads 18 = .ok (.aload_n 0, 1) := by decide +kernel
theorem dX11_reads_19 : decode cX11_reads 19 = .ok (.iconst 0, 1) := by decide +kernel
theorem dX11_reads_20 : decode cX11_reads 20 = .ok (.putfield 171, 3) := by decide +kernel
theorem dX11_reads_23 : decode cX11_reads 23 = .ok (.aload_n 0, 1) := by decide +kernel
theorem dX11_reads_24 : decode cX11_reads 24 = .ok (.iconst (-1), 1) := by decide +kernel
theorem dX11_reads_25 : decode cX11_reads 25 = .ok (.putfield 155, 3) := by decide +kernel
theorem dX11_reads_28 : decode cX11_reads 28 = .ok (.aload_n 0, 1) := by decide +kernel
theorem dX11_reads_29 : decode cX11_reads 29 = .ok (.invokevirtual 206, 3) := by decide +kernel
theorem dX11_reads_32 : decode cX11_reads 32 = .ok (.iconst 1, 1) := by decide +kernel
theorem dX11_reads_33 : decode cX11_reads 33 = .ok (.istore_n 1, 1) := by decide +kernel
theorem dX11_reads_34 : decode cX11_reads 34 = .ok (.aload_n 0, 1) := by decide +kernel
theorem dX11_reads_35 : decode cX11_reads 35 = .ok (.bipush 59, 2) := by decide +kernel
theorem dX11_reads_37 : decode cX11_reads 37 = .ok (.invokestatic 190, 3) := by decide +kernel
theorem dX11_reads_40 : decode cX11_reads 40 = .ok (.invokevirtual 165, 3) := by decide +kernel
theorem dX11_reads_43 : decode cX11_reads 43 = .ok (.ifCond .eq 30, 3) := by decide +kernel
theorem dX11_reads_46 : decode cX11_reads 46 = .ok (.iload_n 1, 1) := by decide +kernel
theorem dX11_reads_47 : decode cX11_reads 47 = .ok (.bipush 12, 2) := by decide +kernel
theorem dX11_reads_49 : decode cX11_reads 49 = .ok (.if_icmp .ne 7, 3) := by decide +kernel
theorem dX11_reads_52 : decode cX11_reads 52 = .ok (.aload_n 0, 1) := by decide +kernel
theorem dX11_reads_53 : decode cX11_reads 53 = .ok (.invokevirtual 168, 3) := by decide +kernel
theorem dX11_reads_56 : decode cX11_reads 56 = .ok (.aload_n 0, 1) := by decide +kernel
theorem dX11_reads_57 : decode cX11_reads 57 = .ok (.invokevirtual 158, 3) := by decide +kernel
theorem dX11_reads_60 : decode cX11_reads 60 = .ok (.ifCond .eq 7, 3) := by decide +kernel
theorem dX11_reads_63 : decode cX11_reads 63 = .ok (.aload_n 0, 1) := by decide +kernel
theorem dX11_reads_64 : decode cX11_reads 64 = .ok (.invokevirtual 206, 3) := by decide +kernel
theorem dX11_reads_67 : decode cX11_reads 67 = .ok (.iinc 1 1, 3) := by decide +kernel
theorem dX11_reads_70 : decode cX11_reads 70 = .ok (.goto (-36), 3) := by decide +kernel
theorem dX11_reads_73 : decode cX11_reads 73 = .ok (.aload_n 0, 1) := by decide +kernel
theorem dX11_reads_74 : decode cX11_reads 74 = .ok (.invokevirtual 158, 3) := by decide +kernel
theorem dX11_reads_77 : decode cX11_reads 77 = .ok (.ifCond .eq 18, 3) := by decide +kernel
theorem dX11_reads_80 : decode cX11_reads 80 = .ok (.aload_n 0, 1) := by decide +kernel
theorem dX11_reads_81 : decode cX11_reads 81 = .ok (.getfield 162, 3) := by decide +kernel
theorem dX11_reads_84 : decode cX11_reads 84 = .ok (.aload_n 0, 1) := by decide +kernel
theorem dX11_reads_85 : decode cX11_reads 85 = .ok (.getfield 142, 3) := by decide +kernel
theorem dX11_reads_88 : decode cX11_reads 88 = .ok (.if_icmp .ge 7, 3) := by decide +kernel
theorem dX11_reads_91 : decode cX11_reads 91 = .ok (.aload_n 0, 1) := by decide +kernel
theorem dX11_reads_92 : decode cX11_reads 92 = .ok (.invokevirtual 168, 3) := by decide +kernel
theorem dX11_reads_95 : decode cX11_reads 95 = .ok (.aload_n 0, 1) := by decide +kernel
theorem dX11_reads_96 : decode cX11_reads 96 = .ok (.aload_n 0, 1) := by decide +kernel
theorem dX11_reads_97 : decode cX11_reads 97 = .ok (.getfield 155, 3) := by decide +kernel
theorem dX11_reads_100 : decode cX11_reads 100 = .ok (.putfield 40, 3) := by decide +kernel
theorem dX11_reads_103 : decode cX11_reads 103 = .ok (.aload_n 0, 1) := by decide +kernel
theorem dX11_reads_104 : decode cX11_reads 104 = .ok (.invokevirtual 158, 3) := by decide +kernel
theorem dX11_reads_107 : decode cX11_reads 107 = .ok (.ireturn, 1) := by decide +kernel
theorem dX11_law_0 : decode cX11_law 0 = .ok (.aload_n 0, 1) := by decide +kernel
theorem dX11_law_1 : decode cX11_law 1 = .ok (.getfield 20, 3) := by decide +kernel
theorem dX11_law_4 : decode cX11_law 4 = .ok (.sipush 310, 3) := by decide +kernel
theorem dX11_law_7 : decode cX11_law 7 = .ok (.iaload, 1) := by decide +kernel
theorem dX11_law_8 : decode cX11_law 8 = .ok (.bipush 6, 2) := by decide +kernel
theorem dX11_law_10 : decode cX11_law 10 = .ok (.if_icmp .ne 15, 3) := by decide +kernel
theorem dX11_law_13 : decode cX11_law 13 = .ok (.aload_n 0, 1) := by decide +kernel
theorem dX11_law_14 : decode cX11_law 14 = .ok (.iconst 0, 1) := by decide +kernel
theorem dX11_law_15 : decode cX11_law 15 = .ok (.putfield 129, 3) := by decide +kernel
theorem dX11_law_18 : decode cX11_law 18 = .ok (.aload_n 0, 1) := by decide +kernel
theorem dX11_law_19 : decode cX11_law 19 = .ok (.bipush (-5), 2) := by decide +kernel
theorem dX11_law_21 : decode cX11_law 21 = .ok (.invokevirtual 105, 3) := by decide +kernel
theorem dX11_law_24 : decode cX11_law 24 = .ok (.ireturn, 1) := by decide +kernel
theorem dX11_law_25 : decode cX11_law 25 = .ok (.aload_n 0, 1) := by decide +kernel
theorem dX11_law_26 : decode cX11_law 26 = .ok (.invokevirtual 209, 3) := by decide +kernel
theorem dX11_law_29 : decode cX11_law 29 = .ok (.ifCond .ne 10, 3) := by decide +kernel
theorem dX11_law_32 : decode cX11_law 32 = .ok (.aload_n 0, 1) := by decide +kernel
theorem dX11_law_33 : decode cX11_law 33 = .ok (.bipush (-6), 2) := by decide +kernel
theorem dX11_law_35 : decode cX11_law 35 = .ok (.invokevirtual 105, 3) := by decide +kernel
theorem dX11_law_38 : decode cX11_law 38 = .ok (.ireturn, 1) := by decide +kernel
theorem dX11_law_39 : decode cX11_law 39 = .ok (.aload_n 0, 1) := by decide +kernel
theorem dX11_law_40 : decode cX11_law 40 = .ok (.getfield 20, 3) := by decide +kernel
theorem dX11_law_43 : decode cX11_law 43 = .ok (.sipush 310, 3) := by decide +kernel
theorem dX11_law_46 : decode cX11_law 46 = .ok (.iaload, 1) := by decide +kernel
theorem dX11_law_47 : decode cX11_law 47 = .ok (.istore_n 1, 1) := by decide +kernel
theorem dX11_law_48 : decode cX11_law 48 = .ok (.aload_n 0, 1) := by decide +kernel
theorem dX11_law_49 : decode cX11_law 49 = .ok (.getfield 20, 3) := by decide +kernel
theorem dX11_law_52 : decode cX11_law 52 = .ok (.sipush 311, 3) := by decide +kernel
theorem dX11_law_55 : decode cX11_law 55 = .ok (.iload_n 1, 1) := by decide +kernel
theorem dX11_law_56 : decode cX11_law 56 = .ok (.iadd, 1) := by decide +kernel
theorem dX11_law_57 : decode cX11_law 57 = .ok (.aload_n 0, 1) := by decide +kernel
theorem dX11_law_58 : decode cX11_law 58 = .ok (.getfield 142, 3) := by decide +kernel
theorem dX11_law_61 : decode cX11_law 61 = .ok (.iastore, 1) := by decide +kernel
theorem dX11_law_62 : decode cX11_law 62 = .ok (.iconst 0, 1) := by decide +kernel
theorem dX11_law_63 : decode cX11_law 63 = .ok (.istore_n 2, 1) := by decide +kernel
theorem dX11_law_64 : decode cX11_law 64 = .ok (.iload_n 2, 1) := by decide +kernel
theorem dX11_law_65 : decode cX11_law 65 = .ok (.aload_n 0, 1) := by decide +kernel
theorem dX11_law_66 : decode cX11_law 66 = .ok (.getfield 142, 3) := by decide +kernel
theorem dX11_law_69 : decode cX11_law 69 = .ok (.if_icmp .ge 53, 3) := by decide +kernel
theorem dX11_law_72 : decode cX11_law 72 = .ok (.aload_n 0, 1) := by decide +kernel
theorem dX11_law_73 : decode cX11_law 73 = .ok (.getfield 20, 3) := by decide +kernel
theorem dX11_law_76 : decode cX11_law 76 = .ok (.sipush 317, 3) := by decide +kernel
theorem dX11_law_79 : decode cX11_law 79 = .ok (.sipush 400, 3) := by decide +kernel
theorem dX11_law_82 : decode cX11_law 82 = .ok (.iload_n 1, 1) := by decide +kernel
theorem dX11_law_83 : decode cX11_law 83 = .ok (.imul, 1) := by decide +kernel
theorem dX11_law_84 : decode cX11_law 84 = .ok (.iadd, 1) := by decide +kernel
theorem dX11_law_85 : decode cX11_law 85 = .ok (.iload_n 2, 1) := by decide +kernel
theorem dX11_law_86 : decode cX11_law 86 = .ok (.iadd, 1) := by decide +kernel
theorem dX11_law_87 : decode cX11_law 87 = .ok (.aload_n 0, 1) := by decide +kernel
theorem dX11_law_88 : decode cX11_law 88 = .ok (.getfield 43, 3) := by decide +kernel
theorem dX11_law_91 : decode cX11_law 91 = .ok (.iload_n 2, 1) := by decide +kernel
theorem dX11_law_92 : decode cX11_law 92 = .ok (.iaload, 1) := by decide +kernel
theorem dX11_law_93 : decode cX11_law 93 = .ok (.iastore, 1) := by decide +kernel
theorem dX11_law_94 : decode cX11_law 94 = .ok (.aload_n 0, 1) := by decide +kernel
theorem dX11_law_95 : decode cX11_law 95 = .ok (.getfield 20, 3) := by decide +kernel
theorem dX11_law_98 : decode cX11_law 98 = .ok (.sipush 2717, 3) := by decide +kernel
theorem dX11_law_101 : decode cX11_law 101 = .ok (.sipush 400, 3) := by decide +kernel
theorem dX11_law_104 : decode cX11_law 104 = .ok (.iload_n 1, 1) := by decide +kernel
theorem dX11_law_105 : decode cX11_law 105 = .ok (.imul, 1) := by decide +kernel
theorem dX11_law_106 : decode cX11_law 106 = .ok (.iadd, 1) := by decide +kernel
theorem dX11_law_107 : decode cX11_law 107 = .ok (.iload_n 2, 1) := by decide +kernel
theorem dX11_law_108 : decode cX11_law 108 = .ok (.iadd, 1) := by decide +kernel
theorem dX11_law_109 : decode cX11_law 109 = .ok (.aload_n 0, 1) := by decide +kernel
theorem dX11_law_110 : decode cX11_law 110 = .ok (.getfield 46, 3) := by decide +kernel
theorem dX11_law_113 : decode cX11_law 113 = .ok (.iload_n 2, 1) := by decide +kernel
theorem dX11_law_114 : decode cX11_law 114 = .ok (.iaload, 1) := by decide +kernel
theorem dX11_law_115 : decode cX11_law 115 = .ok (.iastore, 1) := by decide +kernel
theorem dX11_law_116 : decode cX11_law 116 = .ok (.iinc 2 1, 3) := by decide +kernel
theorem dX11_law_119 : decode cX11_law 119 = .ok (.goto (-55), 3) := by decide +kernel
theorem dX11_law_122 : decode cX11_law 122 = .ok (.aload_n 0, 1) := by decide +kernel
theorem dX11_law_123 : decode cX11_law 123 = .ok (.getfield 20, 3) := by decide +kernel
theorem dX11_law_126 : decode cX11_law 126 = .ok (.sipush 310, 3) := by decide +kernel
theorem dX11_law_129 : decode cX11_law 129 = .ok (.dup2, 1) := by decide +kernel
theorem dX11_law_130 : decode cX11_law 130 = .ok (.iaload, 1) := by decide +kernel
theorem dX11_law_131 : decode cX11_law 131 = .ok (.iconst 1, 1) := by decide +kernel
theorem dX11_law_132 : decode cX11_law 132 = .ok (.iadd, 1) := by decide +kernel
theorem dX11_law_133 : decode cX11_law 133 = .ok (.iastore, 1) := by decide +kernel
theorem dX11_law_134 : decode cX11_law 134 = .ok (.aload_n 0, 1) := by decide +kernel
theorem dX11_law_135 : decode cX11_law 135 = .ok (.iload_n 1, 1) := by decide +kernel
theorem dX11_law_136 : decode cX11_law 136 = .ok (.invokevirtual 109, 3) := by decide +kernel
theorem dX11_law_139 : decode cX11_law 139 = .ok (.ireturn, 1) := by decide +kernel
theorem dX11_fault_0 : decode cX11_fault 0 = .ok (.aload_n 0, 1) := by decide +kernel
theorem dX11_fault_1 : decode cX11_fault 1 = .ok (.getfield 40, 3) := by decide +kernel
theorem dX11_fault_4 : decode cX11_fault 4 = .ok (.ireturn, 1) := by decide +kernel
theorem dX11_codeAt_0 : decode cX11_codeAt 0 = .ok (.iload_n 1, 1) := by decide +kernel
theorem dX11_codeAt_1 : decode cX11_codeAt 1 = .ok (.aload_n 0, 1) := by decide +kernel
theorem dX11_codeAt_2 : decode cX11_codeAt 2 = .ok (.getfield 212, 3) := by decide +kernel
theorem dX11_codeAt_5 : decode cX11_codeAt 5 = .ok (.if_icmp .ge 16, 3) := by decide +kernel
theorem dX11_codeAt_8 : decode cX11_codeAt 8 = .ok (.aload_n 0, 1) := by decide +kernel
theorem dX11_codeAt_9 : decode cX11_codeAt 9 = .ok (.getfield 20, 3) := by decide +kernel
theorem dX11_codeAt_12 : decode cX11_codeAt 12 = .ok (.sipush 317, 3) := by decide +kernel
theorem dX11_codeAt_15 : decode cX11_codeAt 15 = .ok (.iload_n 1, 1) := by decide +kernel
theorem dX11_codeAt_16 : decode cX11_codeAt 16 = .ok (.iadd, 1) := by decide +kernel
theorem dX11_codeAt_17 : decode cX11_codeAt 17 = .ok (.iaload, 1) := by decide +kernel
theorem dX11_codeAt_18 : decode cX11_codeAt 18 = .ok (.goto 4, 3) := by decide +kernel
theorem dX11_codeAt_21 : decode cX11_codeAt 21 = .ok (.iconst 0, 1) := by decide +kernel
theorem dX11_codeAt_22 : decode cX11_codeAt 22 = .ok (.ireturn, 1) := by decide +kernel
theorem dX11_passes0_0 : decode cX11_passes0 0 = .ok (.aload_n 0, 1) := by decide +kernel
theorem dX11_passes0_1 : decode cX11_passes0 1 = .ok (.aload_n 0, 1) := by decide +kernel
theorem dX11_passes0_2 : decode cX11_passes0 2 = .ok (.getfield 215, 3) := by decide +kernel
theorem dX11_passes0_5 : decode cX11_passes0 5 = .ok (.invokevirtual 218, 3) := by decide +kernel
theorem dX11_passes0_8 : decode cX11_passes0 8 = .ok (.iload_n 1, 1) := by decide +kernel
theorem dX11_passes0_9 : decode cX11_passes0 9 = .ok (.if_icmp .ne 7, 3) := by decide +kernel
theorem dX11_passes0_12 : decode cX11_passes0 12 = .ok (.iconst 1, 1) := by decide +kernel
theorem dX11_passes0_13 : decode cX11_passes0 13 = .ok (.goto 4, 3) := by decide +kernel
theorem dX11_passes0_16 : decode cX11_passes0 16 = .ok (.iconst 0, 1) := by decide +kernel
theorem dX11_passes0_17 : decode cX11_passes0 17 = .ok (.istore_n 2, 1) := by decide +kernel
theorem dX11_passes0_18 : decode cX11_passes0 18 = .ok (.iload_n 2, 1) := by decide +kernel
theorem dX11_passes0_19 : decode cX11_passes0 19 = .ok (.ifCond .eq 13, 3) := by decide +kernel
theorem dX11_passes0_22 : decode cX11_passes0 22 = .ok (.aload_n 0, 1) := by decide +kernel
theorem dX11_passes0_23 : decode cX11_passes0 23 = .ok (.dup, 1) := by decide +kernel
theorem dX11_passes0_24 : decode cX11_passes0 24 = .ok (.getfield 215, 3) := by decide +kernel
theorem dX11_passes0_27 : decode cX11_passes0 27 = .ok (.iconst 1, 1) := by decide +kernel
theorem dX11_passes0_28 : decode cX11_passes0 28 = .ok (.iadd, 1) := by decide +kernel
theorem dX11_passes0_29 : decode cX11_passes0 29 = .ok (.putfield 215, 3) := by decide +kernel
theorem dX11_passes0_32 : decode cX11_passes0 32 = .ok (.iload_n 2, 1) := by decide +kernel
theorem dX11_passes0_33 : decode cX11_passes0 33 = .ok (.ireturn, 1) := by decide +kernel
theorem dX11_bounded_0 : decode cX11_bounded 0 = .ok (.iload_n 3, 1) := by decide +kernel
theorem dX11_bounded_1 : decode cX11_bounded 1 = .ok (.ifCond .eq 24, 3) := by decide +kernel
theorem dX11_bounded_4 : decode cX11_bounded 4 = .ok (.lload_n 1, 1) := by decide +kernel
theorem dX11_bounded_5 : decode cX11_bounded 5 = .ok (.ldc2_w 221, 3) := by decide +kernel
theorem dX11_bounded_8 : decode cX11_bounded 8 = .ok (.lcmp, 1) := by decide +kernel
theorem dX11_bounded_9 : decode cX11_bounded 9 = .ok (.ifCond .gt 11, 3) := by decide +kernel
theorem dX11_bounded_12 : decode cX11_bounded 12 = .ok (.lload_n 1, 1) := by decide +kernel
theorem dX11_bounded_13 : decode cX11_bounded 13 = .ok (.ldc2_w 223, 3) := by decide +kernel
theorem dX11_bounded_16 : decode cX11_bounded 16 = .ok (.lcmp, 1) := by decide +kernel
theorem dX11_bounded_17 : decode cX11_bounded 17 = .ok (.ifCond .ge 8, 3) := by decide +kernel
theorem dX11_bounded_20 : decode cX11_bounded 20 = .ok (.aload_n 0, 1) := by decide +kernel
theorem dX11_bounded_21 : decode cX11_bounded 21 = .ok (.iconst 1, 1) := by decide +kernel
theorem dX11_bounded_22 : decode cX11_bounded 22 = .ok (.putfield 225, 3) := by decide +kernel
theorem dX11_bounded_25 : decode cX11_bounded 25 = .ok (.aload_n 0, 1) := by decide +kernel
theorem dX11_bounded_26 : decode cX11_bounded 26 = .ok (.getfield 225, 3) := by decide +kernel
theorem dX11_bounded_29 : decode cX11_bounded 29 = .ok (.ifCond .eq 7, 3) := by decide +kernel
theorem dX11_bounded_32 : decode cX11_bounded 32 = .ok (.lconst 0, 1) := by decide +kernel
theorem dX11_bounded_33 : decode cX11_bounded 33 = .ok (.goto 4, 3) := by decide +kernel
theorem dX11_bounded_36 : decode cX11_bounded 36 = .ok (.lload_n 1, 1) := by decide +kernel
theorem dX11_bounded_37 : decode cX11_bounded 37 = .ok (.lreturn, 1) := by decide +kernel
theorem dX11_sumOf_0 : decode cX11_sumOf 0 = .ok (.aload_n 0, 1) := by decide +kernel
theorem dX11_sumOf_1 : decode cX11_sumOf 1 = .ok (.iload_n 1, 1) := by decide +kernel
theorem dX11_sumOf_2 : decode cX11_sumOf 2 = .ok (.invokevirtual 229, 3) := by decide +kernel
theorem dX11_sumOf_5 : decode cX11_sumOf 5 = .ok (.lstore_n 2, 1) := by decide +kernel
theorem dX11_sumOf_6 : decode cX11_sumOf 6 = .ok (.aload_n 0, 1) := by decide +kernel
theorem dX11_sumOf_7 : decode cX11_sumOf 7 = .ok (.aload_n 0, 1) := by decide +kernel
theorem dX11_sumOf_8 : decode cX11_sumOf 8 = .ok (.getfield 215, 3) := by decide +kernel
theorem dX11_sumOf_11 : decode cX11_sumOf 11 = .ok (.invokevirtual 218, 3) := by decide +kernel
theorem dX11_sumOf_14 : decode cX11_sumOf 14 = .ok (.bipush 43, 2) := by decide +kernel
theorem dX11_sumOf_16 : decode cX11_sumOf 16 = .ok (.invokestatic 190, 3) := by decide +kernel
theorem dX11_sumOf_19 : decode cX11_sumOf 19 = .ok (.if_icmp .eq 19, 3) := by decide +kernel
theorem dX11_sumOf_22 : decode cX11_sumOf 22 = .ok (.aload_n 0, 1) := by decide +kernel
theorem dX11_sumOf_23 : decode cX11_sumOf 23 = .ok (.aload_n 0, 1) := by decide +kernel
theorem dX11_sumOf_24 : decode cX11_sumOf 24 = .ok (.getfield 215, 3) := by decide +kernel
theorem dX11_sumOf_27 : decode cX11_sumOf 27 = .ok (.invokevirtual 218, 3) := by decide +kernel
theorem dX11_sumOf_30 : decode cX11_sumOf 30 = .ok (.bipush 45, 2) := by decide +kernel
theorem dX11_sumOf_32 : decode cX11_sumOf 32 = .ok (.invokestatic 190, 3) := by decide +kernel
theorem dX11_sumOf_35 : decode cX11_sumOf 35 = .ok (.if_icmp .ne 68, 3) := by decide +kernel
theorem dX11_sumOf_38 : decode cX11_sumOf 38 = .ok (.aload_n 0, 1) := by decide +kernel
theorem dX11_sumOf_39 : decode cX11_sumOf 39 = .ok (.aload_n 0, 1) := by decide +kernel
theorem dX11_sumOf_40 : decode cX11_sumOf 40 = .ok (.getfield 215, 3) := by decide +kernel
theorem dX11_sumOf_43 : decode cX11_sumOf 43 = .ok (.invokevirtual 218, 3) := by decide +kernel
theorem dX11_sumOf_46 : decode cX11_sumOf 46 = .ok (.bipush 43, 2) := by decide +kernel
theorem dX11_sumOf_48 : decode cX11_sumOf 48 = .ok (.invokestatic 190, 3) := by decide +kernel
theorem dX11_sumOf_51 : decode cX11_sumOf 51 = .ok (.if_icmp .ne 7, 3) := by decide +kernel
theorem dX11_sumOf_54 : decode cX11_sumOf 54 = .ok (.iconst 1, 1) := by decide +kernel
theorem dX11_sumOf_55 : decode cX11_sumOf 55 = .ok (.goto 4, 3) := by decide +kernel
theorem dX11_sumOf_58 : decode cX11_sumOf 58 = .ok (.iconst 0, 1) := by decide +kernel
theorem dX11_sumOf_59 : decode cX11_sumOf 59 = .ok (.istore 4, 2) := by decide +kernel
theorem dX11_sumOf_61 : decode cX11_sumOf 61 = .ok (.aload_n 0, 1) := by decide +kernel
theorem dX11_sumOf_62 : decode cX11_sumOf 62 = .ok (.dup, 1) := by decide +kernel
theorem dX11_sumOf_63 : decode cX11_sumOf 63 = .ok (.getfield 215, 3) := by decide +kernel
theorem dX11_sumOf_66 : decode cX11_sumOf 66 = .ok (.iconst 1, 1) := by decide +kernel
theorem dX11_sumOf_67 : decode cX11_sumOf 67 = .ok (.iadd, 1) := by decide +kernel
theorem dX11_sumOf_68 : decode cX11_sumOf 68 = .ok (.putfield 215, 3) := by decide +kernel
theorem dX11_sumOf_71 : decode cX11_sumOf 71 = .ok (.aload_n 0, 1) := by decide +kernel
theorem dX11_sumOf_72 : decode cX11_sumOf 72 = .ok (.iload_n 1, 1) := by decide +kernel
theorem dX11_sumOf_73 : decode cX11_sumOf 73 = .ok (.invokevirtual 229, 3) := by decide +kernel
theorem dX11_sumOf_76 : decode cX11_sumOf 76 = .ok (.lstore 5, 2) := by decide +kernel
theorem dX11_sumOf_78 : decode cX11_sumOf 78 = .ok (.aload_n 0, 1) := by decide +kernel
theorem dX11_sumOf_79 : decode cX11_sumOf 79 = .ok (.iload 4, 2) := by decide +kernel
theorem dX11_sumOf_81 : decode cX11_sumOf 81 = .ok (.ifCond .eq 10, 3) := by decide +kernel
theorem dX11_sumOf_84 : decode cX11_sumOf 84 = .ok (.lload_n 2, 1) := by decide +kernel
theorem dX11_sumOf_85 : decode cX11_sumOf 85 = .ok (.lload 5, 2) := by decide +kernel
theorem dX11_sumOf_87 : decode cX11_sumOf 87 = .ok (.ladd, 1) := by decide +kernel
theorem dX11_sumOf_88 : decode cX11_sumOf 88 = .ok (.goto 7, 3) := by decide +kernel
theorem dX11_sumOf_91 : decode cX11_sumOf 91 = .ok (.lload_n 2, 1) := by decide +kernel
theorem dX11_sumOf_92 : decode cX11_sumOf 92 = .ok (.lload 5, 2) := by decide +kernel
theorem dX11_sumOf_94 : decode cX11_sumOf 94 = .ok (.lsub, 1) := by decide +kernel
theorem dX11_sumOf_95 : decode cX11_sumOf 95 = .ok (.iload_n 1, 1) := by decide +kernel
theorem dX11_sumOf_96 : decode cX11_sumOf 96 = .ok (.invokevirtual 233, 3) := by decide +kernel
theorem dX11_sumOf_99 : decode cX11_sumOf 99 = .ok (.lstore_n 2, 1) := by decide +kernel
theorem dX11_sumOf_100 : decode cX11_sumOf 100 = .ok (.goto (-94), 3) := by decide +kernel
theorem dX11_sumOf_103 : decode cX11_sumOf 103 = .ok (.lload_n 2, 1) := by decide +kernel
theorem dX11_sumOf_104 : decode cX11_sumOf 104 = .ok (.lreturn, 1) := by decide +kernel
theorem dX11_termOf_0 : decode cX11_termOf 0 = .ok (.aload_n 0, 1) := by decide +kernel
theorem dX11_termOf_1 : decode cX11_termOf 1 = .ok (.iload_n 1, 1) := by decide +kernel
theorem dX11_termOf_2 : decode cX11_termOf 2 = .ok (.invokevirtual 237, 3) := by decide +kernel
theorem dX11_termOf_5 : decode cX11_termOf 5 = .ok (.lstore_n 2, 1) := by decide +kernel
theorem dX11_termOf_6 : decode cX11_termOf 6 = .ok (.aload_n 0, 1) := by decide +kernel
theorem dX11_termOf_7 : decode cX11_termOf 7 = .ok (.aload_n 0, 1) := by decide +kernel
theorem dX11_termOf_8 : decode cX11_termOf 8 = .ok (.getfield 215, 3) := by decide +kernel
theorem dX11_termOf_11 : decode cX11_termOf 11 = .ok (.invokevirtual 218, 3) := by decide +kernel
theorem dX11_termOf_14 : decode cX11_termOf 14 = .ok (.bipush 42, 2) := by decide +kernel
theorem dX11_termOf_16 : decode cX11_termOf 16 = .ok (.invokestatic 190, 3) := by decide +kernel
theorem dX11_termOf_19 : decode cX11_termOf 19 = .ok (.if_icmp .eq 35, 3) := by decide +kernel
theorem dX11_termOf_22 : decode cX11_termOf 22 = .ok (.aload_n 0, 1) := by decide +kernel
theorem dX11_termOf_23 : decode cX11_termOf 23 = .ok (.aload_n 0, 1) := by decide +kernel
theorem dX11_termOf_24 : decode cX11_termOf 24 = .ok (.getfield 215, 3) := by decide +kernel
theorem dX11_termOf_27 : decode cX11_termOf 27 = .ok (.invokevirtual 218, 3) := by decide +kernel
theorem dX11_termOf_30 : decode cX11_termOf 30 = .ok (.bipush 47, 2) := by decide +kernel
theorem dX11_termOf_32 : decode cX11_termOf 32 = .ok (.invokestatic 190, 3) := by decide +kernel
theorem dX11_termOf_35 : decode cX11_termOf 35 = .ok (.if_icmp .eq 19, 3) := by decide +kernel
theorem dX11_termOf_38 : decode cX11_termOf 38 = .ok (.aload_n 0, 1) := by decide +kernel
theorem dX11_termOf_39 : decode cX11_termOf 39 = .ok (.aload_n 0, 1) := by decide +kernel
theorem dX11_termOf_40 : decode cX11_termOf 40 = .ok (.getfield 215, 3) := by decide +kernel
theorem dX11_termOf_43 : decode cX11_termOf 43 = .ok (.invokevirtual 218, 3) := by decide +kernel
theorem dX11_termOf_46 : decode cX11_termOf 46 = .ok (.bipush 37, 2) := by decide +kernel
theorem dX11_termOf_48 : decode cX11_termOf 48 = .ok (.invokestatic 190, 3) := by decide +kernel
theorem dX11_termOf_51 : decode cX11_termOf 51 = .ok (.if_icmp .ne 117, 3) := by decide +kernel
theorem dX11_termOf_54 : decode cX11_termOf 54 = .ok (.aload_n 0, 1) := by decide +kernel
theorem dX11_termOf_55 : decode cX11_termOf 55 = .ok (.aload_n 0, 1) := by decide +kernel
theorem dX11_termOf_56 : decode cX11_termOf 56 = .ok (.getfield 215, 3) := by decide +kernel
theorem dX11_termOf_59 : decode cX11_termOf 59 = .ok (.invokevirtual 218, 3) := by decide +kernel
theorem dX11_termOf_62 : decode cX11_termOf 62 = .ok (.istore 4, 2) := by decide +kernel
theorem dX11_termOf_64 : decode cX11_termOf 64 = .ok (.aload_n 0, 1) := by decide +kernel
theorem dX11_termOf_65 : decode cX11_termOf 65 = .ok (.dup, 1) := by decide +kernel
theorem dX11_termOf_66 : decode cX11_termOf 66 = .ok (.getfield 215, 3) := by decide +kernel
theorem dX11_termOf_69 : decode cX11_termOf 69 = .ok (.iconst 1, 1) := by decide +kernel
theorem dX11_termOf_70 : decode cX11_termOf 70 = .ok (.iadd, 1) := by decide +kernel
theorem dX11_termOf_71 : decode cX11_termOf 71 = .ok (.putfield 215, 3) := by decide +kernel
theorem dX11_termOf_74 : decode cX11_termOf 74 = .ok (.aload_n 0, 1) := by decide +kernel
theorem dX11_termOf_75 : decode cX11_termOf 75 = .ok (.iload_n 1, 1) := by decide +kernel
theorem dX11_termOf_76 : decode cX11_termOf 76 = .ok (.invokevirtual 237, 3) := by decide +kernel
theorem dX11_termOf_79 : decode cX11_termOf 79 = .ok (.lstore 5, 2) := by decide +kernel
theorem dX11_termOf_81 : decode cX11_termOf 81 = .ok (.iload 4, 2) := by decide +kernel
theorem dX11_termOf_83 : decode cX11_termOf 83 = .ok (.bipush 42, 2) := by decide +kernel
theorem dX11_termOf_85 : decode cX11_termOf 85 = .ok (.invokestatic 190, 3) := by decide +kernel
theorem dX11_termOf_88 : decode cX11_termOf 88 = .ok (.if_icmp .eq 33, 3) := by decide +kernel
theorem dX11_termOf_91 : decode cX11_termOf 91 = .ok (.lload 5, 2) := by decide +kernel
theorem dX11_termOf_93 : decode cX11_termOf 93 = .ok (.lconst 0, 1) := by decide +kernel
theorem dX11_termOf_94 : decode cX11_termOf 94 = .ok (.lcmp, 1) := by decide +kernel
theorem dX11_termOf_95 : decode cX11_termOf 95 = .ok (.ifCond .ne 26, 3) := by decide +kernel
theorem dX11_termOf_98 : decode cX11_termOf 98 = .ok (.aload_n 0, 1) := by decide +kernel
theorem dX11_termOf_99 : decode cX11_termOf 99 = .ok (.aload_n 0, 1) := by decide +kernel
theorem dX11_termOf_100 : decode cX11_termOf 100 = .ok (.getfield 225, 3) := by decide +kernel
theorem dX11_termOf_103 : decode cX11_termOf 103 = .ok (.ifCond .ne 7, 3) := by decide +kernel
theorem dX11_termOf_106 : decode cX11_termOf 106 = .ok (.iload_n 1, 1) := by decide +kernel
theorem dX11_termOf_107 : decode cX11_termOf 107 = .ok (.ifCond .eq 7, 3) := by decide +kernel
theorem dX11_termOf_110 : decode cX11_termOf 110 = .ok (.iconst 1, 1) := by decide +kernel
theorem dX11_termOf_111 : decode cX11_termOf 111 = .ok (.goto 4, 3) := by decide +kernel
theorem dX11_termOf_114 : decode cX11_termOf 114 = .ok (.iconst 0, 1) := by decide +kernel
theorem dX11_termOf_115 : decode cX11_termOf 115 = .ok (.putfield 225, 3) := by decide +kernel
theorem dX11_termOf_118 : decode cX11_termOf 118 = .ok (.lconst 1, 1) := by decide +kernel
theorem dX11_termOf_119 : decode cX11_termOf 119 = .ok (.lstore 5, 2) := by decide +kernel
theorem dX11_termOf_121 : decode cX11_termOf 121 = .ok (.aload_n 0, 1) := by decide +kernel
theorem dX11_termOf_122 : decode cX11_termOf 122 = .ok (.iload 4, 2) := by decide +kernel
theorem dX11_termOf_124 : decode cX11_termOf 124 = .ok (.bipush 42, 2) := by decide +kernel
theorem dX11_termOf_126 : decode cX11_termOf 126 = .ok (.invokestatic 190, 3) := by decide +kernel
theorem dX11_termOf_129 : decode cX11_termOf 129 = .ok (.if_icmp .ne 10, 3) := by decide +kernel
theorem dX11_termOf_132 : decode cX11_termOf 132 = .ok (.lload_n 2, 1) := by decide +kernel
theorem dX11_termOf_133 : decode cX11_termOf 133 = .ok (.lload 5, 2) := by decide +kernel
theorem dX11_termOf_135 : decode cX11_termOf 135 = .ok (.lmul, 1) := by decide +kernel
theorem dX11_termOf_136 : decode cX11_termOf 136 = .ok (.goto 24, 3) := by decide +kernel
theorem dX11_termOf_139 : decode cX11_termOf 139 = .ok (.iload 4, 2) := by decide +kernel
theorem dX11_termOf_141 : decode cX11_termOf 141 = .ok (.bipush 47, 2) := by decide +kernel
theorem dX11_termOf_143 : decode cX11_termOf 143 = .ok (.invokestatic 190, 3) := by decide +kernel
theorem dX11_termOf_146 : decode cX11_termOf 146 = .ok (.if_icmp .ne 10, 3) := by decide +kernel
theorem dX11_termOf_149 : decode cX11_termOf 149 = .ok (.lload_n 2, 1) := by decide +kernel
theorem dX11_termOf_150 : decode cX11_termOf 150 = .ok (.lload 5, 2) := by decide +kernel
theorem dX11_termOf_152 : decode cX11_termOf 152 = .ok (.ldiv, 1) := by decide +kernel
theorem dX11_termOf_153 : decode cX11_termOf 153 = .ok (.goto 7, 3) := by decide +kernel
theorem dX11_termOf_156 : decode cX11_termOf 156 = .ok (.lload_n 2, 1) := by decide +kernel
theorem dX11_termOf_157 : decode cX11_termOf 157 = .ok (.lload 5, 2) := by decide +kernel
theorem dX11_termOf_159 : decode cX11_termOf 159 = .ok (.lrem, 1) := by decide +kernel
theorem dX11_termOf_160 : decode cX11_termOf 160 = .ok (.iload_n 1, 1) := by decide +kernel
theorem dX11_termOf_161 : decode cX11_termOf 161 = .ok (.invokevirtual 233, 3) := by decide +kernel
theorem dX11_termOf_164 : decode cX11_termOf 164 = .ok (.lstore_n 2, 1) := by decide +kernel
theorem dX11_termOf_165 : decode cX11_termOf 165 = .ok (.goto (-159), 3) := by decide +kernel
theorem dX11_termOf_168 : decode cX11_termOf 168 = .ok (.lload_n 2, 1) := by decide +kernel
theorem dX11_termOf_169 : decode cX11_termOf 169 = .ok (.lreturn, 1) := by decide +kernel
theorem dX11_partOf_0 : decode cX11_partOf 0 = .ok (.aload_n 0, 1) := by decide +kernel
theorem dX11_partOf_1 : decode cX11_partOf 1 = .ok (.bipush 91, 2) := by decide +kernel
theorem dX11_partOf_3 : decode cX11_partOf 3 = .ok (.invokestatic 190, 3) := by decide +kernel
theorem dX11_partOf_6 : decode cX11_partOf 6 = .ok (.invokevirtual 240, 3) := by decide +kernel
theorem dX11_partOf_9 : decode cX11_partOf 9 = .ok (.ifCond .eq 21, 3) := by decide +kernel
theorem dX11_partOf_12 : decode cX11_partOf 12 = .ok (.aload_n 0, 1) := by decide +kernel
theorem dX11_partOf_13 : decode cX11_partOf 13 = .ok (.iload_n 1, 1) := by decide +kernel
theorem dX11_partOf_14 : decode cX11_partOf 14 = .ok (.invokevirtual 243, 3) := by decide +kernel
theorem dX11_partOf_17 : decode cX11_partOf 17 = .ok (.lstore_n 2, 1) := by decide +kernel
theorem dX11_partOf_18 : decode cX11_partOf 18 = .ok (.aload_n 0, 1) := by decide +kernel
theorem dX11_partOf_19 : decode cX11_partOf 19 = .ok (.dup, 1) := by decide +kernel
theorem dX11_partOf_20 : decode cX11_partOf 20 = .ok (.getfield 215, 3) := by decide +kernel
theorem dX11_partOf_23 : decode cX11_partOf 23 = .ok (.iconst 1, 1) := by decide +kernel
theorem dX11_partOf_24 : decode cX11_partOf 24 = .ok (.iadd, 1) := by decide +kernel
theorem dX11_partOf_25 : decode cX11_partOf 25 = .ok (.putfield 215, 3) := by decide +kernel
theorem dX11_partOf_28 : decode cX11_partOf 28 = .ok (.lload_n 2, 1) := by decide +kernel
theorem dX11_partOf_29 : decode cX11_partOf 29 = .ok (.lreturn, 1) := by decide +kernel
theorem dX11_partOf_30 : decode cX11_partOf 30 = .ok (.aload_n 0, 1) := by decide +kernel
theorem dX11_partOf_31 : decode cX11_partOf 31 = .ok (.aload_n 0, 1) := by decide +kernel
theorem dX11_partOf_32 : decode cX11_partOf 32 = .ok (.getfield 215, 3) := by decide +kernel
theorem dX11_partOf_35 : decode cX11_partOf 35 = .ok (.invokevirtual 218, 3) := by decide +kernel
theorem dX11_partOf_38 : decode cX11_partOf 38 = .ok (.istore_n 2, 1) := by decide +kernel
theorem dX11_partOf_39 : decode cX11_partOf 39 = .ok (.aload_n 0, 1) := by decide +kernel
theorem dX11_partOf_40 : decode cX11_partOf 40 = .ok (.dup, 1) := by decide +kernel
theorem dX11_partOf_41 : decode cX11_partOf 41 = .ok (.getfield 215, 3) := by decide +kernel
theorem dX11_partOf_44 : decode cX11_partOf 44 = .ok (.iconst 1, 1) := by decide +kernel
theorem dX11_partOf_45 : decode cX11_partOf 45 = .ok (.iadd, 1) := by decide +kernel
theorem dX11_partOf_46 : decode cX11_partOf 46 = .ok (.putfield 215, 3) := by decide +kernel
theorem dX11_partOf_49 : decode cX11_partOf 49 = .ok (.iload_n 1, 1) := by decide +kernel
theorem dX11_partOf_50 : decode cX11_partOf 50 = .ok (.ifCond .eq 10, 3) := by decide +kernel
theorem dX11_partOf_53 : decode cX11_partOf 53 = .ok (.aload_n 0, 1) := by decide +kernel
theorem dX11_partOf_54 : decode cX11_partOf 54 = .ok (.getfield 225, 3) := by decide +kernel
theorem dX11_partOf_57 : decode cX11_partOf 57 = .ok (.ifCond .eq 5, 3) := by decide +kernel
theorem dX11_partOf_60 : decode cX11_partOf 60 = .ok (.lconst 0, 1) := by decide +kernel
theorem dX11_partOf_61 : decode cX11_partOf 61 = .ok (.lreturn, 1) := by decide +kernel
theorem dX11_partOf_62 : decode cX11_partOf 62 = .ok (.iload_n 2, 1) := by decide +kernel
theorem dX11_partOf_63 : decode cX11_partOf 63 = .ok (.bipush 50, 2) := by decide +kernel
theorem dX11_partOf_65 : decode cX11_partOf 65 = .ok (.if_icmp .ne 22, 3) := by decide +kernel
theorem dX11_partOf_68 : decode cX11_partOf 68 = .ok (.aload_n 0, 1) := by decide +kernel
theorem dX11_partOf_69 : decode cX11_partOf 69 = .ok (.getfield 20, 3) := by decide +kernel
theorem dX11_partOf_72 : decode cX11_partOf 72 = .ok (.sipush 2717, 3) := by decide +kernel
theorem dX11_partOf_75 : decode cX11_partOf 75 = .ok (.aload_n 0, 1) := by decide +kernel
theorem dX11_partOf_76 : decode cX11_partOf 76 = .ok (.getfield 215, 3) := by decide +kernel
theorem dX11_partOf_79 : decode cX11_partOf 79 = .ok (.iadd, 1) := by decide +kernel
theorem dX11_partOf_80 : decode cX11_partOf 80 = .ok (.iconst 1, 1) := by decide +kernel
theorem dX11_partOf_81 : decode cX11_partOf 81 = .ok (.isub, 1) := by decide +kernel
theorem dX11_partOf_82 : decode cX11_partOf 82 = .ok (.iaload, 1) := by decide +kernel
theorem dX11_partOf_83 : decode cX11_partOf 83 = .ok (.i2l, 1) := by decide +kernel
theorem dX11_partOf_84 : decode cX11_partOf 84 = .ok (.goto 13, 3) := by decide +kernel
theorem dX11_partOf_87 : decode cX11_partOf 87 = .ok (.aload_n 0, 1) := by decide +kernel
theorem dX11_partOf_88 : decode cX11_partOf 88 = .ok (.getfield 52, 3) := by decide +kernel
theorem dX11_partOf_91 : decode cX11_partOf 91 = .ok (.iload_n 2, 1) := by decide +kernel
theorem dX11_partOf_92 : decode cX11_partOf 92 = .ok (.bipush 6, 2) := by decide +kernel
theorem dX11_partOf_94 : decode cX11_partOf 94 = .ok (.isub, 1) := by decide +kernel
theorem dX11_partOf_95 : decode cX11_partOf 95 = .ok (.iaload, 1) := by decide +kernel
theorem dX11_partOf_96 : decode cX11_partOf 96 = .ok (.i2l, 1) := by decide +kernel
theorem dX11_partOf_97 : decode cX11_partOf 97 = .ok (.lreturn, 1) := by decide +kernel
theorem dX11_testOf_0 : decode cX11_testOf 0 = .ok (.aload_n 0, 1) := by decide +kernel
theorem dX11_testOf_1 : decode cX11_testOf 1 = .ok (.iload_n 1, 1) := by decide +kernel
theorem dX11_testOf_2 : decode cX11_testOf 2 = .ok (.invokevirtual 246, 3) := by decide +kernel
theorem dX11_testOf_5 : decode cX11_testOf 5 = .ok (.istore_n 2, 1) := by decide +kernel
theorem dX11_testOf_6 : decode cX11_testOf 6 = .ok (.aload_n 0, 1) := by decide +kernel
theorem dX11_testOf_7 : decode cX11_testOf 7 = .ok (.iconst 3, 1) := by decide +kernel
theorem dX11_testOf_8 : decode cX11_testOf 8 = .ok (.invokevirtual 240, 3) := by decide +kernel
theorem dX11_testOf_11 : decode cX11_testOf 11 = .ok (.ifCond .eq 38, 3) := by decide +kernel
theorem dX11_testOf_14 : decode cX11_testOf 14 = .ok (.aload_n 0, 1) := by decide +kernel
theorem dX11_testOf_15 : decode cX11_testOf 15 = .ok (.iload_n 1, 1) := by decide +kernel
theorem dX11_testOf_16 : decode cX11_testOf 16 = .ok (.ifCond .eq 11, 3) := by decide +kernel
theorem dX11_testOf_19 : decode cX11_testOf 19 = .ok (.iload_n 2, 1) := by decide +kernel
theorem dX11_testOf_20 : decode cX11_testOf 20 = .ok (.ifCond .ne 7, 3) := by decide +kernel
theorem dX11_testOf_23 : decode cX11_testOf 23 = .ok (.iconst 1, 1) := by decide +kernel
theorem dX11_testOf_24 : decode cX11_testOf 24 = .ok (.goto 4, 3) := by decide +kernel
theorem dX11_testOf_27 : decode cX11_testOf 27 = .ok (.iconst 0, 1) := by decide +kernel
theorem dX11_testOf_28 : decode cX11_testOf 28 = .ok (.invokevirtual 246, 3) := by decide +kernel
theorem dX11_testOf_31 : decode cX11_testOf 31 = .ok (.istore_n 3, 1) := by decide +kernel
theorem dX11_testOf_32 : decode cX11_testOf 32 = .ok (.iload_n 2, 1) := by decide +kernel
theorem dX11_testOf_33 : decode cX11_testOf 33 = .ok (.ifCond .ne 7, 3) := by decide +kernel
theorem dX11_testOf_36 : decode cX11_testOf 36 = .ok (.iload_n 3, 1) := by decide +kernel
theorem dX11_testOf_37 : decode cX11_testOf 37 = .ok (.ifCond .eq 7, 3) := by decide +kernel
theorem dX11_testOf_40 : decode cX11_testOf 40 = .ok (.iconst 1, 1) := by decide +kernel
theorem dX11_testOf_41 : decode cX11_testOf 41 = .ok (.goto 4, 3) := by decide +kernel
theorem dX11_testOf_44 : decode cX11_testOf 44 = .ok (.iconst 0, 1) := by decide +kernel
theorem dX11_testOf_45 : decode cX11_testOf 45 = .ok (.istore_n 2, 1) := by decide +kernel
theorem dX11_testOf_46 : decode cX11_testOf 46 = .ok (.goto (-40), 3) := by decide +kernel
theorem dX11_testOf_49 : decode cX11_testOf 49 = .ok (.iload_n 2, 1) := by decide +kernel
theorem dX11_testOf_50 : decode cX11_testOf 50 = .ok (.ireturn, 1) := by decide +kernel
theorem dX11_bothOf_0 : decode cX11_bothOf 0 = .ok (.aload_n 0, 1) := by decide +kernel
theorem dX11_bothOf_1 : decode cX11_bothOf 1 = .ok (.iload_n 1, 1) := by decide +kernel
theorem dX11_bothOf_2 : decode cX11_bothOf 2 = .ok (.invokevirtual 250, 3) := by decide +kernel
theorem dX11_bothOf_5 : decode cX11_bothOf 5 = .ok (.istore_n 2, 1) := by decide +kernel
theorem dX11_bothOf_6 : decode cX11_bothOf 6 = .ok (.aload_n 0, 1) := by decide +kernel
theorem dX11_bothOf_7 : decode cX11_bothOf 7 = .ok (.iconst 4, 1) := by decide +kernel
theorem dX11_bothOf_8 : decode cX11_bothOf 8 = .ok (.invokevirtual 240, 3) := by decide +kernel
theorem dX11_bothOf_11 : decode cX11_bothOf 11 = .ok (.ifCond .eq 38, 3) := by decide +kernel
theorem dX11_bothOf_14 : decode cX11_bothOf 14 = .ok (.aload_n 0, 1) := by decide +kernel
theorem dX11_bothOf_15 : decode cX11_bothOf 15 = .ok (.iload_n 1, 1) := by decide +kernel
theorem dX11_bothOf_16 : decode cX11_bothOf 16 = .ok (.ifCond .eq 11, 3) := by decide +kernel
theorem dX11_bothOf_19 : decode cX11_bothOf 19 = .ok (.iload_n 2, 1) := by decide +kernel
theorem dX11_bothOf_20 : decode cX11_bothOf 20 = .ok (.ifCond .eq 7, 3) := by decide +kernel
theorem dX11_bothOf_23 : decode cX11_bothOf 23 = .ok (.iconst 1, 1) := by decide +kernel
theorem dX11_bothOf_24 : decode cX11_bothOf 24 = .ok (.goto 4, 3) := by decide +kernel
theorem dX11_bothOf_27 : decode cX11_bothOf 27 = .ok (.iconst 0, 1) := by decide +kernel
theorem dX11_bothOf_28 : decode cX11_bothOf 28 = .ok (.invokevirtual 250, 3) := by decide +kernel
theorem dX11_bothOf_31 : decode cX11_bothOf 31 = .ok (.istore_n 3, 1) := by decide +kernel
theorem dX11_bothOf_32 : decode cX11_bothOf 32 = .ok (.iload_n 2, 1) := by decide +kernel
theorem dX11_bothOf_33 : decode cX11_bothOf 33 = .ok (.ifCond .eq 11, 3) := by decide +kernel
theorem dX11_bothOf_36 : decode cX11_bothOf 36 = .ok (.iload_n 3, 1) := by decide +kernel
theorem dX11_bothOf_37 : decode cX11_bothOf 37 = .ok (.ifCond .eq 7, 3) := by decide +kernel
theorem dX11_bothOf_40 : decode cX11_bothOf 40 = .ok (.iconst 1, 1) := by decide +kernel
theorem dX11_bothOf_41 : decode cX11_bothOf 41 = .ok (.goto 4, 3) := by decide +kernel
theorem dX11_bothOf_44 : decode cX11_bothOf 44 = .ok (.iconst 0, 1) := by decide +kernel
theorem dX11_bothOf_45 : decode cX11_bothOf 45 = .ok (.istore_n 2, 1) := by decide +kernel
theorem dX11_bothOf_46 : decode cX11_bothOf 46 = .ok (.goto (-40), 3) := by decide +kernel
theorem dX11_bothOf_49 : decode cX11_bothOf 49 = .ok (.iload_n 2, 1) := by decide +kernel
theorem dX11_bothOf_50 : decode cX11_bothOf 50 = .ok (.ireturn, 1) := by decide +kernel
theorem dX11_plainOf_0 : decode cX11_plainOf 0 = .ok (.iconst 0, 1) := by decide +kernel
theorem dX11_plainOf_1 : decode cX11_plainOf 1 = .ok (.istore_n 2, 1) := by decide +kernel
theorem dX11_plainOf_2 : decode cX11_plainOf 2 = .ok (.aload_n 0, 1) := by decide +kernel
theorem dX11_plainOf_3 : decode cX11_plainOf 3 = .ok (.iconst 5, 1) := by decide +kernel
theorem dX11_plainOf_4 : decode cX11_plainOf 4 = .ok (.invokevirtual 240, 3) := by decide +kernel
theorem dX11_plainOf_7 : decode cX11_plainOf 7 = .ok (.ifCond .eq 16, 3) := by decide +kernel
theorem dX11_plainOf_10 : decode cX11_plainOf 10 = .ok (.iload_n 2, 1) := by decide +kernel
theorem dX11_plainOf_11 : decode cX11_plainOf 11 = .ok (.ifCond .ne 7, 3) := by decide +kernel
theorem dX11_plainOf_14 : decode cX11_plainOf 14 = .ok (.iconst 1, 1) := by decide +kernel
theorem dX11_plainOf_15 : decode cX11_plainOf 15 = .ok (.goto 4, 3) := by decide +kernel
theorem dX11_plainOf_18 : decode cX11_plainOf 18 = .ok (.iconst 0, 1) := by decide +kernel
theorem dX11_plainOf_19 : decode cX11_plainOf 19 = .ok (.istore_n 2, 1) := by decide +kernel
theorem dX11_plainOf_20 : decode cX11_plainOf 20 = .ok (.goto (-18), 3) := by decide +kernel
theorem dX11_plainOf_23 : decode cX11_plainOf 23 = .ok (.aload_n 0, 1) := by decide +kernel
theorem dX11_plainOf_24 : decode cX11_plainOf 24 = .ok (.iload_n 1, 1) := by decide +kernel
theorem dX11_plainOf_25 : decode cX11_plainOf 25 = .ok (.invokevirtual 253, 3) := by decide +kernel
theorem dX11_plainOf_28 : decode cX11_plainOf 28 = .ok (.iload_n 2, 1) := by decide +kernel
theorem dX11_plainOf_29 : decode cX11_plainOf 29 = .ok (.if_icmp .eq 7, 3) := by decide +kernel
theorem dX11_plainOf_32 : decode cX11_plainOf 32 = .ok (.iconst 1, 1) := by decide +kernel
theorem dX11_plainOf_33 : decode cX11_plainOf 33 = .ok (.goto 4, 3) := by decide +kernel
theorem dX11_plainOf_36 : decode cX11_plainOf 36 = .ok (.iconst 0, 1) := by decide +kernel
theorem dX11_plainOf_37 : decode cX11_plainOf 37 = .ok (.ireturn, 1) := by decide +kernel
theorem dX11_positiveOf_0 : decode cX11_positiveOf 0 = .ok (.aload_n 0, 1) := by decide +kernel
theorem dX11_positiveOf_1 : decode cX11_positiveOf 1 = .ok (.bipush 40, 2) := by decide +kernel
theorem dX11_positiveOf_3 : decode cX11_positiveOf 3 = .ok (.invokestatic 190, 3) := by decide +kernel
theorem dX11_positiveOf_6 : decode cX11_positiveOf 6 = .ok (.invokevirtual 240, 3) := by decide +kernel
theorem dX11_positiveOf_9 : decode cX11_positiveOf 9 = .ok (.ifCond .eq 21, 3) := by decide +kernel
theorem dX11_positiveOf_12 : decode cX11_positiveOf 12 = .ok (.aload_n 0, 1) := by decide +kernel
theorem dX11_positiveOf_13 : decode cX11_positiveOf 13 = .ok (.iload_n 1, 1) := by decide +kernel
theorem dX11_positiveOf_14 : decode cX11_positiveOf 14 = .ok (.invokevirtual 256, 3) := by decide +kernel
theorem dX11_positiveOf_17 : decode cX11_positiveOf 17 = .ok (.istore_n 2, 1) := by decide +kernel
theorem dX11_positiveOf_18 : decode cX11_positiveOf 18 = .ok (.aload_n 0, 1) := by decide +kernel
theorem dX11_positiveOf_19 : decode cX11_positiveOf 19 = .ok (.dup, 1) := by decide +kernel
theorem dX11_positiveOf_20 : decode cX11_positiveOf 20 = .ok (.getfield 215, 3) := by decide +kernel
theorem dX11_positiveOf_23 : decode cX11_positiveOf 23 = .ok (.iconst 1, 1) := by decide +kernel
theorem dX11_positiveOf_24 : decode cX11_positiveOf 24 = .ok (.iadd, 1) := by decide +kernel
theorem dX11_positiveOf_25 : decode cX11_positiveOf 25 = .ok (.putfield 215, 3) := by decide +kernel
theorem dX11_positiveOf_28 : decode cX11_positiveOf 28 = .ok (.iload_n 2, 1) := by decide +kernel
theorem dX11_positiveOf_29 : decode cX11_positiveOf 29 = .ok (.ireturn, 1) := by decide +kernel
theorem dX11_positiveOf_30 : decode cX11_positiveOf 30 = .ok (.aload_n 0, 1) := by decide +kernel
theorem dX11_positiveOf_31 : decode cX11_positiveOf 31 = .ok (.iload_n 1, 1) := by decide +kernel
theorem dX11_positiveOf_32 : decode cX11_positiveOf 32 = .ok (.invokevirtual 243, 3) := by decide +kernel
theorem dX11_positiveOf_35 : decode cX11_positiveOf 35 = .ok (.lstore_n 2, 1) := by decide +kernel
theorem dX11_positiveOf_36 : decode cX11_positiveOf 36 = .ok (.aload_n 0, 1) := by decide +kernel
theorem dX11_positiveOf_37 : decode cX11_positiveOf 37 = .ok (.aload_n 0, 1) := by decide +kernel
theorem dX11_positiveOf_38 : decode cX11_positiveOf 38 = .ok (.getfield 215, 3) := by decide +kernel
theorem dX11_positiveOf_41 : decode cX11_positiveOf 41 = .ok (.invokevirtual 218, 3) := by decide +kernel
theorem dX11_positiveOf_44 : decode cX11_positiveOf 44 = .ok (.istore 4, 2) := by decide +kernel
theorem dX11_positiveOf_46 : decode cX11_positiveOf 46 = .ok (.aload_n 0, 1) := by decide +kernel
theorem dX11_positiveOf_47 : decode cX11_positiveOf 47 = .ok (.dup, 1) := by decide +kernel
theorem dX11_positiveOf_48 : decode cX11_positiveOf 48 = .ok (.getfield 215, 3) := by decide +kernel
theorem dX11_positiveOf_51 : decode cX11_positiveOf 51 = .ok (.iconst 1, 1) := by decide +kernel
theorem dX11_positiveOf_52 : decode cX11_positiveOf 52 = .ok (.iadd, 1) := by decide +kernel
theorem dX11_positiveOf_53 : decode cX11_positiveOf 53 = .ok (.putfield 215, 3) := by decide +kernel
theorem dX11_positiveOf_56 : decode cX11_positiveOf 56 = .ok (.aload_n 0, 1) := by decide +kernel
theorem dX11_positiveOf_57 : decode cX11_positiveOf 57 = .ok (.iload_n 1, 1) := by decide +kernel
theorem dX11_positiveOf_58 : decode cX11_positiveOf 58 = .ok (.invokevirtual 243, 3) := by decide +kernel
theorem dX11_positiveOf_61 : decode cX11_positiveOf 61 = .ok (.lstore 5, 2) := by decide +kernel
theorem dX11_positiveOf_63 : decode cX11_positiveOf 63 = .ok (.iload_n 1, 1) := by decide +kernel
theorem dX11_positiveOf_64 : decode cX11_positiveOf 64 = .ok (.ifCond .eq 61, 3) := by decide +kernel
theorem dX11_positiveOf_67 : decode cX11_positiveOf 67 = .ok (.aload_n 0, 1) := by decide +kernel
theorem dX11_positiveOf_68 : decode cX11_positiveOf 68 = .ok (.getfield 225, 3) := by decide +kernel
theorem dX11_positiveOf_71 : decode cX11_positiveOf 71 = .ok (.ifCond .ne 54, 3) := by decide +kernel
theorem dX11_positiveOf_74 : decode cX11_positiveOf 74 = .ok (.iload 4, 2) := by decide +kernel
theorem dX11_positiveOf_76 : decode cX11_positiveOf 76 = .ok (.bipush 60, 2) := by decide +kernel
theorem dX11_positiveOf_78 : decode cX11_positiveOf 78 = .ok (.invokestatic 190, 3) := by decide +kernel
theorem dX11_positiveOf_81 : decode cX11_positiveOf 81 = .ok (.if_icmp .ne 13, 3) := by decide +kernel
theorem dX11_positiveOf_84 : decode cX11_positiveOf 84 = .ok (.lload_n 2, 1) := by decide +kernel
theorem dX11_positiveOf_85 : decode cX11_positiveOf 85 = .ok (.lload 5, 2) := by decide +kernel
theorem dX11_positiveOf_87 : decode cX11_positiveOf 87 = .ok (.lcmp, 1) := by decide +kernel
theorem dX11_positiveOf_88 : decode cX11_positiveOf 88 = .ok (.ifCond .ge 37, 3) := by decide +kernel
theorem dX11_positiveOf_91 : decode cX11_positiveOf 91 = .ok (.goto 30, 3) := by decide +kernel
theorem dX11_positiveOf_94 : decode cX11_positiveOf 94 = .ok (.iload 4, 2) := by decide +kernel
theorem dX11_positiveOf_96 : decode cX11_positiveOf 96 = .ok (.bipush 62, 2) := by decide +kernel
theorem dX11_positiveOf_98 : decode cX11_positiveOf 98 = .ok (.invokestatic 190, 3) := by decide +kernel
theorem dX11_positiveOf_101 : decode cX11_positiveOf 101 = .ok (.if_icmp .ne 13, 3) := by decide +kernel
theorem dX11_positiveOf_104 : decode cX11_positiveOf 104 = .ok (.lload_n 2, 1) := by decide +kernel
theorem dX11_positiveOf_105 : decode cX11_positiveOf 105 = .ok (.lload 5, 2) := by decide +kernel
theorem dX11_positiveOf_107 : decode cX11_positiveOf 107 = .ok (.lcmp, 1) := by decide +kernel
theorem dX11_positiveOf_108 : decode cX11_positiveOf 108 = .ok (.ifCond .le 17, 3) := by decide +kernel
theorem dX11_positiveOf_111 : decode cX11_positiveOf 111 = .ok (.goto 10, 3) := by decide +kernel
theorem dX11_positiveOf_114 : decode cX11_positiveOf 114 = .ok (.lload_n 2, 1) := by decide +kernel
theorem dX11_positiveOf_115 : decode cX11_positiveOf 115 = .ok (.lload 5, 2) := by decide +kernel
theorem dX11_positiveOf_117 : decode cX11_positiveOf 117 = .ok (.lcmp, 1) := by decide +kernel
theorem dX11_positiveOf_118 : decode cX11_positiveOf 118 = .ok (.ifCond .ne 7, 3) := by decide +kernel
theorem dX11_positiveOf_121 : decode cX11_positiveOf 121 = .ok (.iconst 1, 1) := by decide +kernel
theorem dX11_positiveOf_122 : decode cX11_positiveOf 122 = .ok (.goto 4, 3) := by decide +kernel
theorem dX11_positiveOf_125 : decode cX11_positiveOf 125 = .ok (.iconst 0, 1) := by decide +kernel
theorem dX11_positiveOf_126 : decode cX11_positiveOf 126 = .ok (.ireturn, 1) := by decide +kernel
theorem dX11_asksOf_0 : decode cX11_asksOf 0 = .ok (.iconst 0, 1) := by decide +kernel
theorem dX11_asksOf_1 : decode cX11_asksOf 1 = .ok (.istore_n 2, 1) := by decide +kernel
theorem dX11_asksOf_2 : decode cX11_asksOf 2 = .ok (.iconst 0, 1) := by decide +kernel
theorem dX11_asksOf_3 : decode cX11_asksOf 3 = .ok (.istore_n 3, 1) := by decide +kernel
theorem dX11_asksOf_4 : decode cX11_asksOf 4 = .ok (.iconst (-1), 1) := by decide +kernel
theorem dX11_asksOf_5 : decode cX11_asksOf 5 = .ok (.istore 4, 2) := by decide +kernel
theorem dX11_asksOf_7 : decode cX11_asksOf 7 = .ok (.iconst (-1), 1) := by decide +kernel
theorem dX11_asksOf_8 : decode cX11_asksOf 8 = .ok (.istore 5, 2) := by decide +kernel
theorem dX11_asksOf_10 : decode cX11_asksOf 10 = .ok (.iconst 0, 1) := by decide +kernel
theorem dX11_asksOf_11 : decode cX11_asksOf 11 = .ok (.istore 6, 2) := by decide +kernel
theorem dX11_asksOf_13 : decode cX11_asksOf 13 = .ok (.iload 6, 2) := by decide +kernel
theorem dX11_asksOf_15 : decode cX11_asksOf 15 = .ok (.aload_n 0, 1) := by decide +kernel
theorem dX11_asksOf_16 : decode cX11_asksOf 16 = .ok (.getfield 20, 3) := by decide +kernel
theorem dX11_asksOf_19 : decode cX11_asksOf 19 = .ok (.sipush 304, 3) := by decide +kernel
theorem dX11_asksOf_22 : decode cX11_asksOf 22 = .ok (.iaload, 1) := by decide +kernel
theorem dX11_asksOf_23 : decode cX11_asksOf 23 = .ok (.if_icmp .ge 54, 3) := by decide +kernel
theorem dX11_asksOf_26 : decode cX11_asksOf 26 = .ok (.iload_n 1, 1) := by decide +kernel
theorem dX11_asksOf_27 : decode cX11_asksOf 27 = .ok (.iload 6, 2) := by decide +kernel
theorem dX11_asksOf_29 : decode cX11_asksOf 29 = .ok (.ishr, 1) := by decide +kernel
theorem dX11_asksOf_30 : decode cX11_asksOf 30 = .ok (.iconst 1, 1) := by decide +kernel
theorem dX11_asksOf_31 : decode cX11_asksOf 31 = .ok (.iand, 1) := by decide +kernel
theorem dX11_asksOf_32 : decode cX11_asksOf 32 = .ok (.ifCond .ne 6, 3) := by decide +kernel
theorem dX11_asksOf_35 : decode cX11_asksOf 35 = .ok (.goto 36, 3) := by decide +kernel
theorem dX11_asksOf_38 : decode cX11_asksOf 38 = .ok (.iload_n 2, 1) := by decide +kernel
theorem dX11_asksOf_39 : decode cX11_asksOf 39 = .ok (.iload 6, 2) := by decide +kernel
theorem dX11_asksOf_41 : decode cX11_asksOf 41 = .ok (.iconst 1, 1) := by decide +kernel
theorem dX11_asksOf_42 : decode cX11_asksOf 42 = .ok (.iadd, 1) := by decide +kernel
theorem dX11_asksOf_43 : decode cX11_asksOf 43 = .ok (.iadd, 1) := by decide +kernel
theorem dX11_asksOf_44 : decode cX11_asksOf 44 = .ok (.istore_n 2, 1) := by decide +kernel
theorem dX11_asksOf_45 : decode cX11_asksOf 45 = .ok (.iload_n 3, 1) := by decide +kernel
theorem dX11_asksOf_46 : decode cX11_asksOf 46 = .ok (.iload 6, 2) := by decide +kernel
theorem dX11_asksOf_48 : decode cX11_asksOf 48 = .ok (.iconst 1, 1) := by decide +kernel
theorem dX11_asksOf_49 : decode cX11_asksOf 49 = .ok (.iadd, 1) := by decide +kernel
theorem dX11_asksOf_50 : decode cX11_asksOf 50 = .ok (.ixor, 1) := by decide +kernel
theorem dX11_asksOf_51 : decode cX11_asksOf 51 = .ok (.istore_n 3, 1) := by decide +kernel
theorem dX11_asksOf_52 : decode cX11_asksOf 52 = .ok (.iload 4, 2) := by decide +kernel
theorem dX11_asksOf_54 : decode cX11_asksOf 54 = .ok (.iconst (-1), 1) := by decide +kernel
theorem dX11_asksOf_55 : decode cX11_asksOf 55 = .ok (.if_icmp .ne 8, 3) := by decide +kernel
theorem dX11_asksOf_58 : decode cX11_asksOf 58 = .ok (.iload 6, 2) := by decide +kernel
theorem dX11_asksOf_60 : decode cX11_asksOf 60 = .ok (.goto 5, 3) := by decide +kernel
theorem dX11_asksOf_63 : decode cX11_asksOf 63 = .ok (.iload 4, 2) := by decide +kernel
theorem dX11_asksOf_65 : decode cX11_asksOf 65 = .ok (.istore 4, 2) := by decide +kernel
theorem dX11_asksOf_67 : decode cX11_asksOf 67 = .ok (.iload 6, 2) := by decide +kernel
theorem dX11_asksOf_69 : decode cX11_asksOf 69 = .ok (.istore 5, 2) := by decide +kernel
theorem dX11_asksOf_71 : decode cX11_asksOf 71 = .ok (.iinc 6 1, 3) := by decide +kernel
theorem dX11_asksOf_74 : decode cX11_asksOf 74 = .ok (.goto (-61), 3) := by decide +kernel
theorem dX11_asksOf_77 : decode cX11_asksOf 77 = .ok (.aload_n 0, 1) := by decide +kernel
theorem dX11_asksOf_78 : decode cX11_asksOf 78 = .ok (.getfield 52, 3) := by decide +kernel
theorem dX11_asksOf_81 : decode cX11_asksOf 81 = .ok (.iconst 0, 1) := by decide +kernel
theorem dX11_asksOf_82 : decode cX11_asksOf 82 = .ok (.iload_n 1, 1) := by decide +kernel
theorem dX11_asksOf_83 : decode cX11_asksOf 83 = .ok (.iastore, 1) := by decide +kernel
theorem dX11_asksOf_84 : decode cX11_asksOf 84 = .ok (.aload_n 0, 1) := by decide +kernel
theorem dX11_asksOf_85 : decode cX11_asksOf 85 = .ok (.getfield 52, 3) := by decide +kernel
theorem dX11_asksOf_88 : decode cX11_asksOf 88 = .ok (.iconst 1, 1) := by decide +kernel
theorem dX11_asksOf_89 : decode cX11_asksOf 89 = .ok (.iload_n 1, 1) := by decide +kernel
theorem dX11_asksOf_90 : decode cX11_asksOf 90 = .ok (.invokestatic 259, 3) := by decide +kernel
theorem dX11_asksOf_93 : decode cX11_asksOf 93 = .ok (.iastore, 1) := by decide +kernel
theorem dX11_asksOf_94 : decode cX11_asksOf 94 = .ok (.aload_n 0, 1) := by decide +kernel
theorem dX11_asksOf_95 : decode cX11_asksOf 95 = .ok (.getfield 52, 3) := by decide +kernel
theorem dX11_asksOf_98 : decode cX11_asksOf 98 = .ok (.iconst 2, 1) := by decide +kernel
theorem dX11_asksOf_99 : decode cX11_asksOf 99 = .ok (.iload_n 2, 1) := by decide +kernel
theorem dX11_asksOf_100 : decode cX11_asksOf 100 = .ok (.iastore, 1) := by decide +kernel
theorem dX11_asksOf_101 : decode cX11_asksOf 101 = .ok (.aload_n 0, 1) := by decide +kernel
theorem dX11_asksOf_102 : decode cX11_asksOf 102 = .ok (.getfield 52, 3) := by decide +kernel
theorem dX11_asksOf_105 : decode cX11_asksOf 105 = .ok (.iconst 3, 1) := by decide +kernel
theorem dX11_asksOf_106 : decode cX11_asksOf 106 = .ok (.iload_n 3, 1) := by decide +kernel
theorem dX11_asksOf_107 : decode cX11_asksOf 107 = .ok (.iastore, 1) := by decide +kernel
theorem dX11_asksOf_108 : decode cX11_asksOf 108 = .ok (.aload_n 0, 1) := by decide +kernel
theorem dX11_asksOf_109 : decode cX11_asksOf 109 = .ok (.getfield 52, 3) := by decide +kernel
theorem dX11_asksOf_112 : decode cX11_asksOf 112 = .ok (.iconst 4, 1) := by decide +kernel
theorem dX11_asksOf_113 : decode cX11_asksOf 113 = .ok (.iload 4, 2) := by decide +kernel
theorem dX11_asksOf_115 : decode cX11_asksOf 115 = .ok (.iastore, 1) := by decide +kernel
theorem dX11_asksOf_116 : decode cX11_asksOf 116 = .ok (.aload_n 0, 1) := by decide +kernel
theorem dX11_asksOf_117 : decode cX11_asksOf 117 = .ok (.getfield 52, 3) := by decide +kernel
theorem dX11_asksOf_120 : decode cX11_asksOf 120 = .ok (.iconst 5, 1) := by decide +kernel
theorem dX11_asksOf_121 : decode cX11_asksOf 121 = .ok (.iload 5, 2) := by decide +kernel
theorem dX11_asksOf_123 : decode cX11_asksOf 123 = .ok (.iastore, 1) := by decide +kernel
theorem dX11_asksOf_124 : decode cX11_asksOf 124 = .ok (.aload_n 0, 1) := by decide +kernel
theorem dX11_asksOf_125 : decode cX11_asksOf 125 = .ok (.getfield 52, 3) := by decide +kernel
theorem dX11_asksOf_128 : decode cX11_asksOf 128 = .ok (.bipush 6, 2) := by decide +kernel
theorem dX11_asksOf_130 : decode cX11_asksOf 130 = .ok (.aload_n 0, 1) := by decide +kernel
theorem dX11_asksOf_131 : decode cX11_asksOf 131 = .ok (.getfield 20, 3) := by decide +kernel
theorem dX11_asksOf_134 : decode cX11_asksOf 134 = .ok (.sipush 304, 3) := by decide +kernel
theorem dX11_asksOf_137 : decode cX11_asksOf 137 = .ok (.iaload, 1) := by decide +kernel
theorem dX11_asksOf_138 : decode cX11_asksOf 138 = .ok (.iastore, 1) := by decide +kernel
theorem dX11_asksOf_139 : decode cX11_asksOf 139 = .ok (.aload_n 0, 1) := by decide +kernel
theorem dX11_asksOf_140 : decode cX11_asksOf 140 = .ok (.getfield 52, 3) := by decide +kernel
theorem dX11_asksOf_143 : decode cX11_asksOf 143 = .ok (.bipush 7, 2) := by decide +kernel
theorem dX11_asksOf_145 : decode cX11_asksOf 145 = .ok (.aload_n 0, 1) := by decide +kernel
theorem dX11_asksOf_146 : decode cX11_asksOf 146 = .ok (.getfield 20, 3) := by decide +kernel
theorem dX11_asksOf_149 : decode cX11_asksOf 149 = .ok (.sipush 305, 3) := by decide +kernel
theorem dX11_asksOf_152 : decode cX11_asksOf 152 = .ok (.iaload, 1) := by decide +kernel
theorem dX11_asksOf_153 : decode cX11_asksOf 153 = .ok (.iastore, 1) := by decide +kernel
theorem dX11_asksOf_154 : decode cX11_asksOf 154 = .ok (.return_, 1) := by decide +kernel
theorem dX11_toldBy_0 : decode cX11_toldBy 0 = .ok (.aload_n 0, 1) := by decide +kernel
theorem dX11_toldBy_1 : decode cX11_toldBy 1 = .ok (.sipush 400, 3) := by decide +kernel
theorem dX11_toldBy_4 : decode cX11_toldBy 4 = .ok (.iload_n 1, 1) := by decide +kernel
theorem dX11_toldBy_5 : decode cX11_toldBy 5 = .ok (.imul, 1) := by decide +kernel
theorem dX11_toldBy_6 : decode cX11_toldBy 6 = .ok (.putfield 215, 3) := by decide +kernel
theorem dX11_toldBy_9 : decode cX11_toldBy 9 = .ok (.aload_n 0, 1) := by decide +kernel
theorem dX11_toldBy_10 : decode cX11_toldBy 10 = .ok (.aload_n 0, 1) := by decide +kernel
theorem dX11_toldBy_11 : decode cX11_toldBy 11 = .ok (.getfield 215, 3) := by decide +kernel
theorem dX11_toldBy_14 : decode cX11_toldBy 14 = .ok (.aload_n 0, 1) := by decide +kernel
theorem dX11_toldBy_15 : decode cX11_toldBy 15 = .ok (.getfield 20, 3) := by decide +kernel
theorem dX11_toldBy_18 : decode cX11_toldBy 18 = .ok (.sipush 311, 3) := by decide +kernel
theorem dX11_toldBy_21 : decode cX11_toldBy 21 = .ok (.iload_n 1, 1) := by decide +kernel
theorem dX11_toldBy_22 : decode cX11_toldBy 22 = .ok (.iadd, 1) := by decide +kernel
theorem dX11_toldBy_23 : decode cX11_toldBy 23 = .ok (.iaload, 1) := by decide +kernel
theorem dX11_toldBy_24 : decode cX11_toldBy 24 = .ok (.iadd, 1) := by decide +kernel
theorem dX11_toldBy_25 : decode cX11_toldBy 25 = .ok (.putfield 212, 3) := by decide +kernel
theorem dX11_toldBy_28 : decode cX11_toldBy 28 = .ok (.ldc2_w 262, 3) := by decide +kernel
theorem dX11_toldBy_31 : decode cX11_toldBy 31 = .ok (.lstore_n 2, 1) := by decide +kernel
theorem dX11_toldBy_32 : decode cX11_toldBy 32 = .ok (.aload_n 0, 1) := by decide +kernel
theorem dX11_toldBy_33 : decode cX11_toldBy 33 = .ok (.getfield 215, 3) := by decide +kernel
theorem dX11_toldBy_36 : decode cX11_toldBy 36 = .ok (.aload_n 0, 1) := by decide +kernel
theorem dX11_toldBy_37 : decode cX11_toldBy 37 = .ok (.getfield 212, 3) := by decide +kernel
theorem dX11_toldBy_40 : decode cX11_toldBy 40 = .ok (.if_icmp .ge 92, 3) := by decide +kernel
theorem dX11_toldBy_43 : decode cX11_toldBy 43 = .ok (.aload_n 0, 1) := by decide +kernel
theorem dX11_toldBy_44 : decode cX11_toldBy 44 = .ok (.iconst 0, 1) := by decide +kernel
theorem dX11_toldBy_45 : decode cX11_toldBy 45 = .ok (.putfield 225, 3) := by decide +kernel
theorem dX11_toldBy_48 : decode cX11_toldBy 48 = .ok (.aload_n 0, 1) := by decide +kernel
theorem dX11_toldBy_49 : decode cX11_toldBy 49 = .ok (.dup, 1) := by decide +kernel
theorem dX11_toldBy_50 : decode cX11_toldBy 50 = .ok (.getfield 215, 3) := by decide +kernel
theorem dX11_toldBy_53 : decode cX11_toldBy 53 = .ok (.iconst 1, 1) := by decide +kernel
theorem dX11_toldBy_54 : decode cX11_toldBy 54 = .ok (.iadd, 1) := by decide +kernel
theorem dX11_toldBy_55 : decode cX11_toldBy 55 = .ok (.putfield 215, 3) := by decide +kernel
theorem dX11_toldBy_58 : decode cX11_toldBy 58 = .ok (.aload_n 0, 1) := by decide +kernel
theorem dX11_toldBy_59 : decode cX11_toldBy 59 = .ok (.iconst 1, 1) := by decide +kernel
theorem dX11_toldBy_60 : decode cX11_toldBy 60 = .ok (.invokevirtual 243, 3) := by decide +kernel
theorem dX11_toldBy_63 : decode cX11_toldBy 63 = .ok (.lstore 4, 2) := by decide +kernel
theorem dX11_toldBy_65 : decode cX11_toldBy 65 = .ok (.aload_n 0, 1) := by decide +kernel
theorem dX11_toldBy_66 : decode cX11_toldBy 66 = .ok (.getfield 225, 3) := by decide +kernel
theorem dX11_toldBy_69 : decode cX11_toldBy 69 = .ok (.istore 6, 2) := by decide +kernel
theorem dX11_toldBy_71 : decode cX11_toldBy 71 = .ok (.aload_n 0, 1) := by decide +kernel
theorem dX11_toldBy_72 : decode cX11_toldBy 72 = .ok (.iconst 0, 1) := by decide +kernel
theorem dX11_toldBy_73 : decode cX11_toldBy 73 = .ok (.putfield 225, 3) := by decide +kernel
theorem dX11_toldBy_76 : decode cX11_toldBy 76 = .ok (.aload_n 0, 1) := by decide +kernel
theorem dX11_toldBy_77 : decode cX11_toldBy 77 = .ok (.iconst 2, 1) := by decide +kernel
theorem dX11_toldBy_78 : decode cX11_toldBy 78 = .ok (.invokevirtual 240, 3) := by decide +kernel
theorem dX11_toldBy_81 : decode cX11_toldBy 81 = .ok (.ifCond .eq 11, 3) := by decide +kernel
theorem dX11_toldBy_84 : decode cX11_toldBy 84 = .ok (.aload_n 0, 1) := by decide +kernel
theorem dX11_toldBy_85 : decode cX11_toldBy 85 = .ok (.iconst 1, 1) := by decide +kernel
theorem dX11_toldBy_86 : decode cX11_toldBy 86 = .ok (.invokevirtual 256, 3) := by decide +kernel
theorem dX11_toldBy_89 : decode cX11_toldBy 89 = .ok (.ifCond .eq 7, 3) := by decide +kernel
theorem dX11_toldBy_92 : decode cX11_toldBy 92 = .ok (.iconst 1, 1) := by decide +kernel
theorem dX11_toldBy_93 : decode cX11_toldBy 93 = .ok (.goto 4, 3) := by decide +kernel
theorem dX11_toldBy_96 : decode cX11_toldBy 96 = .ok (.iconst 0, 1) := by decide +kernel
theorem dX11_toldBy_97 : decode cX11_toldBy 97 = .ok (.istore 7, 2) := by decide +kernel
theorem dX11_toldBy_99 : decode cX11_toldBy 99 = .ok (.iload 7, 2) := by decide +kernel
theorem dX11_toldBy_101 : decode cX11_toldBy 101 = .ok (.ifCond .eq 18, 3) := by decide +kernel
theorem dX11_toldBy_104 : decode cX11_toldBy 104 = .ok (.aload_n 0, 1) := by decide +kernel
theorem dX11_toldBy_105 : decode cX11_toldBy 105 = .ok (.getfield 225, 3) := by decide +kernel
theorem dX11_toldBy_108 : decode cX11_toldBy 108 = .ok (.ifCond .ne 11, 3) := by decide +kernel
theorem dX11_toldBy_111 : decode cX11_toldBy 111 = .ok (.iload 6, 2) := by decide +kernel
theorem dX11_toldBy_113 : decode cX11_toldBy 113 = .ok (.ifCond .ne 6, 3) := by decide +kernel
theorem dX11_toldBy_116 : decode cX11_toldBy 116 = .ok (.lload 4, 2) := by decide +kernel
theorem dX11_toldBy_118 : decode cX11_toldBy 118 = .ok (.lstore_n 2, 1) := by decide +kernel
theorem dX11_toldBy_119 : decode cX11_toldBy 119 = .ok (.aload_n 0, 1) := by decide +kernel
theorem dX11_toldBy_120 : decode cX11_toldBy 120 = .ok (.dup, 1) := by decide +kernel
theorem dX11_toldBy_121 : decode cX11_toldBy 121 = .ok (.getfield 215, 3) := by decide +kernel
theorem dX11_toldBy_124 : decode cX11_toldBy 124 = .ok (.iconst 1, 1) := by decide +kernel
theorem dX11_toldBy_125 : decode cX11_toldBy 125 = .ok (.iadd, 1) := by decide +kernel
theorem dX11_toldBy_126 : decode cX11_toldBy 126 = .ok (.putfield 215, 3) := by decide +kernel
theorem dX11_toldBy_129 : decode cX11_toldBy 129 = .ok (.goto (-97), 3) := by decide +kernel
theorem dX11_toldBy_132 : decode cX11_toldBy 132 = .ok (.lload_n 2, 1) := by decide +kernel
theorem dX11_toldBy_133 : decode cX11_toldBy 133 = .ok (.lconst 0, 1) := by decide +kernel
theorem dX11_toldBy_134 : decode cX11_toldBy 134 = .ok (.lcmp, 1) := by decide +kernel
theorem dX11_toldBy_135 : decode cX11_toldBy 135 = .ok (.ifCond .lt 22, 3) := by decide +kernel
theorem dX11_toldBy_138 : decode cX11_toldBy 138 = .ok (.lload_n 2, 1) := by decide +kernel
theorem dX11_toldBy_139 : decode cX11_toldBy 139 = .ok (.aload_n 0, 1) := by decide +kernel
theorem dX11_toldBy_140 : decode cX11_toldBy 140 = .ok (.getfield 20, 3) := by decide +kernel
theorem dX11_toldBy_143 : decode cX11_toldBy 143 = .ok (.sipush 305, 3) := by decide +kernel
theorem dX11_toldBy_146 : decode cX11_toldBy 146 = .ok (.iaload, 1) := by decide +kernel
theorem dX11_toldBy_147 : decode cX11_toldBy 147 = .ok (.i2l, 1) := by decide +kernel
theorem dX11_toldBy_148 : decode cX11_toldBy 148 = .ok (.lcmp, 1) := by decide +kernel
theorem dX11_toldBy_149 : decode cX11_toldBy 149 = .ok (.ifCond .ge 8, 3) := by decide +kernel
theorem dX11_toldBy_152 : decode cX11_toldBy 152 = .ok (.lload_n 2, 1) := by decide +kernel
theorem dX11_toldBy_153 : decode cX11_toldBy 153 = .ok (.l2i, 1) := by decide +kernel
theorem dX11_toldBy_154 : decode cX11_toldBy 154 = .ok (.goto 4, 3) := by decide +kernel
theorem dX11_toldBy_157 : decode cX11_toldBy 157 = .ok (.iconst (-1), 1) := by decide +kernel
theorem dX11_toldBy_158 : decode cX11_toldBy 158 = .ok (.ireturn, 1) := by decide +kernel
theorem dX11_learn_0 : decode cX11_learn 0 = .ok (.iload_n 1, 1) := by decide +kernel
theorem dX11_learn_1 : decode cX11_learn 1 = .ok (.iconst 0, 1) := by decide +kernel
theorem dX11_learn_2 : decode cX11_learn 2 = .ok (.aload_n 0, 1) := by decide +kernel
theorem dX11_learn_3 : decode cX11_learn 3 = .ok (.getfield 20, 3) := by decide +kernel
theorem dX11_learn_6 : decode cX11_learn 6 = .ok (.sipush 310, 3) := by decide +kernel
theorem dX11_learn_9 : decode cX11_learn 9 = .ok (.iaload, 1) := by decide +kernel
theorem dX11_learn_10 : decode cX11_learn 10 = .ok (.iconst 1, 1) := by decide +kernel
theorem dX11_learn_11 : decode cX11_learn 11 = .ok (.isub, 1) := by decide +kernel
theorem dX11_learn_12 : decode cX11_learn 12 = .ok (.invokestatic 101, 3) := by decide +kernel
theorem dX11_learn_15 : decode cX11_learn 15 = .ok (.ifCond .ne 10, 3) := by decide +kernel
theorem dX11_learn_18 : decode cX11_learn 18 = .ok (.aload_n 0, 1) := by decide +kernel
theorem dX11_learn_19 : decode cX11_learn 19 = .ok (.bipush (-2), 2) := by decide +kernel
theorem dX11_learn_21 : decode cX11_learn 21 = .ok (.invokevirtual 105, 3) := by decide +kernel
theorem dX11_learn_24 : decode cX11_learn 24 = .ok (.ireturn, 1) := by decide +kernel
theorem dX11_learn_25 : decode cX11_learn 25 = .ok (.iconst 0, 1) := by decide +kernel
theorem dX11_learn_26 : decode cX11_learn 26 = .ok (.istore_n 2, 1) := by decide +kernel
theorem dX11_learn_27 : decode cX11_learn 27 = .ok (.iload_n 2, 1) := by decide +kernel
theorem dX11_learn_28 : decode cX11_learn 28 = .ok (.aload_n 0, 1) := by decide +kernel
theorem dX11_learn_29 : decode cX11_learn 29 = .ok (.invokevirtual 112, 3) := by decide +kernel
theorem dX11_learn_32 : decode cX11_learn 32 = .ok (.if_icmp .ge 27, 3) := by decide +kernel
theorem dX11_learn_35 : decode cX11_learn 35 = .ok (.aload_n 0, 1) := by decide +kernel
theorem dX11_learn_36 : decode cX11_learn 36 = .ok (.iload_n 2, 1) := by decide +kernel
theorem dX11_learn_37 : decode cX11_learn 37 = .ok (.invokevirtual 264, 3) := by decide +kernel
theorem dX11_learn_40 : decode cX11_learn 40 = .ok (.aload_n 0, 1) := by decide +kernel
theorem dX11_learn_41 : decode cX11_learn 41 = .ok (.getfield 20, 3) := by decide +kernel
theorem dX11_learn_44 : decode cX11_learn 44 = .ok (.iconst 0, 1) := by decide +kernel
theorem dX11_learn_45 : decode cX11_learn 45 = .ok (.iload_n 2, 1) := by decide +kernel
theorem dX11_learn_46 : decode cX11_learn 46 = .ok (.iadd, 1) := by decide +kernel
theorem dX11_learn_47 : decode cX11_learn 47 = .ok (.aload_n 0, 1) := by decide +kernel
theorem dX11_learn_48 : decode cX11_learn 48 = .ok (.iload_n 1, 1) := by decide +kernel
theorem dX11_learn_49 : decode cX11_learn 49 = .ok (.invokevirtual 267, 3) := by decide +kernel
theorem dX11_learn_52 : decode cX11_learn 52 = .ok (.iastore, 1) := by decide +kernel
theorem dX11_learn_53 : decode cX11_learn 53 = .ok (.iinc 2 1, 3) := by decide +kernel
theorem dX11_learn_56 : decode cX11_learn 56 = .ok (.goto (-29), 3) := by decide +kernel
theorem dX11_learn_59 : decode cX11_learn 59 = .ok (.aload_n 0, 1) := by decide +kernel
theorem dX11_learn_60 : decode cX11_learn 60 = .ok (.aload_n 0, 1) := by decide +kernel
theorem dX11_learn_61 : decode cX11_learn 61 = .ok (.invokevirtual 139, 3) := by decide +kernel
theorem dX11_learn_64 : decode cX11_learn 64 = .ok (.invokevirtual 109, 3) := by decide +kernel
theorem dX11_learn_67 : decode cX11_learn 67 = .ok (.ireturn, 1) := by decide +kernel
theorem dX11_canCome_0 : decode cX11_canCome 0 = .ok (.iload_n 1, 1) := by decide +kernel
theorem dX11_canCome_1 : decode cX11_canCome 1 = .ok (.iload_n 2, 1) := by decide +kernel
theorem dX11_canCome_2 : decode cX11_canCome 2 = .ok (.iconst (-1), 1) := by decide +kernel
theorem dX11_canCome_3 : decode cX11_canCome 3 = .ok (.ixor, 1) := by decide +kernel
theorem dX11_canCome_4 : decode cX11_canCome 4 = .ok (.iand, 1) := by decide +kernel
theorem dX11_canCome_5 : decode cX11_canCome 5 = .ok (.ifCond .ne 17, 3) := by decide +kernel
theorem dX11_canCome_8 : decode cX11_canCome 8 = .ok (.iload_n 2, 1) := by decide +kernel
theorem dX11_canCome_9 : decode cX11_canCome 9 = .ok (.iload_n 1, 1) := by decide +kernel
theorem dX11_canCome_10 : decode cX11_canCome 10 = .ok (.iconst (-1), 1) := by decide +kernel
theorem dX11_canCome_11 : decode cX11_canCome 11 = .ok (.ixor, 1) := by decide +kernel
theorem dX11_canCome_12 : decode cX11_canCome 12 = .ok (.iand, 1) := by decide +kernel
theorem dX11_canCome_13 : decode cX11_canCome 13 = .ok (.iload_n 3, 1) := by decide +kernel
theorem dX11_canCome_14 : decode cX11_canCome 14 = .ok (.iand, 1) := by decide +kernel
theorem dX11_canCome_15 : decode cX11_canCome 15 = .ok (.ifCond .ne 7, 3) := by decide +kernel
theorem dX11_canCome_18 : decode cX11_canCome 18 = .ok (.iconst 1, 1) := by decide +kernel
theorem dX11_canCome_19 : decode cX11_canCome 19 = .ok (.goto 4, 3) := by decide +kernel
theorem dX11_canCome_22 : decode cX11_canCome 22 = .ok (.iconst 0, 1) := by decide +kernel
theorem dX11_canCome_23 : decode cX11_canCome 23 = .ok (.ireturn, 1) := by decide +kernel
theorem dX11_lastingOf_0 : decode cX11_lastingOf 0 = .ok (.ldc_w 270, 3) := by decide +kernel
theorem dX11_lastingOf_3 : decode cX11_lastingOf 3 = .ok (.istore_n 3, 1) := by decide +kernel
theorem dX11_lastingOf_4 : decode cX11_lastingOf 4 = .ok (.iconst 0, 1) := by decide +kernel
theorem dX11_lastingOf_5 : decode cX11_lastingOf 5 = .ok (.istore 4, 2) := by decide +kernel
theorem dX11_lastingOf_7 : decode cX11_lastingOf 7 = .ok (.iload 4, 2) := by decide +kernel
theorem dX11_lastingOf_9 : decode cX11_lastingOf 9 = .ok (.aload_n 0, 1) := by decide +kernel
theorem dX11_lastingOf_10 : decode cX11_lastingOf 10 = .ok (.getfield 20, 3) := by decide +kernel
theorem dX11_lastingOf_13 : decode cX11_lastingOf 13 = .ok (.sipush 305, 3) := by decide +kernel
theorem dX11_lastingOf_16 : decode cX11_lastingOf 16 = .ok (.iaload, 1) := by decide +kernel
theorem dX11_lastingOf_17 : decode cX11_lastingOf 17 = .ok (.if_icmp .ge 96, 3) := by decide +kernel
theorem dX11_lastingOf_20 : decode cX11_lastingOf 20 = .ok (.iload 4, 2) := by decide +kernel
theorem dX11_lastingOf_22 : decode cX11_lastingOf 22 = .ok (.aload_n 0, 1) := by decide +kernel
theorem dX11_lastingOf_23 : decode cX11_lastingOf 23 = .ok (.iload_n 1, 1) := by decide +kernel
theorem dX11_lastingOf_24 : decode cX11_lastingOf 24 = .ok (.invokevirtual 126, 3) := by decide +kernel
theorem dX11_lastingOf_27 : decode cX11_lastingOf 27 = .ok (.if_icmp .ne 6, 3) := by decide +kernel
theorem dX11_lastingOf_30 : decode cX11_lastingOf 30 = .ok (.goto 77, 3) := by decide +kernel
theorem dX11_lastingOf_33 : decode cX11_lastingOf 33 = .ok (.iconst 0, 1) := by decide +kernel
theorem dX11_lastingOf_34 : decode cX11_lastingOf 34 = .ok (.istore 5, 2) := by decide +kernel
theorem dX11_lastingOf_36 : decode cX11_lastingOf 36 = .ok (.iload_n 1, 1) := by decide +kernel
theorem dX11_lastingOf_37 : decode cX11_lastingOf 37 = .ok (.iconst 1, 1) := by decide +kernel
theorem dX11_lastingOf_38 : decode cX11_lastingOf 38 = .ok (.iadd, 1) := by decide +kernel
theorem dX11_lastingOf_39 : decode cX11_lastingOf 39 = .ok (.istore 6, 2) := by decide +kernel
theorem dX11_lastingOf_41 : decode cX11_lastingOf 41 = .ok (.iload 6, 2) := by decide +kernel
theorem dX11_lastingOf_43 : decode cX11_lastingOf 43 = .ok (.aload_n 0, 1) := by decide +kernel
theorem dX11_lastingOf_44 : decode cX11_lastingOf 44 = .ok (.invokevirtual 112, 3) := by decide +kernel
theorem dX11_lastingOf_47 : decode cX11_lastingOf 47 = .ok (.if_icmp .ge 47, 3) := by decide +kernel
theorem dX11_lastingOf_50 : decode cX11_lastingOf 50 = .ok (.aload_n 0, 1) := by decide +kernel
theorem dX11_lastingOf_51 : decode cX11_lastingOf 51 = .ok (.iload 6, 2) := by decide +kernel
theorem dX11_lastingOf_53 : decode cX11_lastingOf 53 = .ok (.invokevirtual 126, 3) := by decide +kernel
theorem dX11_lastingOf_56 : decode cX11_lastingOf 56 = .ok (.iload 4, 2) := by decide +kernel
theorem dX11_lastingOf_58 : decode cX11_lastingOf 58 = .ok (.if_icmp .ne 30, 3) := by decide +kernel
theorem dX11_lastingOf_61 : decode cX11_lastingOf 61 = .ok (.aload_n 0, 1) := by decide +kernel
theorem dX11_lastingOf_62 : decode cX11_lastingOf 62 = .ok (.iload_n 1, 1) := by decide +kernel
theorem dX11_lastingOf_63 : decode cX11_lastingOf 63 = .ok (.iload 6, 2) := by decide +kernel
theorem dX11_lastingOf_65 : decode cX11_lastingOf 65 = .ok (.iload_n 2, 1) := by decide +kernel
theorem dX11_lastingOf_66 : decode cX11_lastingOf 66 = .ok (.invokevirtual 271, 3) := by decide +kernel
theorem dX11_lastingOf_69 : decode cX11_lastingOf 69 = .ok (.ifCond .eq 19, 3) := by decide +kernel
theorem dX11_lastingOf_72 : decode cX11_lastingOf 72 = .ok (.iload 5, 2) := by decide +kernel
theorem dX11_lastingOf_74 : decode cX11_lastingOf 74 = .ok (.iconst 1, 1) := by decide +kernel
theorem dX11_lastingOf_75 : decode cX11_lastingOf 75 = .ok (.aload_n 0, 1) := by decide +kernel
theorem dX11_lastingOf_76 : decode cX11_lastingOf 76 = .ok (.getfield 55, 3) := by decide +kernel
theorem dX11_lastingOf_79 : decode cX11_lastingOf 79 = .ok (.iload 6, 2) := by decide +kernel
theorem dX11_lastingOf_81 : decode cX11_lastingOf 81 = .ok (.iaload, 1) := by decide +kernel
theorem dX11_lastingOf_82 : decode cX11_lastingOf 82 = .ok (.iadd, 1) := by decide +kernel
theorem dX11_lastingOf_83 : decode cX11_lastingOf 83 = .ok (.invokestatic 132, 3) := by decide +kernel
theorem dX11_lastingOf_86 : decode cX11_lastingOf 86 = .ok (.istore 5, 2) := by decide +kernel
theorem dX11_lastingOf_88 : decode cX11_lastingOf 88 = .ok (.iinc 6 1, 3) := by decide +kernel
theorem dX11_lastingOf_91 : decode cX11_lastingOf 91 = .ok (.goto (-50), 3) := by decide +kernel
theorem dX11_lastingOf_94 : decode cX11_lastingOf 94 = .ok (.iload 5, 2) := by decide +kernel
theorem dX11_lastingOf_96 : decode cX11_lastingOf 96 = .ok (.iload_n 3, 1) := by decide +kernel
theorem dX11_lastingOf_97 : decode cX11_lastingOf 97 = .ok (.if_icmp .ge 8, 3) := by decide +kernel
theorem dX11_lastingOf_100 : decode cX11_lastingOf 100 = .ok (.iload 5, 2) := by decide +kernel
theorem dX11_lastingOf_102 : decode cX11_lastingOf 102 = .ok (.goto 4, 3) := by decide +kernel
theorem dX11_lastingOf_105 : decode cX11_lastingOf 105 = .ok (.iload_n 3, 1) := by decide +kernel
theorem dX11_lastingOf_106 : decode cX11_lastingOf 106 = .ok (.istore_n 3, 1) := by decide +kernel
theorem dX11_lastingOf_107 : decode cX11_lastingOf 107 = .ok (.iinc 4 1, 3) := by decide +kernel
theorem dX11_lastingOf_110 : decode cX11_lastingOf 110 = .ok (.goto (-103), 3) := by decide +kernel
theorem dX11_lastingOf_113 : decode cX11_lastingOf 113 = .ok (.iload_n 3, 1) := by decide +kernel
theorem dX11_lastingOf_114 : decode cX11_lastingOf 114 = .ok (.ireturn, 1) := by decide +kernel
theorem dX11_dark_0 : decode cX11_dark 0 = .ok (.aload_n 0, 1) := by decide +kernel
theorem dX11_dark_1 : decode cX11_dark 1 = .ok (.getfield 20, 3) := by decide +kernel
theorem dX11_dark_4 : decode cX11_dark 4 = .ok (.sipush 304, 3) := by decide +kernel
theorem dX11_dark_7 : decode cX11_dark 7 = .ok (.iaload, 1) := by decide +kernel
theorem dX11_dark_8 : decode cX11_dark 8 = .ok (.iload_n 1, 1) := by decide +kernel
theorem dX11_dark_9 : decode cX11_dark 9 = .ok (.invokestatic 259, 3) := by decide +kernel
theorem dX11_dark_12 : decode cX11_dark 12 = .ok (.isub, 1) := by decide +kernel
theorem dX11_dark_13 : decode cX11_dark 13 = .ok (.ireturn, 1) := by decide +kernel
theorem dX11_power_0 : decode cX11_power 0 = .ok (.lconst 1, 1) := by decide +kernel
theorem dX11_power_1 : decode cX11_power 1 = .ok (.lstore_n 2, 1) := by decide +kernel
theorem dX11_power_2 : decode cX11_power 2 = .ok (.iconst 0, 1) := by decide +kernel
theorem dX11_power_3 : decode cX11_power 3 = .ok (.istore 4, 2) := by decide +kernel
theorem dX11_power_5 : decode cX11_power 5 = .ok (.iload 4, 2) := by decide +kernel
theorem dX11_power_7 : decode cX11_power 7 = .ok (.iload_n 1, 1) := by decide +kernel
theorem dX11_power_8 : decode cX11_power 8 = .ok (.if_icmp .ge 23, 3) := by decide +kernel
theorem dX11_power_11 : decode cX11_power 11 = .ok (.lload_n 2, 1) := by decide +kernel
theorem dX11_power_12 : decode cX11_power 12 = .ok (.aload_n 0, 1) := by decide +kernel
theorem dX11_power_13 : decode cX11_power 13 = .ok (.getfield 20, 3) := by decide +kernel
theorem dX11_power_16 : decode cX11_power 16 = .ok (.sipush 305, 3) := by decide +kernel
theorem dX11_power_19 : decode cX11_power 19 = .ok (.iaload, 1) := by decide +kernel
theorem dX11_power_20 : decode cX11_power 20 = .ok (.iconst 1, 1) := by decide +kernel
theorem dX11_power_21 : decode cX11_power 21 = .ok (.isub, 1) := by decide +kernel
theorem dX11_power_22 : decode cX11_power 22 = .ok (.i2l, 1) := by decide +kernel
theorem dX11_power_23 : decode cX11_power 23 = .ok (.lmul, 1) := by decide +kernel
theorem dX11_power_24 : decode cX11_power 24 = .ok (.lstore_n 2, 1) := by decide +kernel
theorem dX11_power_25 : decode cX11_power 25 = .ok (.iinc 4 1, 3) := by decide +kernel
theorem dX11_power_28 : decode cX11_power 28 = .ok (.goto (-23), 3) := by decide +kernel
theorem dX11_power_31 : decode cX11_power 31 = .ok (.lload_n 2, 1) := by decide +kernel
theorem dX11_power_32 : decode cX11_power 32 = .ok (.lreturn, 1) := by decide +kernel
theorem dX11_meanIn_0 : decode cX11_meanIn 0 = .ok (.aload_n 0, 1) := by decide +kernel
theorem dX11_meanIn_1 : decode cX11_meanIn 1 = .ok (.getfield 58, 3) := by decide +kernel
theorem dX11_meanIn_4 : decode cX11_meanIn 4 = .ok (.iload_n 1, 1) := by decide +kernel
theorem dX11_meanIn_5 : decode cX11_meanIn 5 = .ok (.laload, 1) := by decide +kernel
theorem dX11_meanIn_6 : decode cX11_meanIn 6 = .ok (.aload_n 0, 1) := by decide +kernel
theorem dX11_meanIn_7 : decode cX11_meanIn 7 = .ok (.iload_n 2, 1) := by decide +kernel
theorem dX11_meanIn_8 : decode cX11_meanIn 8 = .ok (.aload_n 0, 1) := by decide +kernel
theorem dX11_meanIn_9 : decode cX11_meanIn 9 = .ok (.iload_n 1, 1) := by decide +kernel
theorem dX11_meanIn_10 : decode cX11_meanIn 10 = .ok (.invokevirtual 274, 3) := by decide +kernel
theorem dX11_meanIn_13 : decode cX11_meanIn 13 = .ok (.isub, 1) := by decide +kernel
theorem dX11_meanIn_14 : decode cX11_meanIn 14 = .ok (.iconst 1, 1) := by decide +kernel
theorem dX11_meanIn_15 : decode cX11_meanIn 15 = .ok (.isub, 1) := by decide +kernel
theorem dX11_meanIn_16 : decode cX11_meanIn 16 = .ok (.invokevirtual 277, 3) := by decide +kernel
theorem dX11_meanIn_19 : decode cX11_meanIn 19 = .ok (.lmul, 1) := by decide +kernel
theorem dX11_meanIn_20 : decode cX11_meanIn 20 = .ok (.lreturn, 1) := by decide +kernel
theorem dX11_meanOf_0 : decode cX11_meanOf 0 = .ok (.aload_n 0, 1) := by decide +kernel
theorem dX11_meanOf_1 : decode cX11_meanOf 1 = .ok (.iload_n 1, 1) := by decide +kernel
theorem dX11_meanOf_2 : decode cX11_meanOf 2 = .ok (.invokevirtual 274, 3) := by decide +kernel
theorem dX11_meanOf_5 : decode cX11_meanOf 5 = .ok (.istore_n 2, 1) := by decide +kernel
theorem dX11_meanOf_6 : decode cX11_meanOf 6 = .ok (.aload_n 0, 1) := by decide +kernel
theorem dX11_meanOf_7 : decode cX11_meanOf 7 = .ok (.iload_n 1, 1) := by decide +kernel
theorem dX11_meanOf_8 : decode cX11_meanOf 8 = .ok (.invokevirtual 126, 3) := by decide +kernel
theorem dX11_meanOf_11 : decode cX11_meanOf 11 = .ok (.iconst (-1), 1) := by decide +kernel
theorem dX11_meanOf_12 : decode cX11_meanOf 12 = .ok (.if_icmp .ne 7, 3) := by decide +kernel
theorem dX11_meanOf_15 : decode cX11_meanOf 15 = .ok (.lconst 0, 1) := by decide +kernel
theorem dX11_meanOf_16 : decode cX11_meanOf 16 = .ok (.goto 8, 3) := by decide +kernel
theorem dX11_meanOf_19 : decode cX11_meanOf 19 = .ok (.aload_n 0, 1) := by decide +kernel
theorem dX11_meanOf_20 : decode cX11_meanOf 20 = .ok (.iload_n 2, 1) := by decide +kernel
theorem dX11_meanOf_21 : decode cX11_meanOf 21 = .ok (.invokevirtual 277, 3) := by decide +kernel
theorem dX11_meanOf_24 : decode cX11_meanOf 24 = .ok (.lstore_n 3, 1) := by decide +kernel
theorem dX11_meanOf_25 : decode cX11_meanOf 25 = .ok (.iconst 0, 1) := by decide +kernel
theorem dX11_meanOf_26 : decode cX11_meanOf 26 = .ok (.istore 5, 2) := by decide +kernel
theorem dX11_meanOf_28 : decode cX11_meanOf 28 = .ok (.iload 5, 2) := by decide +kernel
theorem dX11_meanOf_30 : decode cX11_meanOf 30 = .ok (.aload_n 0, 1) := by decide +kernel
theorem dX11_meanOf_31 : decode cX11_meanOf 31 = .ok (.getfield 20, 3) := by decide +kernel
theorem dX11_meanOf_34 : decode cX11_meanOf 34 = .ok (.sipush 305, 3) := by decide +kernel
theorem dX11_meanOf_37 : decode cX11_meanOf 37 = .ok (.iaload, 1) := by decide +kernel
theorem dX11_meanOf_38 : decode cX11_meanOf 38 = .ok (.if_icmp .ge 118, 3) := by decide +kernel
theorem dX11_meanOf_41 : decode cX11_meanOf 41 = .ok (.iload 5, 2) := by decide +kernel
theorem dX11_meanOf_43 : decode cX11_meanOf 43 = .ok (.aload_n 0, 1) := by decide +kernel
theorem dX11_meanOf_44 : decode cX11_meanOf 44 = .ok (.iload_n 1, 1) := by decide +kernel
theorem dX11_meanOf_45 : decode cX11_meanOf 45 = .ok (.invokevirtual 126, 3) := by decide +kernel
theorem dX11_meanOf_48 : decode cX11_meanOf 48 = .ok (.if_icmp .ne 6, 3) := by decide +kernel
theorem dX11_meanOf_51 : decode cX11_meanOf 51 = .ok (.goto 99, 3) := by decide +kernel
theorem dX11_meanOf_54 : decode cX11_meanOf 54 = .ok (.ldc2_w 262, 3) := by decide +kernel
theorem dX11_meanOf_57 : decode cX11_meanOf 57 = .ok (.lstore 6, 2) := by decide +kernel
theorem dX11_meanOf_59 : decode cX11_meanOf 59 = .ok (.iload_n 1, 1) := by decide +kernel
theorem dX11_meanOf_60 : decode cX11_meanOf 60 = .ok (.iconst 1, 1) := by decide +kernel
theorem dX11_meanOf_61 : decode cX11_meanOf 61 = .ok (.iadd, 1) := by decide +kernel
theorem dX11_meanOf_62 : decode cX11_meanOf 62 = .ok (.istore 8, 2) := by decide +kernel
theorem dX11_meanOf_64 : decode cX11_meanOf 64 = .ok (.iload 8, 2) := by decide +kernel
theorem dX11_meanOf_66 : decode cX11_meanOf 66 = .ok (.aload_n 0, 1) := by decide +kernel
theorem dX11_meanOf_67 : decode cX11_meanOf 67 = .ok (.invokevirtual 112, 3) := by decide +kernel
theorem dX11_meanOf_70 : decode cX11_meanOf 70 = .ok (.if_icmp .ge 60, 3) := by decide +kernel
theorem dX11_meanOf_73 : decode cX11_meanOf 73 = .ok (.aload_n 0, 1) := by decide +kernel
theorem dX11_meanOf_74 : decode cX11_meanOf 74 = .ok (.iload 8, 2) := by decide +kernel
theorem dX11_meanOf_76 : decode cX11_meanOf 76 = .ok (.invokevirtual 126, 3) := by decide +kernel
theorem dX11_meanOf_79 : decode cX11_meanOf 79 = .ok (.iload 5, 2) := by decide +kernel
theorem dX11_meanOf_81 : decode cX11_meanOf 81 = .ok (.if_icmp .ne 43, 3) := by decide +kernel
theorem dX11_meanOf_84 : decode cX11_meanOf 84 = .ok (.aload_n 0, 1) := by decide +kernel
theorem dX11_meanOf_85 : decode cX11_meanOf 85 = .ok (.iload_n 1, 1) := by decide +kernel
theorem dX11_meanOf_86 : decode cX11_meanOf 86 = .ok (.iload 8, 2) := by decide +kernel
theorem dX11_meanOf_88 : decode cX11_meanOf 88 = .ok (.aload_n 0, 1) := by decide +kernel
theorem dX11_meanOf_89 : decode cX11_meanOf 89 = .ok (.getfield 20, 3) := by decide +kernel
theorem dX11_meanOf_92 : decode cX11_meanOf 92 = .ok (.sipush 306, 3) := by decide +kernel
theorem dX11_meanOf_95 : decode cX11_meanOf 95 = .ok (.iaload, 1) := by decide +kernel
theorem dX11_meanOf_96 : decode cX11_meanOf 96 = .ok (.invokevirtual 271, 3) := by decide +kernel
theorem dX11_meanOf_99 : decode cX11_meanOf 99 = .ok (.ifCond .eq 25, 3) := by decide +kernel
theorem dX11_meanOf_102 : decode cX11_meanOf 102 = .ok (.aload_n 0, 1) := by decide +kernel
theorem dX11_meanOf_103 : decode cX11_meanOf 103 = .ok (.iload 8, 2) := by decide +kernel
theorem dX11_meanOf_105 : decode cX11_meanOf 105 = .ok (.iload_n 2, 1) := by decide +kernel
theorem dX11_meanOf_106 : decode cX11_meanOf 106 = .ok (.invokevirtual 281, 3) := by decide +kernel
theorem dX11_meanOf_109 : decode cX11_meanOf 109 = .ok (.lload 6, 2) := by decide +kernel
theorem dX11_meanOf_111 : decode cX11_meanOf 111 = .ok (.lcmp, 1) := by decide +kernel
theorem dX11_meanOf_112 : decode cX11_meanOf 112 = .ok (.ifCond .le 12, 3) := by decide +kernel
theorem dX11_meanOf_115 : decode cX11_meanOf 115 = .ok (.aload_n 0, 1) := by decide +kernel
theorem dX11_meanOf_116 : decode cX11_meanOf 116 = .ok (.iload 8, 2) := by decide +kernel
theorem dX11_meanOf_118 : decode cX11_meanOf 118 = .ok (.iload_n 2, 1) := by decide +kernel
theorem dX11_meanOf_119 : decode cX11_meanOf 119 = .ok (.invokevirtual 281, 3) := by decide +kernel
theorem dX11_meanOf_122 : decode cX11_meanOf 122 = .ok (.lstore 6, 2) := by decide +kernel
theorem dX11_meanOf_124 : decode cX11_meanOf 124 = .ok (.iinc 8 1, 3) := by decide +kernel
theorem dX11_meanOf_127 : decode cX11_meanOf 127 = .ok (.goto (-63), 3) := by decide +kernel
theorem dX11_meanOf_130 : decode cX11_meanOf 130 = .ok (.lload 6, 2) := by decide +kernel
theorem dX11_meanOf_132 : decode cX11_meanOf 132 = .ok (.ldc2_w 262, 3) := by decide +kernel
theorem dX11_meanOf_135 : decode cX11_meanOf 135 = .ok (.lcmp, 1) := by decide +kernel
theorem dX11_meanOf_136 : decode cX11_meanOf 136 = .ok (.ifCond .eq 14, 3) := by decide +kernel
theorem dX11_meanOf_139 : decode cX11_meanOf 139 = .ok (.lload_n 3, 1) := by decide +kernel
theorem dX11_meanOf_140 : decode cX11_meanOf 140 = .ok (.aload_n 0, 1) := by decide +kernel
theorem dX11_meanOf_141 : decode cX11_meanOf 141 = .ok (.iload_n 2, 1) := by decide +kernel
theorem dX11_meanOf_142 : decode cX11_meanOf 142 = .ok (.invokevirtual 277, 3) := by decide +kernel
theorem dX11_meanOf_145 : decode cX11_meanOf 145 = .ok (.lload 6, 2) := by decide +kernel
theorem dX11_meanOf_147 : decode cX11_meanOf 147 = .ok (.ladd, 1) := by decide +kernel
theorem dX11_meanOf_148 : decode cX11_meanOf 148 = .ok (.ladd, 1) := by decide +kernel
theorem dX11_meanOf_149 : decode cX11_meanOf 149 = .ok (.lstore_n 3, 1) := by decide +kernel
theorem dX11_meanOf_150 : decode cX11_meanOf 150 = .ok (.iinc 5 1, 3) := by decide +kernel
theorem dX11_meanOf_153 : decode cX11_meanOf 153 = .ok (.goto (-125), 3) := by decide +kernel
theorem dX11_meanOf_156 : decode cX11_meanOf 156 = .ok (.lload_n 3, 1) := by decide +kernel
theorem dX11_meanOf_157 : decode cX11_meanOf 157 = .ok (.lreturn, 1) := by decide +kernel
theorem dX11_looks_0 : decode cX11_looks 0 = .ok (.aload_n 0, 1) := by decide +kernel
theorem dX11_looks_1 : decode cX11_looks 1 = .ok (.getfield 62, 3) := by decide +kernel
theorem dX11_looks_4 : decode cX11_looks 4 = .ok (.aload_n 0, 1) := by decide +kernel
theorem dX11_looks_5 : decode cX11_looks 5 = .ok (.getfield 11, 3) := by decide +kernel
theorem dX11_looks_8 : decode cX11_looks 8 = .ok (.if_icmp .ne 4, 3) := by decide +kernel
theorem dX11_looks_11 : decode cX11_looks 11 = .ok (.return_, 1) := by decide +kernel
theorem dX11_looks_12 : decode cX11_looks 12 = .ok (.aload_n 0, 1) := by decide +kernel
theorem dX11_looks_13 : decode cX11_looks 13 = .ok (.aload_n 0, 1) := by decide +kernel
theorem dX11_looks_14 : decode cX11_looks 14 = .ok (.getfield 11, 3) := by decide +kernel
theorem dX11_looks_17 : decode cX11_looks 17 = .ok (.putfield 62, 3) := by decide +kernel
theorem dX11_looks_20 : decode cX11_looks 20 = .ok (.aload_n 0, 1) := by decide +kernel
theorem dX11_looks_21 : decode cX11_looks 21 = .ok (.aload_n 0, 1) := by decide +kernel
theorem dX11_looks_22 : decode cX11_looks 22 = .ok (.getfield 20, 3) := by decide +kernel
theorem dX11_looks_25 : decode cX11_looks 25 = .ok (.sipush 306, 3) := by decide +kernel
theorem dX11_looks_28 : decode cX11_looks 28 = .ok (.iaload, 1) := by decide +kernel
theorem dX11_looks_29 : decode cX11_looks 29 = .ok (.invokevirtual 285, 3) := by decide +kernel
theorem dX11_looks_32 : decode cX11_looks 32 = .ok (.aload_n 0, 1) := by decide +kernel
theorem dX11_looks_33 : decode cX11_looks 33 = .ok (.invokevirtual 112, 3) := by decide +kernel
theorem dX11_looks_36 : decode cX11_looks 36 = .ok (.iconst 1, 1) := by decide +kernel
theorem dX11_looks_37 : decode cX11_looks 37 = .ok (.isub, 1) := by decide +kernel
theorem dX11_looks_38 : decode cX11_looks 38 = .ok (.istore_n 1, 1) := by decide +kernel
theorem dX11_looks_39 : decode cX11_looks 39 = .ok (.iload_n 1, 1) := by decide +kernel
theorem dX11_looks_40 : decode cX11_looks 40 = .ok (.ifCond .lt 20, 3) := by decide +kernel
theorem dX11_looks_43 : decode cX11_looks 43 = .ok (.aload_n 0, 1) := by decide +kernel
theorem dX11_looks_44 : decode cX11_looks 44 = .ok (.getfield 58, 3) := by decide +kernel
theorem dX11_looks_47 : decode cX11_looks 47 = .ok (.iload_n 1, 1) := by decide +kernel
theorem dX11_looks_48 : decode cX11_looks 48 = .ok (.aload_n 0, 1) := by decide +kernel
theorem dX11_looks_49 : decode cX11_looks 49 = .ok (.iload_n 1, 1) := by decide +kernel
theorem dX11_looks_50 : decode cX11_looks 50 = .ok (.invokevirtual 288, 3) := by decide +kernel
theorem dX11_looks_53 : decode cX11_looks 53 = .ok (.lastore, 1) := by decide +kernel
theorem dX11_looks_54 : decode cX11_looks 54 = .ok (.iinc 1 (-1), 3) := by decide +kernel
theorem dX11_looks_57 : decode cX11_looks 57 = .ok (.goto (-18), 3) := by decide +kernel
theorem dX11_looks_60 : decode cX11_looks 60 = .ok (.return_, 1) := by decide +kernel
theorem dX11_lasts0_0 : decode cX11_lasts0 0 = .ok (.aload_n 0, 1) := by decide +kernel
theorem dX11_lasts0_1 : decode cX11_lasts0 1 = .ok (.invokevirtual 112, 3) := by decide +kernel
theorem dX11_lasts0_4 : decode cX11_lasts0 4 = .ok (.iconst 1, 1) := by decide +kernel
theorem dX11_lasts0_5 : decode cX11_lasts0 5 = .ok (.isub, 1) := by decide +kernel
theorem dX11_lasts0_6 : decode cX11_lasts0 6 = .ok (.istore_n 2, 1) := by decide +kernel
theorem dX11_lasts0_7 : decode cX11_lasts0 7 = .ok (.iload_n 2, 1) := by decide +kernel
theorem dX11_lasts0_8 : decode cX11_lasts0 8 = .ok (.ifCond .lt 21, 3) := by decide +kernel
theorem dX11_lasts0_11 : decode cX11_lasts0 11 = .ok (.aload_n 0, 1) := by decide +kernel
theorem dX11_lasts0_12 : decode cX11_lasts0 12 = .ok (.getfield 55, 3) := by decide +kernel
theorem dX11_lasts0_15 : decode cX11_lasts0 15 = .ok (.iload_n 2, 1) := by decide +kernel
theorem dX11_lasts0_16 : decode cX11_lasts0 16 = .ok (.aload_n 0, 1) := by decide +kernel
theorem dX11_lasts0_17 : decode cX11_lasts0 17 = .ok (.iload_n 2, 1) := by decide +kernel
theorem dX11_lasts0_18 : decode cX11_lasts0 18 = .ok (.iload_n 1, 1) := by decide +kernel
theorem dX11_lasts0_19 : decode cX11_lasts0 19 = .ok (.invokevirtual 291, 3) := by decide +kernel
theorem dX11_lasts0_22 : decode cX11_lasts0 22 = .ok (.iastore, 1) := by decide +kernel
theorem dX11_lasts0_23 : decode cX11_lasts0 23 = .ok (.iinc 2 (-1), 3) := by decide +kernel
theorem dX11_lasts0_26 : decode cX11_lasts0 26 = .ok (.goto (-19), 3) := by decide +kernel
theorem dX11_lasts0_29 : decode cX11_lasts0 29 = .ok (.return_, 1) := by decide +kernel
theorem dX11_lasts_0 : decode cX11_lasts 0 = .ok (.aload_n 0, 1) := by decide +kernel
theorem dX11_lasts_1 : decode cX11_lasts 1 = .ok (.iload_n 1, 1) := by decide +kernel
theorem dX11_lasts_2 : decode cX11_lasts 2 = .ok (.invokevirtual 120, 3) := by decide +kernel
theorem dX11_lasts_5 : decode cX11_lasts 5 = .ok (.ifCond .ne 5, 3) := by decide +kernel
theorem dX11_lasts_8 : decode cX11_lasts 8 = .ok (.iconst (-1), 1) := by decide +kernel
theorem dX11_lasts_9 : decode cX11_lasts 9 = .ok (.ireturn, 1) := by decide +kernel
theorem dX11_lasts_10 : decode cX11_lasts 10 = .ok (.aload_n 0, 1) := by decide +kernel
theorem dX11_lasts_11 : decode cX11_lasts 11 = .ok (.invokevirtual 294, 3) := by decide +kernel
theorem dX11_lasts_14 : decode cX11_lasts 14 = .ok (.aload_n 0, 1) := by decide +kernel
theorem dX11_lasts_15 : decode cX11_lasts 15 = .ok (.getfield 55, 3) := by decide +kernel
theorem dX11_lasts_18 : decode cX11_lasts 18 = .ok (.iload_n 1, 1) := by decide +kernel
theorem dX11_lasts_19 : decode cX11_lasts 19 = .ok (.iaload, 1) := by decide +kernel
theorem dX11_lasts_20 : decode cX11_lasts 20 = .ok (.ireturn, 1) := by decide +kernel
theorem dX11_gcd_0 : decode cX11_gcd 0 = .ok (.lload_n 0, 1) := by decide +kernel
theorem dX11_gcd_1 : decode cX11_gcd 1 = .ok (.lstore 4, 2) := by decide +kernel
theorem dX11_gcd_3 : decode cX11_gcd 3 = .ok (.lload_n 2, 1) := by decide +kernel
theorem dX11_gcd_4 : decode cX11_gcd 4 = .ok (.lstore 6, 2) := by decide +kernel
theorem dX11_gcd_6 : decode cX11_gcd 6 = .ok (.lload 6, 2) := by decide +kernel
theorem dX11_gcd_8 : decode cX11_gcd 8 = .ok (.lconst 0, 1) := by decide +kernel
theorem dX11_gcd_9 : decode cX11_gcd 9 = .ok (.lcmp, 1) := by decide +kernel
theorem dX11_gcd_10 : decode cX11_gcd 10 = .ok (.ifCond .le 21, 3) := by decide +kernel
theorem dX11_gcd_13 : decode cX11_gcd 13 = .ok (.lload 4, 2) := by decide +kernel
theorem dX11_gcd_15 : decode cX11_gcd 15 = .ok (.lload 6, 2) := by decide +kernel
theorem dX11_gcd_17 : decode cX11_gcd 17 = .ok (.lrem, 1) := by decide +kernel
theorem dX11_gcd_18 : decode cX11_gcd 18 = .ok (.lstore 8, 2) := by decide +kernel
theorem dX11_gcd_20 : decode cX11_gcd 20 = .ok (.lload 6, 2) := by decide +kernel
theorem dX11_gcd_22 : decode cX11_gcd 22 = .ok (.lstore 4, 2) := by decide +kernel
theorem dX11_gcd_24 : decode cX11_gcd 24 = .ok (.lload 8, 2) := by decide +kernel
theorem dX11_gcd_26 : decode cX11_gcd 26 = .ok (.lstore 6, 2) := by decide +kernel
theorem dX11_gcd_28 : decode cX11_gcd 28 = .ok (.goto (-22), 3) := by decide +kernel
theorem dX11_gcd_31 : decode cX11_gcd 31 = .ok (.lload 4, 2) := by decide +kernel
theorem dX11_gcd_33 : decode cX11_gcd 33 = .ok (.lreturn, 1) := by decide +kernel
theorem dX11_mean_0 : decode cX11_mean 0 = .ok (.aload_n 0, 1) := by decide +kernel
theorem dX11_mean_1 : decode cX11_mean 1 = .ok (.iload_n 1, 1) := by decide +kernel
theorem dX11_mean_2 : decode cX11_mean 2 = .ok (.invokevirtual 120, 3) := by decide +kernel
theorem dX11_mean_5 : decode cX11_mean 5 = .ok (.ifCond .eq 12, 3) := by decide +kernel
theorem dX11_mean_8 : decode cX11_mean 8 = .ok (.iload_n 2, 1) := by decide +kernel
theorem dX11_mean_9 : decode cX11_mean 9 = .ok (.iconst 0, 1) := by decide +kernel
theorem dX11_mean_10 : decode cX11_mean 10 = .ok (.iconst 1, 1) := by decide +kernel
theorem dX11_mean_11 : decode cX11_mean 11 = .ok (.invokestatic 101, 3) := by decide +kernel
theorem dX11_mean_14 : decode cX11_mean 14 = .ok (.ifCond .ne 7, 3) := by decide +kernel
theorem dX11_mean_17 : decode cX11_mean 17 = .ok (.ldc2_w 262, 3) := by decide +kernel
theorem dX11_mean_20 : decode cX11_mean 20 = .ok (.lreturn, 1) := by decide +kernel
theorem dX11_mean_21 : decode cX11_mean 21 = .ok (.aload_n 0, 1) := by decide +kernel
theorem dX11_mean_22 : decode cX11_mean 22 = .ok (.invokevirtual 294, 3) := by decide +kernel
theorem dX11_mean_25 : decode cX11_mean 25 = .ok (.aload_n 0, 1) := by decide +kernel
theorem dX11_mean_26 : decode cX11_mean 26 = .ok (.aload_n 0, 1) := by decide +kernel
theorem dX11_mean_27 : decode cX11_mean 27 = .ok (.iload_n 1, 1) := by decide +kernel
theorem dX11_mean_28 : decode cX11_mean 28 = .ok (.invokevirtual 274, 3) := by decide +kernel
theorem dX11_mean_31 : decode cX11_mean 31 = .ok (.invokevirtual 277, 3) := by decide +kernel
theorem dX11_mean_34 : decode cX11_mean 34 = .ok (.aload_n 0, 1) := by decide +kernel
theorem dX11_mean_35 : decode cX11_mean 35 = .ok (.iload_n 1, 1) := by decide +kernel
theorem dX11_mean_36 : decode cX11_mean 36 = .ok (.invokevirtual 126, 3) := by decide +kernel
theorem dX11_mean_39 : decode cX11_mean 39 = .ok (.iconst (-1), 1) := by decide +kernel
theorem dX11_mean_40 : decode cX11_mean 40 = .ok (.if_icmp .ne 14, 3) := by decide +kernel
theorem dX11_mean_43 : decode cX11_mean 43 = .ok (.aload_n 0, 1) := by decide +kernel
theorem dX11_mean_44 : decode cX11_mean 44 = .ok (.getfield 20, 3) := by decide +kernel
theorem dX11_mean_47 : decode cX11_mean 47 = .ok (.sipush 305, 3) := by decide +kernel
theorem dX11_mean_50 : decode cX11_mean 50 = .ok (.iaload, 1) := by decide +kernel
theorem dX11_mean_51 : decode cX11_mean 51 = .ok (.goto 13, 3) := by decide +kernel
theorem dX11_mean_54 : decode cX11_mean 54 = .ok (.aload_n 0, 1) := by decide +kernel
theorem dX11_mean_55 : decode cX11_mean 55 = .ok (.getfield 20, 3) := by decide +kernel
theorem dX11_mean_58 : decode cX11_mean 58 = .ok (.sipush 305, 3) := by decide +kernel
theorem dX11_mean_61 : decode cX11_mean 61 = .ok (.iaload, 1) := by decide +kernel
theorem dX11_mean_62 : decode cX11_mean 62 = .ok (.iconst 1, 1) := by decide +kernel
theorem dX11_mean_63 : decode cX11_mean 63 = .ok (.isub, 1) := by decide +kernel
theorem dX11_mean_64 : decode cX11_mean 64 = .ok (.i2l, 1) := by decide +kernel
theorem dX11_mean_65 : decode cX11_mean 65 = .ok (.lmul, 1) := by decide +kernel
theorem dX11_mean_66 : decode cX11_mean 66 = .ok (.lstore_n 3, 1) := by decide +kernel
theorem dX11_mean_67 : decode cX11_mean 67 = .ok (.lload_n 3, 1) := by decide +kernel
theorem dX11_mean_68 : decode cX11_mean 68 = .ok (.aload_n 0, 1) := by decide +kernel
theorem dX11_mean_69 : decode cX11_mean 69 = .ok (.getfield 58, 3) := by decide +kernel
theorem dX11_mean_72 : decode cX11_mean 72 = .ok (.iload_n 1, 1) := by decide +kernel
theorem dX11_mean_73 : decode cX11_mean 73 = .ok (.laload, 1) := by decide +kernel
theorem dX11_mean_74 : decode cX11_mean 74 = .ok (.invokestatic 297, 3) := by decide +kernel
theorem dX11_mean_77 : decode cX11_mean 77 = .ok (.lstore 5, 2) := by decide +kernel
theorem dX11_mean_79 : decode cX11_mean 79 = .ok (.iload_n 2, 1) := by decide +kernel
theorem dX11_mean_80 : decode cX11_mean 80 = .ok (.ifCond .ne 12, 3) := by decide +kernel
theorem dX11_mean_83 : decode cX11_mean 83 = .ok (.aload_n 0, 1) := by decide +kernel
theorem dX11_mean_84 : decode cX11_mean 84 = .ok (.getfield 58, 3) := by decide +kernel
theorem dX11_mean_87 : decode cX11_mean 87 = .ok (.iload_n 1, 1) := by decide +kernel
theorem dX11_mean_88 : decode cX11_mean 88 = .ok (.laload, 1) := by decide +kernel
theorem dX11_mean_89 : decode cX11_mean 89 = .ok (.goto 4, 3) := by decide +kernel
theorem dX11_mean_92 : decode cX11_mean 92 = .ok (.lload_n 3, 1) := by decide +kernel
theorem dX11_mean_93 : decode cX11_mean 93 = .ok (.lload 5, 2) := by decide +kernel
theorem dX11_mean_95 : decode cX11_mean 95 = .ok (.ldiv, 1) := by decide +kernel
theorem dX11_mean_96 : decode cX11_mean 96 = .ok (.lreturn, 1) := by decide +kernel
theorem dX11_oilOf_0 : decode cX11_oilOf 0 = .ok (.iconst 0, 1) := by decide +kernel
theorem dX11_oilOf_1 : decode cX11_oilOf 1 = .ok (.istore_n 2, 1) := by decide +kernel
theorem dX11_oilOf_2 : decode cX11_oilOf 2 = .ok (.iconst 0, 1) := by decide +kernel
theorem dX11_oilOf_3 : decode cX11_oilOf 3 = .ok (.istore_n 3, 1) := by decide +kernel
theorem dX11_oilOf_4 : decode cX11_oilOf 4 = .ok (.iload_n 3, 1) := by decide +kernel
theorem dX11_oilOf_5 : decode cX11_oilOf 5 = .ok (.aload_n 0, 1) := by decide +kernel
theorem dX11_oilOf_6 : decode cX11_oilOf 6 = .ok (.getfield 20, 3) := by decide +kernel
theorem dX11_oilOf_9 : decode cX11_oilOf 9 = .ok (.sipush 304, 3) := by decide +kernel
theorem dX11_oilOf_12 : decode cX11_oilOf 12 = .ok (.iaload, 1) := by decide +kernel
theorem dX11_oilOf_13 : decode cX11_oilOf 13 = .ok (.if_icmp .ge 35, 3) := by decide +kernel
theorem dX11_oilOf_16 : decode cX11_oilOf 16 = .ok (.iload_n 2, 1) := by decide +kernel
theorem dX11_oilOf_17 : decode cX11_oilOf 17 = .ok (.iload_n 1, 1) := by decide +kernel
theorem dX11_oilOf_18 : decode cX11_oilOf 18 = .ok (.iload_n 3, 1) := by decide +kernel
theorem dX11_oilOf_19 : decode cX11_oilOf 19 = .ok (.ishr, 1) := by decide +kernel
theorem dX11_oilOf_20 : decode cX11_oilOf 20 = .ok (.iconst 1, 1) := by decide +kernel
theorem dX11_oilOf_21 : decode cX11_oilOf 21 = .ok (.iand, 1) := by decide +kernel
theorem dX11_oilOf_22 : decode cX11_oilOf 22 = .ok (.iconst 1, 1) := by decide +kernel
theorem dX11_oilOf_23 : decode cX11_oilOf 23 = .ok (.if_icmp .ne 16, 3) := by decide +kernel
theorem dX11_oilOf_26 : decode cX11_oilOf 26 = .ok (.aload_n 0, 1) := by decide +kernel
theorem dX11_oilOf_27 : decode cX11_oilOf 27 = .ok (.getfield 20, 3) := by decide +kernel
theorem dX11_oilOf_30 : decode cX11_oilOf 30 = .ok (.sipush 256, 3) := by decide +kernel
theorem dX11_oilOf_33 : decode cX11_oilOf 33 = .ok (.iload_n 3, 1) := by decide +kernel
theorem dX11_oilOf_34 : decode cX11_oilOf 34 = .ok (.iadd, 1) := by decide +kernel
theorem dX11_oilOf_35 : decode cX11_oilOf 35 = .ok (.iaload, 1) := by decide +kernel
theorem dX11_oilOf_36 : decode cX11_oilOf 36 = .ok (.goto 4, 3) := by decide +kernel
theorem dX11_oilOf_39 : decode cX11_oilOf 39 = .ok (.iconst 0, 1) := by decide +kernel
theorem dX11_oilOf_40 : decode cX11_oilOf 40 = .ok (.iadd, 1) := by decide +kernel
theorem dX11_oilOf_41 : decode cX11_oilOf 41 = .ok (.istore_n 2, 1) := by decide +kernel
theorem dX11_oilOf_42 : decode cX11_oilOf 42 = .ok (.iinc 3 1, 3) := by decide +kernel
theorem dX11_oilOf_45 : decode cX11_oilOf 45 = .ok (.goto (-41), 3) := by decide +kernel
theorem dX11_oilOf_48 : decode cX11_oilOf 48 = .ok (.iload_n 2, 1) := by decide +kernel
theorem dX11_oilOf_49 : decode cX11_oilOf 49 = .ok (.ireturn, 1) := by decide +kernel
theorem dX11_isBetter_0 : decode cX11_isBetter 0 = .ok (.iload_n 2, 1) := by decide +kernel
theorem dX11_isBetter_1 : decode cX11_isBetter 1 = .ok (.iload_n 1, 1) := by decide +kernel
theorem dX11_isBetter_2 : decode cX11_isBetter 2 = .ok (.iconst (-1), 1) := by decide +kernel
theorem dX11_isBetter_3 : decode cX11_isBetter 3 = .ok (.ixor, 1) := by decide +kernel
theorem dX11_isBetter_4 : decode cX11_isBetter 4 = .ok (.iand, 1) := by decide +kernel
theorem dX11_isBetter_5 : decode cX11_isBetter 5 = .ok (.invokestatic 259, 3) := by decide +kernel
theorem dX11_isBetter_8 : decode cX11_isBetter 8 = .ok (.iload_n 3, 1) := by decide +kernel
theorem dX11_isBetter_9 : decode cX11_isBetter 9 = .ok (.iload_n 1, 1) := by decide +kernel
theorem dX11_isBetter_10 : decode cX11_isBetter 10 = .ok (.iconst (-1), 1) := by decide +kernel
theorem dX11_isBetter_11 : decode cX11_isBetter 11 = .ok (.ixor, 1) := by decide +kernel
theorem dX11_isBetter_12 : decode cX11_isBetter 12 = .ok (.iand, 1) := by decide +kernel
theorem dX11_isBetter_13 : decode cX11_isBetter 13 = .ok (.invokestatic 259, 3) := by decide +kernel
theorem dX11_isBetter_16 : decode cX11_isBetter 16 = .ok (.isub, 1) := by decide +kernel
theorem dX11_isBetter_17 : decode cX11_isBetter 17 = .ok (.istore 5, 2) := by decide +kernel
theorem dX11_isBetter_19 : decode cX11_isBetter 19 = .ok (.iload 4, 2) := by decide +kernel
theorem dX11_isBetter_21 : decode cX11_isBetter 21 = .ok (.ifCond .ne 14, 3) := by decide +kernel
theorem dX11_isBetter_24 : decode cX11_isBetter 24 = .ok (.iload 5, 2) := by decide +kernel
theorem dX11_isBetter_26 : decode cX11_isBetter 26 = .ok (.ifCond .ge 7, 3) := by decide +kernel
theorem dX11_isBetter_29 : decode cX11_isBetter 29 = .ok (.iconst 1, 1) := by decide +kernel
theorem dX11_isBetter_30 : decode cX11_isBetter 30 = .ok (.goto 4, 3) := by decide +kernel
theorem dX11_isBetter_33 : decode cX11_isBetter 33 = .ok (.iconst 0, 1) := by decide +kernel
theorem dX11_isBetter_34 : decode cX11_isBetter 34 = .ok (.ireturn, 1) := by decide +kernel
theorem dX11_isBetter_35 : decode cX11_isBetter 35 = .ok (.iload 4, 2) := by decide +kernel
theorem dX11_isBetter_37 : decode cX11_isBetter 37 = .ok (.iconst 1, 1) := by decide +kernel
theorem dX11_isBetter_38 : decode cX11_isBetter 38 = .ok (.if_icmp .ne 30, 3) := by decide +kernel
theorem dX11_isBetter_41 : decode cX11_isBetter 41 = .ok (.aload_n 0, 1) := by decide +kernel
theorem dX11_isBetter_42 : decode cX11_isBetter 42 = .ok (.iload_n 2, 1) := by decide +kernel
theorem dX11_isBetter_43 : decode cX11_isBetter 43 = .ok (.iload_n 1, 1) := by decide +kernel
theorem dX11_isBetter_44 : decode cX11_isBetter 44 = .ok (.iconst (-1), 1) := by decide +kernel
theorem dX11_isBetter_45 : decode cX11_isBetter 45 = .ok (.ixor, 1) := by decide +kernel
theorem dX11_isBetter_46 : decode cX11_isBetter 46 = .ok (.iand, 1) := by decide +kernel
theorem dX11_isBetter_47 : decode cX11_isBetter 47 = .ok (.invokevirtual 301, 3) := by decide +kernel
theorem dX11_isBetter_50 : decode cX11_isBetter 50 = .ok (.aload_n 0, 1) := by decide +kernel
theorem dX11_isBetter_51 : decode cX11_isBetter 51 = .ok (.iload_n 3, 1) := by decide +kernel
theorem dX11_isBetter_52 : decode cX11_isBetter 52 = .ok (.iload_n 1, 1) := by decide +kernel
theorem dX11_isBetter_53 : decode cX11_isBetter 53 = .ok (.iconst (-1), 1) := by decide +kernel
theorem dX11_isBetter_54 : decode cX11_isBetter 54 = .ok (.ixor, 1) := by decide +kernel
theorem dX11_isBetter_55 : decode cX11_isBetter 55 = .ok (.iand, 1) := by decide +kernel
theorem dX11_isBetter_56 : decode cX11_isBetter 56 = .ok (.invokevirtual 301, 3) := by decide +kernel
theorem dX11_isBetter_59 : decode cX11_isBetter 59 = .ok (.if_icmp .ge 7, 3) := by decide +kernel
theorem dX11_isBetter_62 : decode cX11_isBetter 62 = .ok (.iconst 1, 1) := by decide +kernel
theorem dX11_isBetter_63 : decode cX11_isBetter 63 = .ok (.goto 4, 3) := by decide +kernel
theorem dX11_isBetter_66 : decode cX11_isBetter 66 = .ok (.iconst 0, 1) := by decide +kernel
theorem dX11_isBetter_67 : decode cX11_isBetter 67 = .ok (.ireturn, 1) := by decide +kernel
theorem dX11_isBetter_68 : decode cX11_isBetter 68 = .ok (.iload 4, 2) := by decide +kernel
theorem dX11_isBetter_70 : decode cX11_isBetter 70 = .ok (.iconst 2, 1) := by decide +kernel
theorem dX11_isBetter_71 : decode cX11_isBetter 71 = .ok (.if_icmp .ne 44, 3) := by decide +kernel
theorem dX11_isBetter_74 : decode cX11_isBetter 74 = .ok (.aload_n 0, 1) := by decide +kernel
theorem dX11_isBetter_75 : decode cX11_isBetter 75 = .ok (.getfield 55, 3) := by decide +kernel
theorem dX11_isBetter_78 : decode cX11_isBetter 78 = .ok (.iload_n 2, 1) := by decide +kernel
theorem dX11_isBetter_79 : decode cX11_isBetter 79 = .ok (.iaload, 1) := by decide +kernel
theorem dX11_isBetter_80 : decode cX11_isBetter 80 = .ok (.aload_n 0, 1) := by decide +kernel
theorem dX11_isBetter_81 : decode cX11_isBetter 81 = .ok (.getfield 55, 3) := by decide +kernel
theorem dX11_isBetter_84 : decode cX11_isBetter 84 = .ok (.iload_n 3, 1) := by decide +kernel
theorem dX11_isBetter_85 : decode cX11_isBetter 85 = .ok (.iaload, 1) := by decide +kernel
theorem dX11_isBetter_86 : decode cX11_isBetter 86 = .ok (.if_icmp .gt 23, 3) := by decide +kernel
theorem dX11_isBetter_89 : decode cX11_isBetter 89 = .ok (.aload_n 0, 1) := by decide +kernel
theorem dX11_isBetter_90 : decode cX11_isBetter 90 = .ok (.getfield 55, 3) := by decide +kernel
theorem dX11_isBetter_93 : decode cX11_isBetter 93 = .ok (.iload_n 2, 1) := by decide +kernel
theorem dX11_isBetter_94 : decode cX11_isBetter 94 = .ok (.iaload, 1) := by decide +kernel
theorem dX11_isBetter_95 : decode cX11_isBetter 95 = .ok (.aload_n 0, 1) := by decide +kernel
theorem dX11_isBetter_96 : decode cX11_isBetter 96 = .ok (.getfield 55, 3) := by decide +kernel
theorem dX11_isBetter_99 : decode cX11_isBetter 99 = .ok (.iload_n 3, 1) := by decide +kernel
theorem dX11_isBetter_100 : decode cX11_isBetter 100 = .ok (.iaload, 1) := by decide +kernel
theorem dX11_isBetter_101 : decode cX11_isBetter 101 = .ok (.if_icmp .ne 12, 3) := by decide +kernel
theorem dX11_isBetter_104 : decode cX11_isBetter 104 = .ok (.iload 5, 2) := by decide +kernel
theorem dX11_isBetter_106 : decode cX11_isBetter 106 = .ok (.ifCond .ge 7, 3) := by decide +kernel
theorem dX11_isBetter_109 : decode cX11_isBetter 109 = .ok (.iconst 1, 1) := by decide +kernel
theorem dX11_isBetter_110 : decode cX11_isBetter 110 = .ok (.goto 4, 3) := by decide +kernel
theorem dX11_isBetter_113 : decode cX11_isBetter 113 = .ok (.iconst 0, 1) := by decide +kernel
theorem dX11_isBetter_114 : decode cX11_isBetter 114 = .ok (.ireturn, 1) := by decide +kernel
theorem dX11_isBetter_115 : decode cX11_isBetter 115 = .ok (.aload_n 0, 1) := by decide +kernel
theorem dX11_isBetter_116 : decode cX11_isBetter 116 = .ok (.iload_n 1, 1) := by decide +kernel
theorem dX11_isBetter_117 : decode cX11_isBetter 117 = .ok (.invokevirtual 274, 3) := by decide +kernel
theorem dX11_isBetter_120 : decode cX11_isBetter 120 = .ok (.iconst 1, 1) := by decide +kernel
theorem dX11_isBetter_121 : decode cX11_isBetter 121 = .ok (.iadd, 1) := by decide +kernel
theorem dX11_isBetter_122 : decode cX11_isBetter 122 = .ok (.istore 6, 2) := by decide +kernel
theorem dX11_isBetter_124 : decode cX11_isBetter 124 = .ok (.aload_n 0, 1) := by decide +kernel
theorem dX11_isBetter_125 : decode cX11_isBetter 125 = .ok (.getfield 58, 3) := by decide +kernel
theorem dX11_isBetter_128 : decode cX11_isBetter 128 = .ok (.iload_n 2, 1) := by decide +kernel
theorem dX11_isBetter_129 : decode cX11_isBetter 129 = .ok (.laload, 1) := by decide +kernel
theorem dX11_isBetter_130 : decode cX11_isBetter 130 = .ok (.aload_n 0, 1) := by decide +kernel
theorem dX11_isBetter_131 : decode cX11_isBetter 131 = .ok (.iload 6, 2) := by decide +kernel
theorem dX11_isBetter_133 : decode cX11_isBetter 133 = .ok (.aload_n 0, 1) := by decide +kernel
theorem dX11_isBetter_134 : decode cX11_isBetter 134 = .ok (.iload_n 2, 1) := by decide +kernel
theorem dX11_isBetter_135 : decode cX11_isBetter 135 = .ok (.invokevirtual 274, 3) := by decide +kernel
theorem dX11_isBetter_138 : decode cX11_isBetter 138 = .ok (.isub, 1) := by decide +kernel
theorem dX11_isBetter_139 : decode cX11_isBetter 139 = .ok (.invokevirtual 277, 3) := by decide +kernel
theorem dX11_isBetter_142 : decode cX11_isBetter 142 = .ok (.lmul, 1) := by decide +kernel
theorem dX11_isBetter_143 : decode cX11_isBetter 143 = .ok (.aload_n 0, 1) := by decide +kernel
theorem dX11_isBetter_144 : decode cX11_isBetter 144 = .ok (.getfield 58, 3) := by decide +kernel
theorem dX11_isBetter_147 : decode cX11_isBetter 147 = .ok (.iload_n 3, 1) := by decide +kernel
theorem dX11_isBetter_148 : decode cX11_isBetter 148 = .ok (.laload, 1) := by decide +kernel
theorem dX11_isBetter_149 : decode cX11_isBetter 149 = .ok (.aload_n 0, 1) := by decide +kernel
theorem dX11_isBetter_150 : decode cX11_isBetter 150 = .ok (.iload 6, 2) := by decide +kernel
theorem dX11_isBetter_152 : decode cX11_isBetter 152 = .ok (.aload_n 0, 1) := by decide +kernel
theorem dX11_isBetter_153 : decode cX11_isBetter 153 = .ok (.iload_n 3, 1) := by decide +kernel
theorem dX11_isBetter_154 : decode cX11_isBetter 154 = .ok (.invokevirtual 274, 3) := by decide +kernel
theorem dX11_isBetter_157 : decode cX11_isBetter 157 = .ok (.isub, 1) := by decide +kernel
theorem dX11_isBetter_158 : decode cX11_isBetter 158 = .ok (.invokevirtual 277, 3) := by decide +kernel
theorem dX11_isBetter_161 : decode cX11_isBetter 161 = .ok (.lmul, 1) := by decide +kernel
theorem dX11_isBetter_162 : decode cX11_isBetter 162 = .ok (.lcmp, 1) := by decide +kernel
theorem dX11_isBetter_163 : decode cX11_isBetter 163 = .ok (.ifCond .le 7, 3) := by decide +kernel
theorem dX11_isBetter_166 : decode cX11_isBetter 166 = .ok (.iconst 1, 1) := by decide +kernel
theorem dX11_isBetter_167 : decode cX11_isBetter 167 = .ok (.goto 4, 3) := by decide +kernel
theorem dX11_isBetter_170 : decode cX11_isBetter 170 = .ok (.iconst 0, 1) := by decide +kernel
theorem dX11_isBetter_171 : decode cX11_isBetter 171 = .ok (.ireturn, 1) := by decide +kernel
theorem dX11_nextOf_0 : decode cX11_nextOf 0 = .ok (.iconst (-1), 1) := by decide +kernel
theorem dX11_nextOf_1 : decode cX11_nextOf 1 = .ok (.istore 4, 2) := by decide +kernel
theorem dX11_nextOf_3 : decode cX11_nextOf 3 = .ok (.iload_n 1, 1) := by decide +kernel
theorem dX11_nextOf_4 : decode cX11_nextOf 4 = .ok (.istore 5, 2) := by decide +kernel
theorem dX11_nextOf_6 : decode cX11_nextOf 6 = .ok (.iload 5, 2) := by decide +kernel
theorem dX11_nextOf_8 : decode cX11_nextOf 8 = .ok (.aload_n 0, 1) := by decide +kernel
theorem dX11_nextOf_9 : decode cX11_nextOf 9 = .ok (.invokevirtual 112, 3) := by decide +kernel
theorem dX11_nextOf_12 : decode cX11_nextOf 12 = .ok (.if_icmp .ge 60, 3) := by decide +kernel
theorem dX11_nextOf_15 : decode cX11_nextOf 15 = .ok (.aload_n 0, 1) := by decide +kernel
theorem dX11_nextOf_16 : decode cX11_nextOf 16 = .ok (.iload 5, 2) := by decide +kernel
theorem dX11_nextOf_18 : decode cX11_nextOf 18 = .ok (.invokevirtual 126, 3) := by decide +kernel
theorem dX11_nextOf_21 : decode cX11_nextOf 21 = .ok (.iload_n 2, 1) := by decide +kernel
theorem dX11_nextOf_22 : decode cX11_nextOf 22 = .ok (.if_icmp .ne 44, 3) := by decide +kernel
theorem dX11_nextOf_25 : decode cX11_nextOf 25 = .ok (.aload_n 0, 1) := by decide +kernel
theorem dX11_nextOf_26 : decode cX11_nextOf 26 = .ok (.iload_n 1, 1) := by decide +kernel
theorem dX11_nextOf_27 : decode cX11_nextOf 27 = .ok (.iload 5, 2) := by decide +kernel
theorem dX11_nextOf_29 : decode cX11_nextOf 29 = .ok (.aload_n 0, 1) := by decide +kernel
theorem dX11_nextOf_30 : decode cX11_nextOf 30 = .ok (.getfield 20, 3) := by decide +kernel
theorem dX11_nextOf_33 : decode cX11_nextOf 33 = .ok (.sipush 306, 3) := by decide +kernel
theorem dX11_nextOf_36 : decode cX11_nextOf 36 = .ok (.iaload, 1) := by decide +kernel
theorem dX11_nextOf_37 : decode cX11_nextOf 37 = .ok (.invokevirtual 271, 3) := by decide +kernel
theorem dX11_nextOf_40 : decode cX11_nextOf 40 = .ok (.ifCond .eq 26, 3) := by decide +kernel
theorem dX11_nextOf_43 : decode cX11_nextOf 43 = .ok (.iload 4, 2) := by decide +kernel
theorem dX11_nextOf_45 : decode cX11_nextOf 45 = .ok (.iconst (-1), 1) := by decide +kernel
theorem dX11_nextOf_46 : decode cX11_nextOf 46 = .ok (.if_icmp .eq 16, 3) := by decide +kernel
theorem dX11_nextOf_49 : decode cX11_nextOf 49 = .ok (.aload_n 0, 1) := by decide +kernel
theorem dX11_nextOf_50 : decode cX11_nextOf 50 = .ok (.iload_n 1, 1) := by decide +kernel
theorem dX11_nextOf_51 : decode cX11_nextOf 51 = .ok (.iload 5, 2) := by decide +kernel
theorem dX11_nextOf_53 : decode cX11_nextOf 53 = .ok (.iload 4, 2) := by decide +kernel
theorem dX11_nextOf_55 : decode cX11_nextOf 55 = .ok (.iload_n 3, 1) := by decide +kernel
theorem dX11_nextOf_56 : decode cX11_nextOf 56 = .ok (.invokevirtual 304, 3) := by decide +kernel
theorem dX11_nextOf_59 : decode cX11_nextOf 59 = .ok (.ifCond .eq 7, 3) := by decide +kernel
theorem dX11_nextOf_62 : decode cX11_nextOf 62 = .ok (.iload 5, 2) := by decide +kernel
theorem dX11_nextOf_64 : decode cX11_nextOf 64 = .ok (.istore 4, 2) := by decide +kernel
theorem dX11_nextOf_66 : decode cX11_nextOf 66 = .ok (.iinc 5 1, 3) := by decide +kernel
theorem dX11_nextOf_69 : decode cX11_nextOf 69 = .ok (.goto (-63), 3) := by decide +kernel
theorem dX11_nextOf_72 : decode cX11_nextOf 72 = .ok (.iload 4, 2) := by decide +kernel
theorem dX11_nextOf_74 : decode cX11_nextOf 74 = .ok (.ireturn, 1) := by decide +kernel
theorem dX11_next_0 : decode cX11_next 0 = .ok (.aload_n 0, 1) := by decide +kernel
theorem dX11_next_1 : decode cX11_next 1 = .ok (.iload_n 1, 1) := by decide +kernel
theorem dX11_next_2 : decode cX11_next 2 = .ok (.invokevirtual 120, 3) := by decide +kernel
theorem dX11_next_5 : decode cX11_next 5 = .ok (.ifCond .eq 18, 3) := by decide +kernel
theorem dX11_next_8 : decode cX11_next 8 = .ok (.aload_n 0, 1) := by decide +kernel
theorem dX11_next_9 : decode cX11_next 9 = .ok (.iload_n 2, 1) := by decide +kernel
theorem dX11_next_10 : decode cX11_next 10 = .ok (.invokevirtual 123, 3) := by decide +kernel
theorem dX11_next_13 : decode cX11_next 13 = .ok (.ifCond .eq 10, 3) := by decide +kernel
theorem dX11_next_16 : decode cX11_next 16 = .ok (.iload_n 3, 1) := by decide +kernel
theorem dX11_next_17 : decode cX11_next 17 = .ok (.invokestatic 308, 3) := by decide +kernel
theorem dX11_next_20 : decode cX11_next 20 = .ok (.ifCond .ne 5, 3) := by decide +kernel
theorem dX11_next_23 : decode cX11_next 23 = .ok (.iconst (-1), 1) := by decide +kernel
theorem dX11_next_24 : decode cX11_next 24 = .ok (.ireturn, 1) := by decide +kernel
theorem dX11_next_25 : decode cX11_next 25 = .ok (.aload_n 0, 1) := by decide +kernel
theorem dX11_next_26 : decode cX11_next 26 = .ok (.invokevirtual 294, 3) := by decide +kernel
theorem dX11_next_29 : decode cX11_next 29 = .ok (.aload_n 0, 1) := by decide +kernel
theorem dX11_next_30 : decode cX11_next 30 = .ok (.iload_n 1, 1) := by decide +kernel
theorem dX11_next_31 : decode cX11_next 31 = .ok (.iload_n 2, 1) := by decide +kernel
theorem dX11_next_32 : decode cX11_next 32 = .ok (.iload_n 3, 1) := by decide +kernel
theorem dX11_next_33 : decode cX11_next 33 = .ok (.invokevirtual 311, 3) := by decide +kernel
theorem dX11_next_36 : decode cX11_next 36 = .ok (.ireturn, 1) := by decide +kernel
theorem dX11_ways_0 : decode cX11_ways 0 = .ok (.aload_n 0, 1) := by decide +kernel
theorem dX11_ways_1 : decode cX11_ways 1 = .ok (.iload_n 1, 1) := by decide +kernel
theorem dX11_ways_2 : decode cX11_ways 2 = .ok (.invokevirtual 120, 3) := by decide +kernel
theorem dX11_ways_5 : decode cX11_ways 5 = .ok (.ifCond .eq 11, 3) := by decide +kernel
theorem dX11_ways_8 : decode cX11_ways 8 = .ok (.aload_n 0, 1) := by decide +kernel
theorem dX11_ways_9 : decode cX11_ways 9 = .ok (.iload_n 2, 1) := by decide +kernel
theorem dX11_ways_10 : decode cX11_ways 10 = .ok (.invokevirtual 123, 3) := by decide +kernel
theorem dX11_ways_13 : decode cX11_ways 13 = .ok (.ifCond .ne 5, 3) := by decide +kernel
theorem dX11_ways_16 : decode cX11_ways 16 = .ok (.iconst (-1), 1) := by decide +kernel
theorem dX11_ways_17 : decode cX11_ways 17 = .ok (.ireturn, 1) := by decide +kernel
theorem dX11_ways_18 : decode cX11_ways 18 = .ok (.iconst 0, 1) := by decide +kernel
theorem dX11_ways_19 : decode cX11_ways 19 = .ok (.istore_n 3, 1) := by decide +kernel
theorem dX11_ways_20 : decode cX11_ways 20 = .ok (.iload_n 1, 1) := by decide +kernel
theorem dX11_ways_21 : decode cX11_ways 21 = .ok (.istore 4, 2) := by decide +kernel
theorem dX11_ways_23 : decode cX11_ways 23 = .ok (.iload 4, 2) := by decide +kernel
theorem dX11_ways_25 : decode cX11_ways 25 = .ok (.aload_n 0, 1) := by decide +kernel
theorem dX11_ways_26 : decode cX11_ways 26 = .ok (.invokevirtual 112, 3) := by decide +kernel
theorem dX11_ways_29 : decode cX11_ways 29 = .ok (.if_icmp .ge 45, 3) := by decide +kernel
theorem dX11_ways_32 : decode cX11_ways 32 = .ok (.iload_n 3, 1) := by decide +kernel
theorem dX11_ways_33 : decode cX11_ways 33 = .ok (.aload_n 0, 1) := by decide +kernel
theorem dX11_ways_34 : decode cX11_ways 34 = .ok (.iload 4, 2) := by decide +kernel
theorem dX11_ways_36 : decode cX11_ways 36 = .ok (.invokevirtual 126, 3) := by decide +kernel
theorem dX11_ways_39 : decode cX11_ways 39 = .ok (.iload_n 2, 1) := by decide +kernel
theorem dX11_ways_40 : decode cX11_ways 40 = .ok (.if_icmp .ne 25, 3) := by decide +kernel
theorem dX11_ways_43 : decode cX11_ways 43 = .ok (.aload_n 0, 1) := by decide +kernel
theorem dX11_ways_44 : decode cX11_ways 44 = .ok (.iload_n 1, 1) := by decide +kernel
theorem dX11_ways_45 : decode cX11_ways 45 = .ok (.iload 4, 2) := by decide +kernel
theorem dX11_ways_47 : decode cX11_ways 47 = .ok (.aload_n 0, 1) := by decide +kernel
theorem dX11_ways_48 : decode cX11_ways 48 = .ok (.getfield 20, 3) := by decide +kernel
theorem dX11_ways_51 : decode cX11_ways 51 = .ok (.sipush 306, 3) := by decide +kernel
theorem dX11_ways_54 : decode cX11_ways 54 = .ok (.iaload, 1) := by decide +kernel
theorem dX11_ways_55 : decode cX11_ways 55 = .ok (.invokevirtual 271, 3) := by decide +kernel
theorem dX11_ways_58 : decode cX11_ways 58 = .ok (.ifCond .eq 7, 3) := by decide +kernel
theorem dX11_ways_61 : decode cX11_ways 61 = .ok (.iconst 1, 1) := by decide +kernel
theorem dX11_ways_62 : decode cX11_ways 62 = .ok (.goto 4, 3) := by decide +kernel
theorem dX11_ways_65 : decode cX11_ways 65 = .ok (.iconst 0, 1) := by decide +kernel
theorem dX11_ways_66 : decode cX11_ways 66 = .ok (.iadd, 1) := by decide +kernel
theorem dX11_ways_67 : decode cX11_ways 67 = .ok (.istore_n 3, 1) := by decide +kernel
theorem dX11_ways_68 : decode cX11_ways 68 = .ok (.iinc 4 1, 3) := by decide +kernel
theorem dX11_ways_71 : decode cX11_ways 71 = .ok (.goto (-48), 3) := by decide +kernel
theorem dX11_ways_74 : decode cX11_ways 74 = .ok (.iload_n 3, 1) := by decide +kernel
theorem dX11_ways_75 : decode cX11_ways 75 = .ok (.ireturn, 1) := by decide +kernel
theorem dX11_reaches_0 : decode cX11_reaches 0 = .ok (.iconst 0, 1) := by decide +kernel
theorem dX11_reaches_1 : decode cX11_reaches 1 = .ok (.istore_n 1, 1) := by decide +kernel
theorem dX11_reaches_2 : decode cX11_reaches 2 = .ok (.iload_n 1, 1) := by decide +kernel
theorem dX11_reaches_3 : decode cX11_reaches 3 = .ok (.aload_n 0, 1) := by decide +kernel
theorem dX11_reaches_4 : decode cX11_reaches 4 = .ok (.invokevirtual 112, 3) := by decide +kernel
theorem dX11_reaches_7 : decode cX11_reaches 7 = .ok (.if_icmp .ge 24, 3) := by decide +kernel
theorem dX11_reaches_10 : decode cX11_reaches 10 = .ok (.aload_n 0, 1) := by decide +kernel
theorem dX11_reaches_11 : decode cX11_reaches 11 = .ok (.getfield 65, 3) := by decide +kernel
theorem dX11_reaches_14 : decode cX11_reaches 14 = .ok (.iload_n 1, 1) := by decide +kernel
theorem dX11_reaches_15 : decode cX11_reaches 15 = .ok (.iload_n 1, 1) := by decide +kernel
theorem dX11_reaches_16 : decode cX11_reaches 16 = .ok (.ifCond .ne 7, 3) := by decide +kernel
theorem dX11_reaches_19 : decode cX11_reaches 19 = .ok (.iconst 1, 1) := by decide +kernel
theorem dX11_reaches_20 : decode cX11_reaches 20 = .ok (.goto 4, 3) := by decide +kernel
theorem dX11_reaches_23 : decode cX11_reaches 23 = .ok (.iconst 0, 1) := by decide +kernel
theorem dX11_reaches_24 : decode cX11_reaches 24 = .ok (.bastore, 1) := by decide +kernel
theorem dX11_reaches_25 : decode cX11_reaches 25 = .ok (.iinc 1 1, 3) := by decide +kernel
theorem dX11_reaches_28 : decode cX11_reaches 28 = .ok (.goto (-26), 3) := by decide +kernel
theorem dX11_reaches_31 : decode cX11_reaches 31 = .ok (.iconst 0, 1) := by decide +kernel
theorem dX11_reaches_32 : decode cX11_reaches 32 = .ok (.istore_n 1, 1) := by decide +kernel
theorem dX11_reaches_33 : decode cX11_reaches 33 = .ok (.iload_n 1, 1) := by decide +kernel
theorem dX11_reaches_34 : decode cX11_reaches 34 = .ok (.aload_n 0, 1) := by decide +kernel
theorem dX11_reaches_35 : decode cX11_reaches 35 = .ok (.invokevirtual 112, 3) := by decide +kernel
theorem dX11_reaches_38 : decode cX11_reaches 38 = .ok (.if_icmp .ge 69, 3) := by decide +kernel
theorem dX11_reaches_41 : decode cX11_reaches 41 = .ok (.iload_n 1, 1) := by decide +kernel
theorem dX11_reaches_42 : decode cX11_reaches 42 = .ok (.iconst 1, 1) := by decide +kernel
theorem dX11_reaches_43 : decode cX11_reaches 43 = .ok (.iadd, 1) := by decide +kernel
theorem dX11_reaches_44 : decode cX11_reaches 44 = .ok (.istore_n 2, 1) := by decide +kernel
theorem dX11_reaches_45 : decode cX11_reaches 45 = .ok (.iload_n 2, 1) := by decide +kernel
theorem dX11_reaches_46 : decode cX11_reaches 46 = .ok (.aload_n 0, 1) := by decide +kernel
theorem dX11_reaches_47 : decode cX11_reaches 47 = .ok (.invokevirtual 112, 3) := by decide +kernel
theorem dX11_reaches_50 : decode cX11_reaches 50 = .ok (.if_icmp .ge 51, 3) := by decide +kernel
theorem dX11_reaches_53 : decode cX11_reaches 53 = .ok (.aload_n 0, 1) := by decide +kernel
theorem dX11_reaches_54 : decode cX11_reaches 54 = .ok (.getfield 65, 3) := by decide +kernel
theorem dX11_reaches_57 : decode cX11_reaches 57 = .ok (.iload_n 1, 1) := by decide +kernel
theorem dX11_reaches_58 : decode cX11_reaches 58 = .ok (.baload, 1) := by decide +kernel
theorem dX11_reaches_59 : decode cX11_reaches 59 = .ok (.ifCond .eq 42, 3) := by decide +kernel
theorem dX11_reaches_62 : decode cX11_reaches 62 = .ok (.aload_n 0, 1) := by decide +kernel
theorem dX11_reaches_63 : decode cX11_reaches 63 = .ok (.iload_n 2, 1) := by decide +kernel
theorem dX11_reaches_64 : decode cX11_reaches 64 = .ok (.invokevirtual 126, 3) := by decide +kernel
theorem dX11_reaches_67 : decode cX11_reaches 67 = .ok (.iconst (-1), 1) := by decide +kernel
theorem dX11_reaches_68 : decode cX11_reaches 68 = .ok (.if_icmp .eq 27, 3) := by decide +kernel
theorem dX11_reaches_71 : decode cX11_reaches 71 = .ok (.aload_n 0, 1) := by decide +kernel
theorem dX11_reaches_72 : decode cX11_reaches 72 = .ok (.iload_n 1, 1) := by decide +kernel
theorem dX11_reaches_73 : decode cX11_reaches 73 = .ok (.iload_n 2, 1) := by decide +kernel
theorem dX11_reaches_74 : decode cX11_reaches 74 = .ok (.aload_n 0, 1) := by decide +kernel
theorem dX11_reaches_75 : decode cX11_reaches 75 = .ok (.getfield 20, 3) := by decide +kernel
theorem dX11_reaches_78 : decode cX11_reaches 78 = .ok (.sipush 306, 3) := by decide +kernel
theorem dX11_reaches_81 : decode cX11_reaches 81 = .ok (.iaload, 1) := by decide +kernel
theorem dX11_reaches_82 : decode cX11_reaches 82 = .ok (.invokevirtual 271, 3) := by decide +kernel
theorem dX11_reaches_85 : decode cX11_reaches 85 = .ok (.ifCond .eq 10, 3) := by decide +kernel
theorem dX11_reaches_88 : decode cX11_reaches 88 = .ok (.aload_n 0, 1) := by decide +kernel
theorem dX11_reaches_89 : decode cX11_reaches 89 = .ok (.getfield 65, 3) := by decide +kernel
theorem dX11_reaches_92 : decode cX11_reaches 92 = .ok (.iload_n 2, 1) := by decide +kernel
theorem dX11_reaches_93 : decode cX11_reaches 93 = .ok (.iconst 1, 1) := by decide +kernel
theorem dX11_reaches_94 : decode cX11_reaches 94 = .ok (.bastore, 1) := by decide +kernel
theorem dX11_reaches_95 : decode cX11_reaches 95 = .ok (.iinc 2 1, 3) := by decide +kernel
theorem dX11_reaches_98 : decode cX11_reaches 98 = .ok (.goto (-53), 3) := by decide +kernel
theorem dX11_reaches_101 : decode cX11_reaches 101 = .ok (.iinc 1 1, 3) := by decide +kernel
theorem dX11_reaches_104 : decode cX11_reaches 104 = .ok (.goto (-71), 3) := by decide +kernel
theorem dX11_reaches_107 : decode cX11_reaches 107 = .ok (.return_, 1) := by decide +kernel
theorem dX11_reached_0 : decode cX11_reached 0 = .ok (.iload_n 1, 1) := by decide +kernel
theorem dX11_reached_1 : decode cX11_reached 1 = .ok (.iconst (-1), 1) := by decide +kernel
theorem dX11_reached_2 : decode cX11_reached 2 = .ok (.if_icmp .eq 13, 3) := by decide +kernel
theorem dX11_reached_5 : decode cX11_reached 5 = .ok (.aload_n 0, 1) := by decide +kernel
theorem dX11_reached_6 : decode cX11_reached 6 = .ok (.iload_n 1, 1) := by decide +kernel
theorem dX11_reached_7 : decode cX11_reached 7 = .ok (.invokevirtual 120, 3) := by decide +kernel
theorem dX11_reached_10 : decode cX11_reached 10 = .ok (.ifCond .ne 5, 3) := by decide +kernel
theorem dX11_reached_13 : decode cX11_reached 13 = .ok (.iconst (-1), 1) := by decide +kernel
theorem dX11_reached_14 : decode cX11_reached 14 = .ok (.ireturn, 1) := by decide +kernel
theorem dX11_reached_15 : decode cX11_reached 15 = .ok (.aload_n 0, 1) := by decide +kernel
theorem dX11_reached_16 : decode cX11_reached 16 = .ok (.invokevirtual 315, 3) := by decide +kernel
theorem dX11_reached_19 : decode cX11_reached 19 = .ok (.iconst 0, 1) := by decide +kernel
theorem dX11_reached_20 : decode cX11_reached 20 = .ok (.istore_n 2, 1) := by decide +kernel
theorem dX11_reached_21 : decode cX11_reached 21 = .ok (.iconst 0, 1) := by decide +kernel
theorem dX11_reached_22 : decode cX11_reached 22 = .ok (.istore_n 3, 1) := by decide +kernel
theorem dX11_reached_23 : decode cX11_reached 23 = .ok (.iload_n 3, 1) := by decide +kernel
theorem dX11_reached_24 : decode cX11_reached 24 = .ok (.aload_n 0, 1) := by decide +kernel
theorem dX11_reached_25 : decode cX11_reached 25 = .ok (.invokevirtual 112, 3) := by decide +kernel
theorem dX11_reached_28 : decode cX11_reached 28 = .ok (.if_icmp .ge 26, 3) := by decide +kernel
theorem dX11_reached_31 : decode cX11_reached 31 = .ok (.iload_n 2, 1) := by decide +kernel
theorem dX11_reached_32 : decode cX11_reached 32 = .ok (.aload_n 0, 1) := by decide +kernel
theorem dX11_reached_33 : decode cX11_reached 33 = .ok (.getfield 65, 3) := by decide +kernel
theorem dX11_reached_36 : decode cX11_reached 36 = .ok (.iload_n 3, 1) := by decide +kernel
theorem dX11_reached_37 : decode cX11_reached 37 = .ok (.baload, 1) := by decide +kernel
theorem dX11_reached_38 : decode cX11_reached 38 = .ok (.ifCond .eq 7, 3) := by decide +kernel
theorem dX11_reached_41 : decode cX11_reached 41 = .ok (.iconst 1, 1) := by decide +kernel
theorem dX11_reached_42 : decode cX11_reached 42 = .ok (.goto 4, 3) := by decide +kernel
theorem dX11_reached_45 : decode cX11_reached 45 = .ok (.iconst 0, 1) := by decide +kernel
theorem dX11_reached_46 : decode cX11_reached 46 = .ok (.iadd, 1) := by decide +kernel
theorem dX11_reached_47 : decode cX11_reached 47 = .ok (.istore_n 2, 1) := by decide +kernel
theorem dX11_reached_48 : decode cX11_reached 48 = .ok (.iinc 3 1, 3) := by decide +kernel
theorem dX11_reached_51 : decode cX11_reached 51 = .ok (.goto (-28), 3) := by decide +kernel
theorem dX11_reached_54 : decode cX11_reached 54 = .ok (.iload_n 1, 1) := by decide +kernel
theorem dX11_reached_55 : decode cX11_reached 55 = .ok (.iconst (-1), 1) := by decide +kernel
theorem dX11_reached_56 : decode cX11_reached 56 = .ok (.if_icmp .ne 7, 3) := by decide +kernel
theorem dX11_reached_59 : decode cX11_reached 59 = .ok (.iload_n 2, 1) := by decide +kernel
theorem dX11_reached_60 : decode cX11_reached 60 = .ok (.goto 17, 3) := by decide +kernel
theorem dX11_reached_63 : decode cX11_reached 63 = .ok (.aload_n 0, 1) := by decide +kernel
theorem dX11_reached_64 : decode cX11_reached 64 = .ok (.getfield 65, 3) := by decide +kernel
theorem dX11_reached_67 : decode cX11_reached 67 = .ok (.iload_n 1, 1) := by decide +kernel
theorem dX11_reached_68 : decode cX11_reached 68 = .ok (.baload, 1) := by decide +kernel
theorem dX11_reached_69 : decode cX11_reached 69 = .ok (.ifCond .eq 7, 3) := by decide +kernel
theorem dX11_reached_72 : decode cX11_reached 72 = .ok (.iconst 1, 1) := by decide +kernel
theorem dX11_reached_73 : decode cX11_reached 73 = .ok (.goto 4, 3) := by decide +kernel
theorem dX11_reached_76 : decode cX11_reached 76 = .ok (.iconst 0, 1) := by decide +kernel
theorem dX11_reached_77 : decode cX11_reached 77 = .ok (.ireturn, 1) := by decide +kernel
theorem dX11_failing0_0 : decode cX11_failing0 0 = .ok (.aload_n 0, 1) := by decide +kernel
theorem dX11_failing0_1 : decode cX11_failing0 1 = .ok (.invokevirtual 294, 3) := by decide +kernel
theorem dX11_failing0_4 : decode cX11_failing0 4 = .ok (.aload_n 0, 1) := by decide +kernel
theorem dX11_failing0_5 : decode cX11_failing0 5 = .ok (.iconst 0, 1) := by decide +kernel
theorem dX11_failing0_6 : decode cX11_failing0 6 = .ok (.putfield 318, 3) := by decide +kernel
theorem dX11_failing0_9 : decode cX11_failing0 9 = .ok (.iconst 0, 1) := by decide +kernel
theorem dX11_failing0_10 : decode cX11_failing0 10 = .ok (.istore_n 1, 1) := by decide +kernel
theorem dX11_failing0_11 : decode cX11_failing0 11 = .ok (.iload_n 1, 1) := by decide +kernel
theorem dX11_failing0_12 : decode cX11_failing0 12 = .ok (.iconst (-1), 1) := by decide +kernel
theorem dX11_failing0_13 : decode cX11_failing0 13 = .ok (.if_icmp .eq 130, 3) := by decide +kernel
theorem dX11_failing0_16 : decode cX11_failing0 16 = .ok (.ldc_w 270, 3) := by decide +kernel
theorem dX11_failing0_19 : decode cX11_failing0 19 = .ok (.istore_n 2, 1) := by decide +kernel
theorem dX11_failing0_20 : decode cX11_failing0 20 = .ok (.iconst (-1), 1) := by decide +kernel
theorem dX11_failing0_21 : decode cX11_failing0 21 = .ok (.istore_n 3, 1) := by decide +kernel
theorem dX11_failing0_22 : decode cX11_failing0 22 = .ok (.iconst 0, 1) := by decide +kernel
theorem dX11_failing0_23 : decode cX11_failing0 23 = .ok (.istore 4, 2) := by decide +kernel
theorem dX11_failing0_25 : decode cX11_failing0 25 = .ok (.iload 4, 2) := by decide +kernel
theorem dX11_failing0_27 : decode cX11_failing0 27 = .ok (.aload_n 0, 1) := by decide +kernel
theorem dX11_failing0_28 : decode cX11_failing0 28 = .ok (.getfield 20, 3) := by decide +kernel
theorem dX11_failing0_31 : decode cX11_failing0 31 = .ok (.sipush 305, 3) := by decide +kernel
theorem dX11_failing0_34 : decode cX11_failing0 34 = .ok (.iaload, 1) := by decide +kernel
theorem dX11_failing0_35 : decode cX11_failing0 35 = .ok (.if_icmp .ge 77, 3) := by decide +kernel
theorem dX11_failing0_38 : decode cX11_failing0 38 = .ok (.iload 4, 2) := by decide +kernel
theorem dX11_failing0_40 : decode cX11_failing0 40 = .ok (.aload_n 0, 1) := by decide +kernel
theorem dX11_failing0_41 : decode cX11_failing0 41 = .ok (.iload_n 1, 1) := by decide +kernel
theorem dX11_failing0_42 : decode cX11_failing0 42 = .ok (.invokevirtual 126, 3) := by decide +kernel
theorem dX11_failing0_45 : decode cX11_failing0 45 = .ok (.if_icmp .ne 7, 3) := by decide +kernel
theorem dX11_failing0_48 : decode cX11_failing0 48 = .ok (.iconst (-1), 1) := by decide +kernel
theorem dX11_failing0_49 : decode cX11_failing0 49 = .ok (.goto 11, 3) := by decide +kernel
theorem dX11_failing0_52 : decode cX11_failing0 52 = .ok (.aload_n 0, 1) := by decide +kernel
theorem dX11_failing0_53 : decode cX11_failing0 53 = .ok (.iload_n 1, 1) := by decide +kernel
theorem dX11_failing0_54 : decode cX11_failing0 54 = .ok (.iload 4, 2) := by decide +kernel
theorem dX11_failing0_56 : decode cX11_failing0 56 = .ok (.iconst 2, 1) := by decide +kernel
theorem dX11_failing0_57 : decode cX11_failing0 57 = .ok (.invokevirtual 311, 3) := by decide +kernel
theorem dX11_failing0_60 : decode cX11_failing0 60 = .ok (.istore 5, 2) := by decide +kernel
theorem dX11_failing0_62 : decode cX11_failing0 62 = .ok (.iload 5, 2) := by decide +kernel
theorem dX11_failing0_64 : decode cX11_failing0 64 = .ok (.iconst (-1), 1) := by decide +kernel
theorem dX11_failing0_65 : decode cX11_failing0 65 = .ok (.if_icmp .ne 7, 3) := by decide +kernel
