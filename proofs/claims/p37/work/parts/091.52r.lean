theorem dL_areSound_432 : decode cL_areSound 432 = .ok (.iconst (-1), 1) := by decide +kernel
theorem dL_areSound_433 : decode cL_areSound 433 = .ok (.if_icmp .eq 51, 3) := by decide +kernel
theorem dL_areSound_436 : decode cL_areSound 436 = .ok (.aload_n 3, 1) := by decide +kernel
theorem dL_areSound_437 : decode cL_areSound 437 = .ok (.iconst 4, 1) := by decide +kernel
theorem dL_areSound_438 : decode cL_areSound 438 = .ok (.iload 10, 2) := by decide +kernel
theorem dL_areSound_440 : decode cL_areSound 440 = .ok (.imul, 1) := by decide +kernel
theorem dL_areSound_441 : decode cL_areSound 441 = .ok (.iaload, 1) := by decide +kernel
theorem dL_areSound_442 : decode cL_areSound 442 = .ok (.iload 8, 2) := by decide +kernel
theorem dL_areSound_444 : decode cL_areSound 444 = .ok (.if_icmp .ne 188, 3) := by decide +kernel
theorem dL_areSound_447 : decode cL_areSound 447 = .ok (.aload_n 3, 1) := by decide +kernel
theorem dL_areSound_448 : decode cL_areSound 448 = .ok (.iconst 4, 1) := by decide +kernel
theorem dL_areSound_449 : decode cL_areSound 449 = .ok (.iload 10, 2) := by decide +kernel
theorem dL_areSound_451 : decode cL_areSound 451 = .ok (.imul, 1) := by decide +kernel
theorem dL_areSound_452 : decode cL_areSound 452 = .ok (.iconst 1, 1) := by decide +kernel
theorem dL_areSound_453 : decode cL_areSound 453 = .ok (.iadd, 1) := by decide +kernel
theorem dL_areSound_454 : decode cL_areSound 454 = .ok (.iaload, 1) := by decide +kernel
theorem dL_areSound_455 : decode cL_areSound 455 = .ok (.iload 9, 2) := by decide +kernel
theorem dL_areSound_457 : decode cL_areSound 457 = .ok (.if_icmp .gt 175, 3) := by decide +kernel
theorem dL_areSound_460 : decode cL_areSound 460 = .ok (.iload 9, 2) := by decide +kernel
theorem dL_areSound_462 : decode cL_areSound 462 = .ok (.aload_n 3, 1) := by decide +kernel
theorem dL_areSound_463 : decode cL_areSound 463 = .ok (.iconst 4, 1) := by decide +kernel
theorem dL_areSound_464 : decode cL_areSound 464 = .ok (.iload 10, 2) := by decide +kernel
theorem dL_areSound_466 : decode cL_areSound 466 = .ok (.imul, 1) := by decide +kernel
theorem dL_areSound_467 : decode cL_areSound 467 = .ok (.iconst 2, 1) := by decide +kernel
theorem dL_areSound_468 : decode cL_areSound 468 = .ok (.iadd, 1) := by decide +kernel
theorem dL_areSound_469 : decode cL_areSound 469 = .ok (.iaload, 1) := by decide +kernel
theorem dL_areSound_470 : decode cL_areSound 470 = .ok (.if_icmp .gt 162, 3) := by decide +kernel
theorem dL_areSound_473 : decode cL_areSound 473 = .ok (.aload_n 0, 1) := by decide +kernel
theorem dL_areSound_474 : decode cL_areSound 474 = .ok (.iload 10, 2) := by decide +kernel
theorem dL_areSound_476 : decode cL_areSound 476 = .ok (.iconst 0, 1) := by decide +kernel
theorem dL_areSound_477 : decode cL_areSound 477 = .ok (.invokevirtual 96, 3) := by decide +kernel
theorem dL_areSound_480 : decode cL_areSound 480 = .ok (.iconst 3, 1) := by decide +kernel
theorem dL_areSound_481 : decode cL_areSound 481 = .ok (.if_icmp .ne 151, 3) := by decide +kernel
theorem dL_areSound_484 : decode cL_areSound 484 = .ok (.aload_n 0, 1) := by decide +kernel
theorem dL_areSound_485 : decode cL_areSound 485 = .ok (.iload 8, 2) := by decide +kernel
theorem dL_areSound_487 : decode cL_areSound 487 = .ok (.iload 9, 2) := by decide +kernel
theorem dL_areSound_489 : decode cL_areSound 489 = .ok (.iconst 0, 1) := by decide +kernel
theorem dL_areSound_490 : decode cL_areSound 490 = .ok (.invokevirtual 99, 3) := by decide +kernel
theorem dL_areSound_493 : decode cL_areSound 493 = .ok (.iload 11, 2) := by decide +kernel
theorem dL_areSound_495 : decode cL_areSound 495 = .ok (.ifCond .ne 7, 3) := by decide +kernel
theorem dL_areSound_498 : decode cL_areSound 498 = .ok (.iconst 0, 1) := by decide +kernel
theorem dL_areSound_499 : decode cL_areSound 499 = .ok (.goto 4, 3) := by decide +kernel
theorem dL_areSound_502 : decode cL_areSound 502 = .ok (.iconst 1, 1) := by decide +kernel
theorem dL_areSound_503 : decode cL_areSound 503 = .ok (.if_icmp .ne 129, 3) := by decide +kernel
theorem dL_areSound_506 : decode cL_areSound 506 = .ok (.aload_n 0, 1) := by decide +kernel
theorem dL_areSound_507 : decode cL_areSound 507 = .ok (.iload 8, 2) := by decide +kernel
theorem dL_areSound_509 : decode cL_areSound 509 = .ok (.iconst 0, 1) := by decide +kernel
theorem dL_areSound_510 : decode cL_areSound 510 = .ok (.aload_n 2, 1) := by decide +kernel
theorem dL_areSound_511 : decode cL_areSound 511 = .ok (.iload 8, 2) := by decide +kernel
theorem dL_areSound_513 : decode cL_areSound 513 = .ok (.iaload, 1) := by decide +kernel
theorem dL_areSound_514 : decode cL_areSound 514 = .ok (.iconst 1, 1) := by decide +kernel
theorem dL_areSound_515 : decode cL_areSound 515 = .ok (.isub, 1) := by decide +kernel
theorem dL_areSound_516 : decode cL_areSound 516 = .ok (.invokevirtual 102, 3) := by decide +kernel
theorem dL_areSound_519 : decode cL_areSound 519 = .ok (.iload 11, 2) := by decide +kernel
theorem dL_areSound_521 : decode cL_areSound 521 = .ok (.iand, 1) := by decide +kernel
theorem dL_areSound_522 : decode cL_areSound 522 = .ok (.iload 11, 2) := by decide +kernel
theorem dL_areSound_524 : decode cL_areSound 524 = .ok (.if_icmp .ne 108, 3) := by decide +kernel
theorem dL_areSound_527 : decode cL_areSound 527 = .ok (.aload_n 0, 1) := by decide +kernel
theorem dL_areSound_528 : decode cL_areSound 528 = .ok (.iload 8, 2) := by decide +kernel
theorem dL_areSound_530 : decode cL_areSound 530 = .ok (.iload 9, 2) := by decide +kernel
theorem dL_areSound_532 : decode cL_areSound 532 = .ok (.iload 12, 2) := by decide +kernel
theorem dL_areSound_534 : decode cL_areSound 534 = .ok (.invokevirtual 87, 3) := by decide +kernel
theorem dL_areSound_537 : decode cL_areSound 537 = .ok (.iload 13, 2) := by decide +kernel
theorem dL_areSound_539 : decode cL_areSound 539 = .ok (.if_icmp .ne 93, 3) := by decide +kernel
theorem dL_areSound_542 : decode cL_areSound 542 = .ok (.iload 13, 2) := by decide +kernel
theorem dL_areSound_544 : decode cL_areSound 544 = .ok (.iconst (-1), 1) := by decide +kernel
theorem dL_areSound_545 : decode cL_areSound 545 = .ok (.if_icmp .eq 83, 3) := by decide +kernel
theorem dL_areSound_548 : decode cL_areSound 548 = .ok (.aload_n 0, 1) := by decide +kernel
theorem dL_areSound_549 : decode cL_areSound 549 = .ok (.iload 8, 2) := by decide +kernel
theorem dL_areSound_551 : decode cL_areSound 551 = .ok (.iload 9, 2) := by decide +kernel
theorem dL_areSound_553 : decode cL_areSound 553 = .ok (.iconst 3, 1) := by decide +kernel
theorem dL_areSound_554 : decode cL_areSound 554 = .ok (.invokevirtual 99, 3) := by decide +kernel
theorem dL_areSound_557 : decode cL_areSound 557 = .ok (.ifCond .le 75, 3) := by decide +kernel
theorem dL_areSound_560 : decode cL_areSound 560 = .ok (.aload_n 3, 1) := by decide +kernel
theorem dL_areSound_561 : decode cL_areSound 561 = .ok (.iconst 4, 1) := by decide +kernel
theorem dL_areSound_562 : decode cL_areSound 562 = .ok (.iload 13, 2) := by decide +kernel
theorem dL_areSound_564 : decode cL_areSound 564 = .ok (.imul, 1) := by decide +kernel
theorem dL_areSound_565 : decode cL_areSound 565 = .ok (.iaload, 1) := by decide +kernel
theorem dL_areSound_566 : decode cL_areSound 566 = .ok (.iload 8, 2) := by decide +kernel
theorem dL_areSound_568 : decode cL_areSound 568 = .ok (.if_icmp .ne 64, 3) := by decide +kernel
theorem dL_areSound_571 : decode cL_areSound 571 = .ok (.aload_n 3, 1) := by decide +kernel
theorem dL_areSound_572 : decode cL_areSound 572 = .ok (.iconst 4, 1) := by decide +kernel
theorem dL_areSound_573 : decode cL_areSound 573 = .ok (.iload 13, 2) := by decide +kernel
theorem dL_areSound_575 : decode cL_areSound 575 = .ok (.imul, 1) := by decide +kernel
theorem dL_areSound_576 : decode cL_areSound 576 = .ok (.iconst 1, 1) := by decide +kernel
theorem dL_areSound_577 : decode cL_areSound 577 = .ok (.iadd, 1) := by decide +kernel
theorem dL_areSound_578 : decode cL_areSound 578 = .ok (.iaload, 1) := by decide +kernel
theorem dL_areSound_579 : decode cL_areSound 579 = .ok (.iload 9, 2) := by decide +kernel
theorem dL_areSound_581 : decode cL_areSound 581 = .ok (.if_icmp .gt 51, 3) := by decide +kernel
theorem dL_areSound_584 : decode cL_areSound 584 = .ok (.iload 9, 2) := by decide +kernel
theorem dL_areSound_586 : decode cL_areSound 586 = .ok (.aload_n 3, 1) := by decide +kernel
theorem dL_areSound_587 : decode cL_areSound 587 = .ok (.iconst 4, 1) := by decide +kernel
theorem dL_areSound_588 : decode cL_areSound 588 = .ok (.iload 13, 2) := by decide +kernel
theorem dL_areSound_590 : decode cL_areSound 590 = .ok (.imul, 1) := by decide +kernel
theorem dL_areSound_591 : decode cL_areSound 591 = .ok (.iconst 2, 1) := by decide +kernel
theorem dL_areSound_592 : decode cL_areSound 592 = .ok (.iadd, 1) := by decide +kernel
theorem dL_areSound_593 : decode cL_areSound 593 = .ok (.iaload, 1) := by decide +kernel
theorem dL_areSound_594 : decode cL_areSound 594 = .ok (.if_icmp .gt 38, 3) := by decide +kernel
theorem dL_areSound_597 : decode cL_areSound 597 = .ok (.bipush 10, 2) := by decide +kernel
theorem dL_areSound_599 : decode cL_areSound 599 = .ok (.bipush 7, 2) := by decide +kernel
theorem dL_areSound_601 : decode cL_areSound 601 = .ok (.aload_n 3, 1) := by decide +kernel
theorem dL_areSound_602 : decode cL_areSound 602 = .ok (.iconst 4, 1) := by decide +kernel
theorem dL_areSound_603 : decode cL_areSound 603 = .ok (.iload 13, 2) := by decide +kernel
theorem dL_areSound_605 : decode cL_areSound 605 = .ok (.imul, 1) := by decide +kernel
theorem dL_areSound_606 : decode cL_areSound 606 = .ok (.iconst 1, 1) := by decide +kernel
theorem dL_areSound_607 : decode cL_areSound 607 = .ok (.iadd, 1) := by decide +kernel
theorem dL_areSound_608 : decode cL_areSound 608 = .ok (.iaload, 1) := by decide +kernel
theorem dL_areSound_609 : decode cL_areSound 609 = .ok (.imul, 1) := by decide +kernel
theorem dL_areSound_610 : decode cL_areSound 610 = .ok (.iadd, 1) := by decide +kernel
theorem dL_areSound_611 : decode cL_areSound 611 = .ok (.bipush 11, 2) := by decide +kernel
theorem dL_areSound_613 : decode cL_areSound 613 = .ok (.aload_n 3, 1) := by decide +kernel
theorem dL_areSound_614 : decode cL_areSound 614 = .ok (.iconst 4, 1) := by decide +kernel
theorem dL_areSound_615 : decode cL_areSound 615 = .ok (.iload 13, 2) := by decide +kernel
theorem dL_areSound_617 : decode cL_areSound 617 = .ok (.imul, 1) := by decide +kernel
theorem dL_areSound_618 : decode cL_areSound 618 = .ok (.iconst 2, 1) := by decide +kernel
theorem dL_areSound_619 : decode cL_areSound 619 = .ok (.iadd, 1) := by decide +kernel
theorem dL_areSound_620 : decode cL_areSound 620 = .ok (.iaload, 1) := by decide +kernel
theorem dL_areSound_621 : decode cL_areSound 621 = .ok (.imul, 1) := by decide +kernel
theorem dL_areSound_622 : decode cL_areSound 622 = .ok (.iadd, 1) := by decide +kernel
theorem dL_areSound_623 : decode cL_areSound 623 = .ok (.iload 12, 2) := by decide +kernel
theorem dL_areSound_625 : decode cL_areSound 625 = .ok (.if_icmp .lt 7, 3) := by decide +kernel
theorem dL_areSound_628 : decode cL_areSound 628 = .ok (.iconst 1, 1) := by decide +kernel
theorem dL_areSound_629 : decode cL_areSound 629 = .ok (.goto 4, 3) := by decide +kernel
theorem dL_areSound_632 : decode cL_areSound 632 = .ok (.iconst 0, 1) := by decide +kernel
theorem dL_areSound_633 : decode cL_areSound 633 = .ok (.istore 7, 2) := by decide +kernel
theorem dL_areSound_635 : decode cL_areSound 635 = .ok (.iinc 8 1, 3) := by decide +kernel
theorem dL_areSound_638 : decode cL_areSound 638 = .ok (.goto (-285), 3) := by decide +kernel
theorem dL_areSound_641 : decode cL_areSound 641 = .ok (.iload 7, 2) := by decide +kernel
theorem dL_areSound_643 : decode cL_areSound 643 = .ok (.ireturn, 1) := by decide +kernel
theorem dL_isLaid_0 : decode cL_isLaid 0 = .ok (.iload_n 3, 1) := by decide +kernel
theorem dL_isLaid_1 : decode cL_isLaid 1 = .ok (.ifCond .eq 9, 3) := by decide +kernel
theorem dL_isLaid_4 : decode cL_isLaid 4 = .ok (.aload_n 1, 1) := by decide +kernel
theorem dL_isLaid_5 : decode cL_isLaid 5 = .ok (.iconst 1, 1) := by decide +kernel
theorem dL_isLaid_6 : decode cL_isLaid 6 = .ok (.iaload, 1) := by decide +kernel
theorem dL_isLaid_7 : decode cL_isLaid 7 = .ok (.ifCond .ne 147, 3) := by decide +kernel
theorem dL_isLaid_10 : decode cL_isLaid 10 = .ok (.aload_n 1, 1) := by decide +kernel
theorem dL_isLaid_11 : decode cL_isLaid 11 = .ok (.iconst 1, 1) := by decide +kernel
theorem dL_isLaid_12 : decode cL_isLaid 12 = .ok (.iaload, 1) := by decide +kernel
theorem dL_isLaid_13 : decode cL_isLaid 13 = .ok (.bipush 6, 2) := by decide +kernel
theorem dL_isLaid_15 : decode cL_isLaid 15 = .ok (.if_icmp .ne 24, 3) := by decide +kernel
theorem dL_isLaid_18 : decode cL_isLaid 18 = .ok (.aload_n 0, 1) := by decide +kernel
theorem dL_isLaid_19 : decode cL_isLaid 19 = .ok (.iconst 0, 1) := by decide +kernel
theorem dL_isLaid_20 : decode cL_isLaid 20 = .ok (.iconst 5, 1) := by decide +kernel
theorem dL_isLaid_21 : decode cL_isLaid 21 = .ok (.iconst 0, 1) := by decide +kernel
theorem dL_isLaid_22 : decode cL_isLaid 22 = .ok (.iconst 0, 1) := by decide +kernel
theorem dL_isLaid_23 : decode cL_isLaid 23 = .ok (.iconst (-1), 1) := by decide +kernel
theorem dL_isLaid_24 : decode cL_isLaid 24 = .ok (.iconst 0, 1) := by decide +kernel
theorem dL_isLaid_25 : decode cL_isLaid 25 = .ok (.invokestatic 137, 3) := by decide +kernel
theorem dL_isLaid_28 : decode cL_isLaid 28 = .ok (.ldc 126, 2) := by decide +kernel
theorem dL_isLaid_30 : decode cL_isLaid 30 = .ok (.if_icmp .ne 7, 3) := by decide +kernel
theorem dL_isLaid_33 : decode cL_isLaid 33 = .ok (.iconst 1, 1) := by decide +kernel
theorem dL_isLaid_34 : decode cL_isLaid 34 = .ok (.goto 4, 3) := by decide +kernel
theorem dL_isLaid_37 : decode cL_isLaid 37 = .ok (.iconst 0, 1) := by decide +kernel
theorem dL_isLaid_38 : decode cL_isLaid 38 = .ok (.ireturn, 1) := by decide +kernel
theorem dL_isLaid_39 : decode cL_isLaid 39 = .ok (.iload 4, 2) := by decide +kernel
theorem dL_isLaid_41 : decode cL_isLaid 41 = .ok (.iconst 3, 1) := by decide +kernel
theorem dL_isLaid_42 : decode cL_isLaid 42 = .ok (.irem, 1) := by decide +kernel
theorem dL_isLaid_43 : decode cL_isLaid 43 = .ok (.ifCond .eq 9, 3) := by decide +kernel
theorem dL_isLaid_46 : decode cL_isLaid 46 = .ok (.aload_n 1, 1) := by decide +kernel
theorem dL_isLaid_47 : decode cL_isLaid 47 = .ok (.iconst 1, 1) := by decide +kernel
theorem dL_isLaid_48 : decode cL_isLaid 48 = .ok (.iaload, 1) := by decide +kernel
theorem dL_isLaid_49 : decode cL_isLaid 49 = .ok (.ifCond .ne 7, 3) := by decide +kernel
theorem dL_isLaid_52 : decode cL_isLaid 52 = .ok (.iconst (-1), 1) := by decide +kernel
theorem dL_isLaid_53 : decode cL_isLaid 53 = .ok (.goto 11, 3) := by decide +kernel
theorem dL_isLaid_56 : decode cL_isLaid 56 = .ok (.iload 4, 2) := by decide +kernel
theorem dL_isLaid_58 : decode cL_isLaid 58 = .ok (.iconst 3, 1) := by decide +kernel
theorem dL_isLaid_59 : decode cL_isLaid 59 = .ok (.idiv, 1) := by decide +kernel
theorem dL_isLaid_60 : decode cL_isLaid 60 = .ok (.aload_n 1, 1) := by decide +kernel
theorem dL_isLaid_61 : decode cL_isLaid 61 = .ok (.iconst 1, 1) := by decide +kernel
theorem dL_isLaid_62 : decode cL_isLaid 62 = .ok (.iaload, 1) := by decide +kernel
theorem dL_isLaid_63 : decode cL_isLaid 63 = .ok (.irem, 1) := by decide +kernel
theorem dL_isLaid_64 : decode cL_isLaid 64 = .ok (.istore 5, 2) := by decide +kernel
theorem dL_isLaid_66 : decode cL_isLaid 66 = .ok (.aload_n 2, 1) := by decide +kernel
theorem dL_isLaid_67 : decode cL_isLaid 67 = .ok (.aload_n 1, 1) := by decide +kernel
theorem dL_isLaid_68 : decode cL_isLaid 68 = .ok (.iconst 1, 1) := by decide +kernel
theorem dL_isLaid_69 : decode cL_isLaid 69 = .ok (.iaload, 1) := by decide +kernel
theorem dL_isLaid_70 : decode cL_isLaid 70 = .ok (.iconst 2, 1) := by decide +kernel
theorem dL_isLaid_71 : decode cL_isLaid 71 = .ok (.iload 4, 2) := by decide +kernel
theorem dL_isLaid_73 : decode cL_isLaid 73 = .ok (.bipush 12, 2) := by decide +kernel
theorem dL_isLaid_75 : decode cL_isLaid 75 = .ok (.irem, 1) := by decide +kernel
theorem dL_isLaid_76 : decode cL_isLaid 76 = .ok (.iadd, 1) := by decide +kernel
theorem dL_isLaid_77 : decode cL_isLaid 77 = .ok (.iastore, 1) := by decide +kernel
theorem dL_isLaid_78 : decode cL_isLaid 78 = .ok (.aload_n 2, 1) := by decide +kernel
theorem dL_isLaid_79 : decode cL_isLaid 79 = .ok (.bipush 6, 2) := by decide +kernel
theorem dL_isLaid_81 : decode cL_isLaid 81 = .ok (.aload_n 1, 1) := by decide +kernel
theorem dL_isLaid_82 : decode cL_isLaid 82 = .ok (.iconst 1, 1) := by decide +kernel
theorem dL_isLaid_83 : decode cL_isLaid 83 = .ok (.iaload, 1) := by decide +kernel
theorem dL_isLaid_84 : decode cL_isLaid 84 = .ok (.iadd, 1) := by decide +kernel
theorem dL_isLaid_85 : decode cL_isLaid 85 = .ok (.iload 4, 2) := by decide +kernel
theorem dL_isLaid_87 : decode cL_isLaid 87 = .ok (.bipush 12, 2) := by decide +kernel
theorem dL_isLaid_89 : decode cL_isLaid 89 = .ok (.idiv, 1) := by decide +kernel
theorem dL_isLaid_90 : decode cL_isLaid 90 = .ok (.sipush 400, 3) := by decide +kernel
theorem dL_isLaid_93 : decode cL_isLaid 93 = .ok (.irem, 1) := by decide +kernel
theorem dL_isLaid_94 : decode cL_isLaid 94 = .ok (.iastore, 1) := by decide +kernel
theorem dL_isLaid_95 : decode cL_isLaid 95 = .ok (.aload_n 2, 1) := by decide +kernel
theorem dL_isLaid_96 : decode cL_isLaid 96 = .ok (.bipush 12, 2) := by decide +kernel
theorem dL_isLaid_98 : decode cL_isLaid 98 = .ok (.aload_n 1, 1) := by decide +kernel
theorem dL_isLaid_99 : decode cL_isLaid 99 = .ok (.iconst 1, 1) := by decide +kernel
theorem dL_isLaid_100 : decode cL_isLaid 100 = .ok (.iaload, 1) := by decide +kernel
theorem dL_isLaid_101 : decode cL_isLaid 101 = .ok (.iadd, 1) := by decide +kernel
theorem dL_isLaid_102 : decode cL_isLaid 102 = .ok (.iload 5, 2) := by decide +kernel
theorem dL_isLaid_104 : decode cL_isLaid 104 = .ok (.iastore, 1) := by decide +kernel
theorem dL_isLaid_105 : decode cL_isLaid 105 = .ok (.aload_n 1, 1) := by decide +kernel
theorem dL_isLaid_106 : decode cL_isLaid 106 = .ok (.iconst 1, 1) := by decide +kernel
theorem dL_isLaid_107 : decode cL_isLaid 107 = .ok (.dup2, 1) := by decide +kernel
theorem dL_isLaid_108 : decode cL_isLaid 108 = .ok (.iaload, 1) := by decide +kernel
theorem dL_isLaid_109 : decode cL_isLaid 109 = .ok (.iconst 1, 1) := by decide +kernel
theorem dL_isLaid_110 : decode cL_isLaid 110 = .ok (.iadd, 1) := by decide +kernel
theorem dL_isLaid_111 : decode cL_isLaid 111 = .ok (.iastore, 1) := by decide +kernel
theorem dL_isLaid_112 : decode cL_isLaid 112 = .ok (.aload_n 0, 1) := by decide +kernel
theorem dL_isLaid_113 : decode cL_isLaid 113 = .ok (.iconst 0, 1) := by decide +kernel
theorem dL_isLaid_114 : decode cL_isLaid 114 = .ok (.aload_n 2, 1) := by decide +kernel
theorem dL_isLaid_115 : decode cL_isLaid 115 = .ok (.aload_n 1, 1) := by decide +kernel
theorem dL_isLaid_116 : decode cL_isLaid 116 = .ok (.iconst 1, 1) := by decide +kernel
theorem dL_isLaid_117 : decode cL_isLaid 117 = .ok (.iaload, 1) := by decide +kernel
theorem dL_isLaid_118 : decode cL_isLaid 118 = .ok (.iconst 1, 1) := by decide +kernel
theorem dL_isLaid_119 : decode cL_isLaid 119 = .ok (.isub, 1) := by decide +kernel
theorem dL_isLaid_120 : decode cL_isLaid 120 = .ok (.iaload, 1) := by decide +kernel
theorem dL_isLaid_121 : decode cL_isLaid 121 = .ok (.iload 4, 2) := by decide +kernel
theorem dL_isLaid_123 : decode cL_isLaid 123 = .ok (.iconst 5, 1) := by decide +kernel
theorem dL_isLaid_124 : decode cL_isLaid 124 = .ok (.idiv, 1) := by decide +kernel
theorem dL_isLaid_125 : decode cL_isLaid 125 = .ok (.iconst 4, 1) := by decide +kernel
theorem dL_isLaid_126 : decode cL_isLaid 126 = .ok (.irem, 1) := by decide +kernel
theorem dL_isLaid_127 : decode cL_isLaid 127 = .ok (.aload_n 2, 1) := by decide +kernel
theorem dL_isLaid_128 : decode cL_isLaid 128 = .ok (.iconst 5, 1) := by decide +kernel
theorem dL_isLaid_129 : decode cL_isLaid 129 = .ok (.aload_n 1, 1) := by decide +kernel
theorem dL_isLaid_130 : decode cL_isLaid 130 = .ok (.iconst 1, 1) := by decide +kernel
theorem dL_isLaid_131 : decode cL_isLaid 131 = .ok (.iaload, 1) := by decide +kernel
theorem dL_isLaid_132 : decode cL_isLaid 132 = .ok (.iadd, 1) := by decide +kernel
theorem dL_isLaid_133 : decode cL_isLaid 133 = .ok (.iaload, 1) := by decide +kernel
theorem dL_isLaid_134 : decode cL_isLaid 134 = .ok (.iload 5, 2) := by decide +kernel
theorem dL_isLaid_136 : decode cL_isLaid 136 = .ok (.iconst 0, 1) := by decide +kernel
theorem dL_isLaid_137 : decode cL_isLaid 137 = .ok (.invokestatic 137, 3) := by decide +kernel
theorem dL_isLaid_140 : decode cL_isLaid 140 = .ok (.aload_n 1, 1) := by decide +kernel
theorem dL_isLaid_141 : decode cL_isLaid 141 = .ok (.iconst 1, 1) := by decide +kernel
theorem dL_isLaid_142 : decode cL_isLaid 142 = .ok (.iaload, 1) := by decide +kernel
theorem dL_isLaid_143 : decode cL_isLaid 143 = .ok (.iconst 1, 1) := by decide +kernel
theorem dL_isLaid_144 : decode cL_isLaid 144 = .ok (.isub, 1) := by decide +kernel
theorem dL_isLaid_145 : decode cL_isLaid 145 = .ok (.if_icmp .ne 7, 3) := by decide +kernel
theorem dL_isLaid_148 : decode cL_isLaid 148 = .ok (.iconst 1, 1) := by decide +kernel
theorem dL_isLaid_149 : decode cL_isLaid 149 = .ok (.goto 4, 3) := by decide +kernel
theorem dL_isLaid_152 : decode cL_isLaid 152 = .ok (.iconst 0, 1) := by decide +kernel
theorem dL_isLaid_153 : decode cL_isLaid 153 = .ok (.ireturn, 1) := by decide +kernel
theorem dL_isLaid_154 : decode cL_isLaid 154 = .ok (.iload 4, 2) := by decide +kernel
theorem dL_isLaid_156 : decode cL_isLaid 156 = .ok (.aload_n 1, 1) := by decide +kernel
theorem dL_isLaid_157 : decode cL_isLaid 157 = .ok (.iconst 1, 1) := by decide +kernel
theorem dL_isLaid_158 : decode cL_isLaid 158 = .ok (.iaload, 1) := by decide +kernel
theorem dL_isLaid_159 : decode cL_isLaid 159 = .ok (.irem, 1) := by decide +kernel
theorem dL_isLaid_160 : decode cL_isLaid 160 = .ok (.istore 5, 2) := by decide +kernel
theorem dL_isLaid_162 : decode cL_isLaid 162 = .ok (.iload 4, 2) := by decide +kernel
theorem dL_isLaid_164 : decode cL_isLaid 164 = .ok (.bipush 6, 2) := by decide +kernel
theorem dL_isLaid_166 : decode cL_isLaid 166 = .ok (.idiv, 1) := by decide +kernel
theorem dL_isLaid_167 : decode cL_isLaid 167 = .ok (.aload_n 2, 1) := by decide +kernel
theorem dL_isLaid_168 : decode cL_isLaid 168 = .ok (.iload 5, 2) := by decide +kernel
theorem dL_isLaid_170 : decode cL_isLaid 170 = .ok (.iaload, 1) := by decide +kernel
theorem dL_isLaid_171 : decode cL_isLaid 171 = .ok (.irem, 1) := by decide +kernel
theorem dL_isLaid_172 : decode cL_isLaid 172 = .ok (.istore 6, 2) := by decide +kernel
theorem dL_isLaid_174 : decode cL_isLaid 174 = .ok (.iload 6, 2) := by decide +kernel
theorem dL_isLaid_176 : decode cL_isLaid 176 = .ok (.iload 4, 2) := by decide +kernel
theorem dL_isLaid_178 : decode cL_isLaid 178 = .ok (.bipush 84, 2) := by decide +kernel
theorem dL_isLaid_180 : decode cL_isLaid 180 = .ok (.idiv, 1) := by decide +kernel
theorem dL_isLaid_181 : decode cL_isLaid 181 = .ok (.aload_n 2, 1) := by decide +kernel
theorem dL_isLaid_182 : decode cL_isLaid 182 = .ok (.iload 5, 2) := by decide +kernel
theorem dL_isLaid_184 : decode cL_isLaid 184 = .ok (.iaload, 1) := by decide +kernel
theorem dL_isLaid_185 : decode cL_isLaid 185 = .ok (.iload 6, 2) := by decide +kernel
theorem dL_isLaid_187 : decode cL_isLaid 187 = .ok (.isub, 1) := by decide +kernel
theorem dL_isLaid_188 : decode cL_isLaid 188 = .ok (.irem, 1) := by decide +kernel
theorem dL_isLaid_189 : decode cL_isLaid 189 = .ok (.iadd, 1) := by decide +kernel
theorem dL_isLaid_190 : decode cL_isLaid 190 = .ok (.istore 7, 2) := by decide +kernel
theorem dL_isLaid_192 : decode cL_isLaid 192 = .ok (.iload_n 3, 1) := by decide +kernel
theorem dL_isLaid_193 : decode cL_isLaid 193 = .ok (.iconst 1, 1) := by decide +kernel
theorem dL_isLaid_194 : decode cL_isLaid 194 = .ok (.if_icmp .ne 172, 3) := by decide +kernel
theorem dL_isLaid_197 : decode cL_isLaid 197 = .ok (.aload_n 1, 1) := by decide +kernel
theorem dL_isLaid_198 : decode cL_isLaid 198 = .ok (.iconst 2, 1) := by decide +kernel
theorem dL_isLaid_199 : decode cL_isLaid 199 = .ok (.iaload, 1) := by decide +kernel
theorem dL_isLaid_200 : decode cL_isLaid 200 = .ok (.bipush 30, 2) := by decide +kernel
theorem dL_isLaid_202 : decode cL_isLaid 202 = .ok (.if_icmp .ne 26, 3) := by decide +kernel
theorem dL_isLaid_205 : decode cL_isLaid 205 = .ok (.aload_n 0, 1) := by decide +kernel
theorem dL_isLaid_206 : decode cL_isLaid 206 = .ok (.iconst 3, 1) := by decide +kernel
theorem dL_isLaid_207 : decode cL_isLaid 207 = .ok (.iconst 0, 1) := by decide +kernel
theorem dL_isLaid_208 : decode cL_isLaid 208 = .ok (.iload 5, 2) := by decide +kernel
theorem dL_isLaid_210 : decode cL_isLaid 210 = .ok (.iconst 0, 1) := by decide +kernel
theorem dL_isLaid_211 : decode cL_isLaid 211 = .ok (.iconst 0, 1) := by decide +kernel
