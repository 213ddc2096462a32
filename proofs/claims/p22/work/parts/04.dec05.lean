theorem dL_same_409 : decode cL_same 409 = .ok (.iconst 5, 1) := by decide +kernel
theorem dL_same_410 : decode cL_same 410 = .ok (.iadd, 1) := by decide +kernel
theorem dL_same_411 : decode cL_same 411 = .ok (.iaload, 1) := by decide +kernel
theorem dL_same_412 : decode cL_same 412 = .ok (.i2l, 1) := by decide +kernel
theorem dL_same_413 : decode cL_same 413 = .ok (.lcmp, 1) := by decide +kernel
theorem dL_same_414 : decode cL_same 414 = .ok (.ifCond .ne 49, 3) := by decide +kernel
theorem dL_same_417 : decode cL_same 417 = .ok (.aload_n 0, 1) := by decide +kernel
theorem dL_same_418 : decode cL_same 418 = .ok (.iload 16, 2) := by decide +kernel
theorem dL_same_420 : decode cL_same 420 = .ok (.iconst 5, 1) := by decide +kernel
theorem dL_same_421 : decode cL_same 421 = .ok (.invokevirtual 101, 3) := by decide +kernel
theorem dL_same_424 : decode cL_same 424 = .ok (.aload 7, 2) := by decide +kernel
theorem dL_same_426 : decode cL_same 426 = .ok (.iload 16, 2) := by decide +kernel
theorem dL_same_428 : decode cL_same 428 = .ok (.laload, 1) := by decide +kernel
theorem dL_same_429 : decode cL_same 429 = .ok (.lcmp, 1) := by decide +kernel
theorem dL_same_430 : decode cL_same 430 = .ok (.ifCond .ne 33, 3) := by decide +kernel
theorem dL_same_433 : decode cL_same 433 = .ok (.aload_n 0, 1) := by decide +kernel
theorem dL_same_434 : decode cL_same 434 = .ok (.iload 16, 2) := by decide +kernel
theorem dL_same_436 : decode cL_same 436 = .ok (.bipush 6, 2) := by decide +kernel
theorem dL_same_438 : decode cL_same 438 = .ok (.invokevirtual 101, 3) := by decide +kernel
theorem dL_same_441 : decode cL_same 441 = .ok (.aload 6, 2) := by decide +kernel
theorem dL_same_443 : decode cL_same 443 = .ok (.bipush 7, 2) := by decide +kernel
theorem dL_same_445 : decode cL_same 445 = .ok (.iload 16, 2) := by decide +kernel
theorem dL_same_447 : decode cL_same 447 = .ok (.imul, 1) := by decide +kernel
theorem dL_same_448 : decode cL_same 448 = .ok (.bipush 6, 2) := by decide +kernel
theorem dL_same_450 : decode cL_same 450 = .ok (.iadd, 1) := by decide +kernel
theorem dL_same_451 : decode cL_same 451 = .ok (.iaload, 1) := by decide +kernel
theorem dL_same_452 : decode cL_same 452 = .ok (.iconst 1, 1) := by decide +kernel
theorem dL_same_453 : decode cL_same 453 = .ok (.isub, 1) := by decide +kernel
theorem dL_same_454 : decode cL_same 454 = .ok (.i2l, 1) := by decide +kernel
theorem dL_same_455 : decode cL_same 455 = .ok (.lcmp, 1) := by decide +kernel
theorem dL_same_456 : decode cL_same 456 = .ok (.ifCond .ne 7, 3) := by decide +kernel
theorem dL_same_459 : decode cL_same 459 = .ok (.iconst 1, 1) := by decide +kernel
theorem dL_same_460 : decode cL_same 460 = .ok (.goto 4, 3) := by decide +kernel
theorem dL_same_463 : decode cL_same 463 = .ok (.iconst 0, 1) := by decide +kernel
theorem dL_same_464 : decode cL_same 464 = .ok (.istore 13, 2) := by decide +kernel
theorem dL_same_466 : decode cL_same 466 = .ok (.iinc 16 1, 3) := by decide +kernel
theorem dL_same_469 : decode cL_same 469 = .ok (.goto (-174), 3) := by decide +kernel
theorem dL_same_472 : decode cL_same 472 = .ok (.iconst 0, 1) := by decide +kernel
theorem dL_same_473 : decode cL_same 473 = .ok (.istore 16, 2) := by decide +kernel
theorem dL_same_475 : decode cL_same 475 = .ok (.iload 16, 2) := by decide +kernel
theorem dL_same_477 : decode cL_same 477 = .ok (.aload 12, 2) := by decide +kernel
theorem dL_same_479 : decode cL_same 479 = .ok (.iconst 2, 1) := by decide +kernel
theorem dL_same_480 : decode cL_same 480 = .ok (.iaload, 1) := by decide +kernel
theorem dL_same_481 : decode cL_same 481 = .ok (.if_icmp .ge 124, 3) := by decide +kernel
theorem dL_same_484 : decode cL_same 484 = .ok (.iload 13, 2) := by decide +kernel
theorem dL_same_486 : decode cL_same 486 = .ok (.ifCond .eq 119, 3) := by decide +kernel
theorem dL_same_489 : decode cL_same 489 = .ok (.aload_n 0, 1) := by decide +kernel
theorem dL_same_490 : decode cL_same 490 = .ok (.iload 16, 2) := by decide +kernel
theorem dL_same_492 : decode cL_same 492 = .ok (.iconst 0, 1) := by decide +kernel
theorem dL_same_493 : decode cL_same 493 = .ok (.invokevirtual 104, 3) := by decide +kernel
theorem dL_same_496 : decode cL_same 496 = .ok (.aload 8, 2) := by decide +kernel
theorem dL_same_498 : decode cL_same 498 = .ok (.iconst 5, 1) := by decide +kernel
theorem dL_same_499 : decode cL_same 499 = .ok (.iload 16, 2) := by decide +kernel
theorem dL_same_501 : decode cL_same 501 = .ok (.imul, 1) := by decide +kernel
theorem dL_same_502 : decode cL_same 502 = .ok (.iaload, 1) := by decide +kernel
theorem dL_same_503 : decode cL_same 503 = .ok (.i2l, 1) := by decide +kernel
theorem dL_same_504 : decode cL_same 504 = .ok (.lcmp, 1) := by decide +kernel
theorem dL_same_505 : decode cL_same 505 = .ok (.ifCond .ne 91, 3) := by decide +kernel
theorem dL_same_508 : decode cL_same 508 = .ok (.aload_n 0, 1) := by decide +kernel
theorem dL_same_509 : decode cL_same 509 = .ok (.iload 16, 2) := by decide +kernel
theorem dL_same_511 : decode cL_same 511 = .ok (.iconst 1, 1) := by decide +kernel
theorem dL_same_512 : decode cL_same 512 = .ok (.invokevirtual 104, 3) := by decide +kernel
theorem dL_same_515 : decode cL_same 515 = .ok (.aload 8, 2) := by decide +kernel
theorem dL_same_517 : decode cL_same 517 = .ok (.iconst 5, 1) := by decide +kernel
theorem dL_same_518 : decode cL_same 518 = .ok (.iload 16, 2) := by decide +kernel
theorem dL_same_520 : decode cL_same 520 = .ok (.imul, 1) := by decide +kernel
theorem dL_same_521 : decode cL_same 521 = .ok (.iconst 3, 1) := by decide +kernel
theorem dL_same_522 : decode cL_same 522 = .ok (.iadd, 1) := by decide +kernel
theorem dL_same_523 : decode cL_same 523 = .ok (.iaload, 1) := by decide +kernel
theorem dL_same_524 : decode cL_same 524 = .ok (.i2l, 1) := by decide +kernel
theorem dL_same_525 : decode cL_same 525 = .ok (.lcmp, 1) := by decide +kernel
theorem dL_same_526 : decode cL_same 526 = .ok (.ifCond .ne 70, 3) := by decide +kernel
theorem dL_same_529 : decode cL_same 529 = .ok (.aload_n 0, 1) := by decide +kernel
theorem dL_same_530 : decode cL_same 530 = .ok (.iload 16, 2) := by decide +kernel
theorem dL_same_532 : decode cL_same 532 = .ok (.iconst 2, 1) := by decide +kernel
theorem dL_same_533 : decode cL_same 533 = .ok (.invokevirtual 104, 3) := by decide +kernel
theorem dL_same_536 : decode cL_same 536 = .ok (.aload 8, 2) := by decide +kernel
theorem dL_same_538 : decode cL_same 538 = .ok (.iconst 5, 1) := by decide +kernel
theorem dL_same_539 : decode cL_same 539 = .ok (.iload 16, 2) := by decide +kernel
theorem dL_same_541 : decode cL_same 541 = .ok (.imul, 1) := by decide +kernel
theorem dL_same_542 : decode cL_same 542 = .ok (.iconst 2, 1) := by decide +kernel
theorem dL_same_543 : decode cL_same 543 = .ok (.iadd, 1) := by decide +kernel
theorem dL_same_544 : decode cL_same 544 = .ok (.iaload, 1) := by decide +kernel
theorem dL_same_545 : decode cL_same 545 = .ok (.i2l, 1) := by decide +kernel
theorem dL_same_546 : decode cL_same 546 = .ok (.lcmp, 1) := by decide +kernel
theorem dL_same_547 : decode cL_same 547 = .ok (.ifCond .ne 49, 3) := by decide +kernel
theorem dL_same_550 : decode cL_same 550 = .ok (.aload_n 0, 1) := by decide +kernel
theorem dL_same_551 : decode cL_same 551 = .ok (.iload 16, 2) := by decide +kernel
theorem dL_same_553 : decode cL_same 553 = .ok (.iconst 3, 1) := by decide +kernel
theorem dL_same_554 : decode cL_same 554 = .ok (.invokevirtual 104, 3) := by decide +kernel
theorem dL_same_557 : decode cL_same 557 = .ok (.aload 8, 2) := by decide +kernel
theorem dL_same_559 : decode cL_same 559 = .ok (.iconst 5, 1) := by decide +kernel
theorem dL_same_560 : decode cL_same 560 = .ok (.iload 16, 2) := by decide +kernel
theorem dL_same_562 : decode cL_same 562 = .ok (.imul, 1) := by decide +kernel
theorem dL_same_563 : decode cL_same 563 = .ok (.iconst 4, 1) := by decide +kernel
theorem dL_same_564 : decode cL_same 564 = .ok (.iadd, 1) := by decide +kernel
theorem dL_same_565 : decode cL_same 565 = .ok (.iaload, 1) := by decide +kernel
theorem dL_same_566 : decode cL_same 566 = .ok (.i2l, 1) := by decide +kernel
theorem dL_same_567 : decode cL_same 567 = .ok (.lcmp, 1) := by decide +kernel
theorem dL_same_568 : decode cL_same 568 = .ok (.ifCond .ne 28, 3) := by decide +kernel
theorem dL_same_571 : decode cL_same 571 = .ok (.aload_n 0, 1) := by decide +kernel
theorem dL_same_572 : decode cL_same 572 = .ok (.iload 16, 2) := by decide +kernel
theorem dL_same_574 : decode cL_same 574 = .ok (.iconst 4, 1) := by decide +kernel
theorem dL_same_575 : decode cL_same 575 = .ok (.invokevirtual 104, 3) := by decide +kernel
theorem dL_same_578 : decode cL_same 578 = .ok (.iload 16, 2) := by decide +kernel
theorem dL_same_580 : decode cL_same 580 = .ok (.aload 9, 2) := by decide +kernel
theorem dL_same_582 : decode cL_same 582 = .ok (.aload 12, 2) := by decide +kernel
theorem dL_same_584 : decode cL_same 584 = .ok (.invokestatic 107, 3) := by decide +kernel
theorem dL_same_587 : decode cL_same 587 = .ok (.i2l, 1) := by decide +kernel
theorem dL_same_588 : decode cL_same 588 = .ok (.lcmp, 1) := by decide +kernel
theorem dL_same_589 : decode cL_same 589 = .ok (.ifCond .ne 7, 3) := by decide +kernel
theorem dL_same_592 : decode cL_same 592 = .ok (.iconst 1, 1) := by decide +kernel
theorem dL_same_593 : decode cL_same 593 = .ok (.goto 4, 3) := by decide +kernel
theorem dL_same_596 : decode cL_same 596 = .ok (.iconst 0, 1) := by decide +kernel
theorem dL_same_597 : decode cL_same 597 = .ok (.istore 13, 2) := by decide +kernel
theorem dL_same_599 : decode cL_same 599 = .ok (.iinc 16 1, 3) := by decide +kernel
theorem dL_same_602 : decode cL_same 602 = .ok (.goto (-127), 3) := by decide +kernel
theorem dL_same_605 : decode cL_same 605 = .ok (.iconst 0, 1) := by decide +kernel
theorem dL_same_606 : decode cL_same 606 = .ok (.istore 16, 2) := by decide +kernel
theorem dL_same_608 : decode cL_same 608 = .ok (.iload 16, 2) := by decide +kernel
theorem dL_same_610 : decode cL_same 610 = .ok (.aload 12, 2) := by decide +kernel
theorem dL_same_612 : decode cL_same 612 = .ok (.iconst 4, 1) := by decide +kernel
theorem dL_same_613 : decode cL_same 613 = .ok (.iaload, 1) := by decide +kernel
theorem dL_same_614 : decode cL_same 614 = .ok (.if_icmp .ge 83, 3) := by decide +kernel
theorem dL_same_617 : decode cL_same 617 = .ok (.iload 16, 2) := by decide +kernel
theorem dL_same_619 : decode cL_same 619 = .ok (.bipush 20, 2) := by decide +kernel
theorem dL_same_621 : decode cL_same 621 = .ok (.if_icmp .ge 76, 3) := by decide +kernel
theorem dL_same_624 : decode cL_same 624 = .ok (.iload 13, 2) := by decide +kernel
theorem dL_same_626 : decode cL_same 626 = .ok (.ifCond .eq 71, 3) := by decide +kernel
theorem dL_same_629 : decode cL_same 629 = .ok (.aload_n 0, 1) := by decide +kernel
theorem dL_same_630 : decode cL_same 630 = .ok (.iload 16, 2) := by decide +kernel
theorem dL_same_632 : decode cL_same 632 = .ok (.iconst 0, 1) := by decide +kernel
theorem dL_same_633 : decode cL_same 633 = .ok (.invokevirtual 111, 3) := by decide +kernel
theorem dL_same_636 : decode cL_same 636 = .ok (.aload 11, 2) := by decide +kernel
theorem dL_same_638 : decode cL_same 638 = .ok (.iconst 3, 1) := by decide +kernel
theorem dL_same_639 : decode cL_same 639 = .ok (.iload 16, 2) := by decide +kernel
theorem dL_same_641 : decode cL_same 641 = .ok (.imul, 1) := by decide +kernel
theorem dL_same_642 : decode cL_same 642 = .ok (.iaload, 1) := by decide +kernel
theorem dL_same_643 : decode cL_same 643 = .ok (.if_icmp .ne 45, 3) := by decide +kernel
theorem dL_same_646 : decode cL_same 646 = .ok (.aload_n 0, 1) := by decide +kernel
theorem dL_same_647 : decode cL_same 647 = .ok (.iload 16, 2) := by decide +kernel
theorem dL_same_649 : decode cL_same 649 = .ok (.iconst 1, 1) := by decide +kernel
theorem dL_same_650 : decode cL_same 650 = .ok (.invokevirtual 111, 3) := by decide +kernel
theorem dL_same_653 : decode cL_same 653 = .ok (.aload 11, 2) := by decide +kernel
theorem dL_same_655 : decode cL_same 655 = .ok (.iconst 3, 1) := by decide +kernel
theorem dL_same_656 : decode cL_same 656 = .ok (.iload 16, 2) := by decide +kernel
theorem dL_same_658 : decode cL_same 658 = .ok (.imul, 1) := by decide +kernel
theorem dL_same_659 : decode cL_same 659 = .ok (.iconst 1, 1) := by decide +kernel
theorem dL_same_660 : decode cL_same 660 = .ok (.iadd, 1) := by decide +kernel
theorem dL_same_661 : decode cL_same 661 = .ok (.iaload, 1) := by decide +kernel
theorem dL_same_662 : decode cL_same 662 = .ok (.if_icmp .ne 26, 3) := by decide +kernel
theorem dL_same_665 : decode cL_same 665 = .ok (.aload_n 0, 1) := by decide +kernel
theorem dL_same_666 : decode cL_same 666 = .ok (.iload 16, 2) := by decide +kernel
theorem dL_same_668 : decode cL_same 668 = .ok (.iconst 2, 1) := by decide +kernel
theorem dL_same_669 : decode cL_same 669 = .ok (.invokevirtual 111, 3) := by decide +kernel
theorem dL_same_672 : decode cL_same 672 = .ok (.aload 11, 2) := by decide +kernel
theorem dL_same_674 : decode cL_same 674 = .ok (.iconst 3, 1) := by decide +kernel
theorem dL_same_675 : decode cL_same 675 = .ok (.iload 16, 2) := by decide +kernel
theorem dL_same_677 : decode cL_same 677 = .ok (.imul, 1) := by decide +kernel
theorem dL_same_678 : decode cL_same 678 = .ok (.iconst 2, 1) := by decide +kernel
theorem dL_same_679 : decode cL_same 679 = .ok (.iadd, 1) := by decide +kernel
theorem dL_same_680 : decode cL_same 680 = .ok (.iaload, 1) := by decide +kernel
theorem dL_same_681 : decode cL_same 681 = .ok (.if_icmp .ne 7, 3) := by decide +kernel
theorem dL_same_684 : decode cL_same 684 = .ok (.iconst 1, 1) := by decide +kernel
theorem dL_same_685 : decode cL_same 685 = .ok (.goto 4, 3) := by decide +kernel
theorem dL_same_688 : decode cL_same 688 = .ok (.iconst 0, 1) := by decide +kernel
theorem dL_same_689 : decode cL_same 689 = .ok (.istore 13, 2) := by decide +kernel
theorem dL_same_691 : decode cL_same 691 = .ok (.iinc 16 1, 3) := by decide +kernel
theorem dL_same_694 : decode cL_same 694 = .ok (.goto (-86), 3) := by decide +kernel
theorem dL_same_697 : decode cL_same 697 = .ok (.iload 13, 2) := by decide +kernel
theorem dL_same_699 : decode cL_same 699 = .ok (.ireturn, 1) := by decide +kernel
theorem dL_tells_0 : decode cL_tells 0 = .ok (.iload_n 2, 1) := by decide +kernel
theorem dL_tells_1 : decode cL_tells 1 = .ok (.bipush 12, 2) := by decide +kernel
theorem dL_tells_3 : decode cL_tells 3 = .ok (.invokestatic 114, 3) := by decide +kernel
theorem dL_tells_6 : decode cL_tells 6 = .ok (.istore 11, 2) := by decide +kernel
theorem dL_tells_8 : decode cL_tells 8 = .ok (.iload_n 1, 1) := by decide +kernel
theorem dL_tells_9 : decode cL_tells 9 = .ok (.ifCond .ne 112, 3) := by decide +kernel
theorem dL_tells_12 : decode cL_tells 12 = .ok (.aload 10, 2) := by decide +kernel
theorem dL_tells_14 : decode cL_tells 14 = .ok (.iconst 0, 1) := by decide +kernel
theorem dL_tells_15 : decode cL_tells 15 = .ok (.iaload, 1) := by decide +kernel
theorem dL_tells_16 : decode cL_tells 16 = .ok (.ifCond .le 5, 3) := by decide +kernel
theorem dL_tells_19 : decode cL_tells 19 = .ok (.iconst 1, 1) := by decide +kernel
theorem dL_tells_20 : decode cL_tells 20 = .ok (.ireturn, 1) := by decide +kernel
theorem dL_tells_21 : decode cL_tells 21 = .ok (.aload_n 3, 1) := by decide +kernel
theorem dL_tells_22 : decode cL_tells 22 = .ok (.iload 11, 2) := by decide +kernel
theorem dL_tells_24 : decode cL_tells 24 = .ok (.laload, 1) := by decide +kernel
theorem dL_tells_25 : decode cL_tells 25 = .ok (.lstore 12, 2) := by decide +kernel
theorem dL_tells_27 : decode cL_tells 27 = .ok (.iload_n 2, 1) := by decide +kernel
theorem dL_tells_28 : decode cL_tells 28 = .ok (.iconst 4, 1) := by decide +kernel
theorem dL_tells_29 : decode cL_tells 29 = .ok (.ishr, 1) := by decide +kernel
theorem dL_tells_30 : decode cL_tells 30 = .ok (.iconst 4, 1) := by decide +kernel
theorem dL_tells_31 : decode cL_tells 31 = .ok (.invokestatic 114, 3) := by decide +kernel
theorem dL_tells_34 : decode cL_tells 34 = .ok (.ifCond .ne 15, 3) := by decide +kernel
theorem dL_tells_37 : decode cL_tells 37 = .ok (.iload_n 2, 1) := by decide +kernel
theorem dL_tells_38 : decode cL_tells 38 = .ok (.bipush 6, 2) := by decide +kernel
theorem dL_tells_40 : decode cL_tells 40 = .ok (.ishr, 1) := by decide +kernel
theorem dL_tells_41 : decode cL_tells 41 = .ok (.ldc 117, 2) := by decide +kernel
theorem dL_tells_43 : decode cL_tells 43 = .ok (.invokestatic 114, 3) := by decide +kernel
theorem dL_tells_46 : decode cL_tells 46 = .ok (.goto 16, 3) := by decide +kernel
theorem dL_tells_49 : decode cL_tells 49 = .ok (.iload_n 2, 1) := by decide +kernel
theorem dL_tells_50 : decode cL_tells 50 = .ok (.bipush 6, 2) := by decide +kernel
theorem dL_tells_52 : decode cL_tells 52 = .ok (.ishr, 1) := by decide +kernel
theorem dL_tells_53 : decode cL_tells 53 = .ok (.bipush 12, 2) := by decide +kernel
theorem dL_tells_55 : decode cL_tells 55 = .ok (.invokestatic 114, 3) := by decide +kernel
theorem dL_tells_58 : decode cL_tells 58 = .ok (.sipush 1000, 3) := by decide +kernel
theorem dL_tells_61 : decode cL_tells 61 = .ok (.imul, 1) := by decide +kernel
theorem dL_tells_62 : decode cL_tells 62 = .ok (.istore 14, 2) := by decide +kernel
theorem dL_tells_64 : decode cL_tells 64 = .ok (.iload_n 2, 1) := by decide +kernel
theorem dL_tells_65 : decode cL_tells 65 = .ok (.iconst 5, 1) := by decide +kernel
theorem dL_tells_66 : decode cL_tells 66 = .ok (.ishr, 1) := by decide +kernel
theorem dL_tells_67 : decode cL_tells 67 = .ok (.sipush 351, 3) := by decide +kernel
theorem dL_tells_70 : decode cL_tells 70 = .ok (.invokestatic 114, 3) := by decide +kernel
theorem dL_tells_73 : decode cL_tells 73 = .ok (.istore 15, 2) := by decide +kernel
theorem dL_tells_75 : decode cL_tells 75 = .ok (.aload_n 3, 1) := by decide +kernel
theorem dL_tells_76 : decode cL_tells 76 = .ok (.iload 11, 2) := by decide +kernel
theorem dL_tells_78 : decode cL_tells 78 = .ok (.iload 14, 2) := by decide +kernel
theorem dL_tells_80 : decode cL_tells 80 = .ok (.i2l, 1) := by decide +kernel
theorem dL_tells_81 : decode cL_tells 81 = .ok (.lastore, 1) := by decide +kernel
theorem dL_tells_82 : decode cL_tells 82 = .ok (.aload 4, 2) := by decide +kernel
theorem dL_tells_84 : decode cL_tells 84 = .ok (.iload 11, 2) := by decide +kernel
theorem dL_tells_86 : decode cL_tells 86 = .ok (.iload 15, 2) := by decide +kernel
theorem dL_tells_88 : decode cL_tells 88 = .ok (.i2l, 1) := by decide +kernel
theorem dL_tells_89 : decode cL_tells 89 = .ok (.iload 14, 2) := by decide +kernel
theorem dL_tells_91 : decode cL_tells 91 = .ok (.sipush 20000, 3) := by decide +kernel
theorem dL_tells_94 : decode cL_tells 94 = .ok (.iadd, 1) := by decide +kernel
theorem dL_tells_95 : decode cL_tells 95 = .ok (.i2l, 1) := by decide +kernel
theorem dL_tells_96 : decode cL_tells 96 = .ok (.lmul, 1) := by decide +kernel
theorem dL_tells_97 : decode cL_tells 97 = .ok (.lastore, 1) := by decide +kernel
theorem dL_tells_98 : decode cL_tells 98 = .ok (.aload_n 0, 1) := by decide +kernel
theorem dL_tells_99 : decode cL_tells 99 = .ok (.iload 11, 2) := by decide +kernel
theorem dL_tells_101 : decode cL_tells 101 = .ok (.iload 14, 2) := by decide +kernel
theorem dL_tells_103 : decode cL_tells 103 = .ok (.iload 15, 2) := by decide +kernel
theorem dL_tells_105 : decode cL_tells 105 = .ok (.invokevirtual 118, 3) := by decide +kernel
theorem dL_tells_108 : decode cL_tells 108 = .ok (.i2l, 1) := by decide +kernel
theorem dL_tells_109 : decode cL_tells 109 = .ok (.lload 12, 2) := by decide +kernel
theorem dL_tells_111 : decode cL_tells 111 = .ok (.lcmp, 1) := by decide +kernel
theorem dL_tells_112 : decode cL_tells 112 = .ok (.ifCond .ne 7, 3) := by decide +kernel
theorem dL_tells_115 : decode cL_tells 115 = .ok (.iconst 1, 1) := by decide +kernel
theorem dL_tells_116 : decode cL_tells 116 = .ok (.goto 4, 3) := by decide +kernel
theorem dL_tells_119 : decode cL_tells 119 = .ok (.iconst 0, 1) := by decide +kernel
theorem dL_tells_120 : decode cL_tells 120 = .ok (.ireturn, 1) := by decide +kernel
theorem dL_tells_121 : decode cL_tells 121 = .ok (.iload_n 1, 1) := by decide +kernel
theorem dL_tells_122 : decode cL_tells 122 = .ok (.iconst 1, 1) := by decide +kernel
theorem dL_tells_123 : decode cL_tells 123 = .ok (.if_icmp .ne 112, 3) := by decide +kernel
theorem dL_tells_126 : decode cL_tells 126 = .ok (.iconst 2, 1) := by decide +kernel
theorem dL_tells_127 : decode cL_tells 127 = .ok (.iload_n 2, 1) := by decide +kernel
theorem dL_tells_128 : decode cL_tells 128 = .ok (.iconst 4, 1) := by decide +kernel
theorem dL_tells_129 : decode cL_tells 129 = .ok (.ishr, 1) := by decide +kernel
theorem dL_tells_130 : decode cL_tells 130 = .ok (.iconst 2, 1) := by decide +kernel
theorem dL_tells_131 : decode cL_tells 131 = .ok (.invokestatic 114, 3) := by decide +kernel
theorem dL_tells_134 : decode cL_tells 134 = .ok (.imul, 1) := by decide +kernel
theorem dL_tells_135 : decode cL_tells 135 = .ok (.istore 12, 2) := by decide +kernel
theorem dL_tells_137 : decode cL_tells 137 = .ok (.iload 11, 2) := by decide +kernel
theorem dL_tells_139 : decode cL_tells 139 = .ok (.iload 12, 2) := by decide +kernel
theorem dL_tells_141 : decode cL_tells 141 = .ok (.invokestatic 10, 3) := by decide +kernel
theorem dL_tells_144 : decode cL_tells 144 = .ok (.istore 13, 2) := by decide +kernel
theorem dL_tells_146 : decode cL_tells 146 = .ok (.iload 13, 2) := by decide +kernel
theorem dL_tells_148 : decode cL_tells 148 = .ok (.ifCond .ge 5, 3) := by decide +kernel
theorem dL_tells_151 : decode cL_tells 151 = .ok (.iconst 1, 1) := by decide +kernel
theorem dL_tells_152 : decode cL_tells 152 = .ok (.ireturn, 1) := by decide +kernel
theorem dL_tells_153 : decode cL_tells 153 = .ok (.iconst 2, 1) := by decide +kernel
theorem dL_tells_154 : decode cL_tells 154 = .ok (.iload 11, 2) := by decide +kernel
theorem dL_tells_156 : decode cL_tells 156 = .ok (.imul, 1) := by decide +kernel
theorem dL_tells_157 : decode cL_tells 157 = .ok (.iload 12, 2) := by decide +kernel
theorem dL_tells_159 : decode cL_tells 159 = .ok (.iconst 2, 1) := by decide +kernel
theorem dL_tells_160 : decode cL_tells 160 = .ok (.idiv, 1) := by decide +kernel
theorem dL_tells_161 : decode cL_tells 161 = .ok (.iadd, 1) := by decide +kernel
theorem dL_tells_162 : decode cL_tells 162 = .ok (.istore 14, 2) := by decide +kernel
theorem dL_tells_164 : decode cL_tells 164 = .ok (.aload 6, 2) := by decide +kernel
theorem dL_tells_166 : decode cL_tells 166 = .ok (.iload 14, 2) := by decide +kernel
theorem dL_tells_168 : decode cL_tells 168 = .ok (.iaload, 1) := by decide +kernel
theorem dL_tells_169 : decode cL_tells 169 = .ok (.istore 15, 2) := by decide +kernel
theorem dL_tells_171 : decode cL_tells 171 = .ok (.aload 6, 2) := by decide +kernel
theorem dL_tells_173 : decode cL_tells 173 = .ok (.iload 14, 2) := by decide +kernel
theorem dL_tells_175 : decode cL_tells 175 = .ok (.iload_n 2, 1) := by decide +kernel
theorem dL_tells_176 : decode cL_tells 176 = .ok (.iconst 5, 1) := by decide +kernel
theorem dL_tells_177 : decode cL_tells 177 = .ok (.ishr, 1) := by decide +kernel
theorem dL_tells_178 : decode cL_tells 178 = .ok (.bipush 101, 2) := by decide +kernel
theorem dL_tells_180 : decode cL_tells 180 = .ok (.invokestatic 114, 3) := by decide +kernel
theorem dL_tells_183 : decode cL_tells 183 = .ok (.iastore, 1) := by decide +kernel
theorem dL_tells_184 : decode cL_tells 184 = .ok (.iload_n 2, 1) := by decide +kernel
theorem dL_tells_185 : decode cL_tells 185 = .ok (.bipush 6, 2) := by decide +kernel
theorem dL_tells_187 : decode cL_tells 187 = .ok (.ishr, 1) := by decide +kernel
theorem dL_tells_188 : decode cL_tells 188 = .ok (.iconst 2, 1) := by decide +kernel
theorem dL_tells_189 : decode cL_tells 189 = .ok (.invokestatic 114, 3) := by decide +kernel
theorem dL_tells_192 : decode cL_tells 192 = .ok (.ifCond .ne 19, 3) := by decide +kernel
theorem dL_tells_195 : decode cL_tells 195 = .ok (.aload_n 0, 1) := by decide +kernel
theorem dL_tells_196 : decode cL_tells 196 = .ok (.iload 11, 2) := by decide +kernel
theorem dL_tells_198 : decode cL_tells 198 = .ok (.iload 13, 2) := by decide +kernel
theorem dL_tells_200 : decode cL_tells 200 = .ok (.aload 6, 2) := by decide +kernel
theorem dL_tells_202 : decode cL_tells 202 = .ok (.iload 14, 2) := by decide +kernel
theorem dL_tells_204 : decode cL_tells 204 = .ok (.iaload, 1) := by decide +kernel
theorem dL_tells_205 : decode cL_tells 205 = .ok (.invokevirtual 122, 3) := by decide +kernel
theorem dL_tells_208 : decode cL_tells 208 = .ok (.goto 16, 3) := by decide +kernel
theorem dL_tells_211 : decode cL_tells 211 = .ok (.aload_n 0, 1) := by decide +kernel
theorem dL_tells_212 : decode cL_tells 212 = .ok (.iload 13, 2) := by decide +kernel
theorem dL_tells_214 : decode cL_tells 214 = .ok (.iload 11, 2) := by decide +kernel
theorem dL_tells_216 : decode cL_tells 216 = .ok (.aload 6, 2) := by decide +kernel
theorem dL_tells_218 : decode cL_tells 218 = .ok (.iload 14, 2) := by decide +kernel
theorem dL_tells_220 : decode cL_tells 220 = .ok (.iaload, 1) := by decide +kernel
theorem dL_tells_221 : decode cL_tells 221 = .ok (.invokevirtual 122, 3) := by decide +kernel
theorem dL_tells_224 : decode cL_tells 224 = .ok (.iload 15, 2) := by decide +kernel
theorem dL_tells_226 : decode cL_tells 226 = .ok (.if_icmp .ne 7, 3) := by decide +kernel
theorem dL_tells_229 : decode cL_tells 229 = .ok (.iconst 1, 1) := by decide +kernel
theorem dL_tells_230 : decode cL_tells 230 = .ok (.goto 4, 3) := by decide +kernel
theorem dL_tells_233 : decode cL_tells 233 = .ok (.iconst 0, 1) := by decide +kernel
theorem dL_tells_234 : decode cL_tells 234 = .ok (.ireturn, 1) := by decide +kernel
theorem dL_tells_235 : decode cL_tells 235 = .ok (.iload_n 1, 1) := by decide +kernel
theorem dL_tells_236 : decode cL_tells 236 = .ok (.iconst 2, 1) := by decide +kernel
theorem dL_tells_237 : decode cL_tells 237 = .ok (.if_icmp .ne 41, 3) := by decide +kernel
theorem dL_tells_240 : decode cL_tells 240 = .ok (.aload 10, 2) := by decide +kernel
theorem dL_tells_242 : decode cL_tells 242 = .ok (.iconst 5, 1) := by decide +kernel
theorem dL_tells_243 : decode cL_tells 243 = .ok (.iaload, 1) := by decide +kernel
theorem dL_tells_244 : decode cL_tells 244 = .ok (.istore 12, 2) := by decide +kernel
theorem dL_tells_246 : decode cL_tells 246 = .ok (.aload 10, 2) := by decide +kernel
theorem dL_tells_248 : decode cL_tells 248 = .ok (.iconst 5, 1) := by decide +kernel
theorem dL_tells_249 : decode cL_tells 249 = .ok (.iload_n 2, 1) := by decide +kernel
theorem dL_tells_250 : decode cL_tells 250 = .ok (.iconst 3, 1) := by decide +kernel
theorem dL_tells_251 : decode cL_tells 251 = .ok (.ishr, 1) := by decide +kernel
theorem dL_tells_252 : decode cL_tells 252 = .ok (.sipush 501, 3) := by decide +kernel
theorem dL_tells_255 : decode cL_tells 255 = .ok (.invokestatic 114, 3) := by decide +kernel
theorem dL_tells_258 : decode cL_tells 258 = .ok (.iastore, 1) := by decide +kernel
theorem dL_tells_259 : decode cL_tells 259 = .ok (.aload_n 0, 1) := by decide +kernel
theorem dL_tells_260 : decode cL_tells 260 = .ok (.aload 10, 2) := by decide +kernel
theorem dL_tells_262 : decode cL_tells 262 = .ok (.iconst 5, 1) := by decide +kernel
theorem dL_tells_263 : decode cL_tells 263 = .ok (.iaload, 1) := by decide +kernel
theorem dL_tells_264 : decode cL_tells 264 = .ok (.invokevirtual 125, 3) := by decide +kernel
theorem dL_tells_267 : decode cL_tells 267 = .ok (.iload 12, 2) := by decide +kernel
theorem dL_tells_269 : decode cL_tells 269 = .ok (.if_icmp .ne 7, 3) := by decide +kernel
theorem dL_tells_272 : decode cL_tells 272 = .ok (.iconst 1, 1) := by decide +kernel
theorem dL_tells_273 : decode cL_tells 273 = .ok (.goto 4, 3) := by decide +kernel
theorem dL_tells_276 : decode cL_tells 276 = .ok (.iconst 0, 1) := by decide +kernel
theorem dL_tells_277 : decode cL_tells 277 = .ok (.ireturn, 1) := by decide +kernel
theorem dL_tells_278 : decode cL_tells 278 = .ok (.iload_n 1, 1) := by decide +kernel
theorem dL_tells_279 : decode cL_tells 279 = .ok (.iconst 3, 1) := by decide +kernel
theorem dL_tells_280 : decode cL_tells 280 = .ok (.if_icmp .ne 125, 3) := by decide +kernel
theorem dL_tells_283 : decode cL_tells 283 = .ok (.aload 10, 2) := by decide +kernel
theorem dL_tells_285 : decode cL_tells 285 = .ok (.iconst 1, 1) := by decide +kernel
theorem dL_tells_286 : decode cL_tells 286 = .ok (.iaload, 1) := by decide +kernel
theorem dL_tells_287 : decode cL_tells 287 = .ok (.bipush 8, 2) := by decide +kernel
theorem dL_tells_289 : decode cL_tells 289 = .ok (.if_icmp .ne 5, 3) := by decide +kernel
theorem dL_tells_292 : decode cL_tells 292 = .ok (.iconst 1, 1) := by decide +kernel
theorem dL_tells_293 : decode cL_tells 293 = .ok (.ireturn, 1) := by decide +kernel
theorem dL_tells_294 : decode cL_tells 294 = .ok (.iload_n 2, 1) := by decide +kernel
theorem dL_tells_295 : decode cL_tells 295 = .ok (.iconst 4, 1) := by decide +kernel
theorem dL_tells_296 : decode cL_tells 296 = .ok (.ishr, 1) := by decide +kernel
theorem dL_tells_297 : decode cL_tells 297 = .ok (.iconst 3, 1) := by decide +kernel
theorem dL_tells_298 : decode cL_tells 298 = .ok (.invokestatic 114, 3) := by decide +kernel
theorem dL_tells_301 : decode cL_tells 301 = .ok (.ifCond .ne 7, 3) := by decide +kernel
theorem dL_tells_304 : decode cL_tells 304 = .ok (.iconst 1, 1) := by decide +kernel
theorem dL_tells_305 : decode cL_tells 305 = .ok (.goto 4, 3) := by decide +kernel
theorem dL_tells_308 : decode cL_tells 308 = .ok (.iconst 0, 1) := by decide +kernel
theorem dL_tells_309 : decode cL_tells 309 = .ok (.istore 12, 2) := by decide +kernel
theorem dL_tells_311 : decode cL_tells 311 = .ok (.aload 7, 2) := by decide +kernel
theorem dL_tells_313 : decode cL_tells 313 = .ok (.bipush 7, 2) := by decide +kernel
theorem dL_tells_315 : decode cL_tells 315 = .ok (.aload 10, 2) := by decide +kernel
theorem dL_tells_317 : decode cL_tells 317 = .ok (.iconst 1, 1) := by decide +kernel
theorem dL_tells_318 : decode cL_tells 318 = .ok (.iaload, 1) := by decide +kernel
theorem dL_tells_319 : decode cL_tells 319 = .ok (.imul, 1) := by decide +kernel
theorem dL_tells_320 : decode cL_tells 320 = .ok (.iload 11, 2) := by decide +kernel
theorem dL_tells_322 : decode cL_tells 322 = .ok (.iload_n 2, 1) := by decide +kernel
theorem dL_tells_323 : decode cL_tells 323 = .ok (.iconst 5, 1) := by decide +kernel
theorem dL_tells_324 : decode cL_tells 324 = .ok (.ishr, 1) := by decide +kernel
theorem dL_tells_325 : decode cL_tells 325 = .ok (.iconst 2, 1) := by decide +kernel
theorem dL_tells_326 : decode cL_tells 326 = .ok (.invokestatic 114, 3) := by decide +kernel
theorem dL_tells_329 : decode cL_tells 329 = .ok (.ifCond .ne 8, 3) := by decide +kernel
theorem dL_tells_332 : decode cL_tells 332 = .ok (.bipush 12, 2) := by decide +kernel
theorem dL_tells_334 : decode cL_tells 334 = .ok (.goto 4, 3) := by decide +kernel
theorem dL_tells_337 : decode cL_tells 337 = .ok (.iconst 3, 1) := by decide +kernel
theorem dL_tells_338 : decode cL_tells 338 = .ok (.irem, 1) := by decide +kernel
theorem dL_tells_339 : decode cL_tells 339 = .ok (.iastore, 1) := by decide +kernel
theorem dL_tells_340 : decode cL_tells 340 = .ok (.aload 7, 2) := by decide +kernel
theorem dL_tells_342 : decode cL_tells 342 = .ok (.bipush 7, 2) := by decide +kernel
theorem dL_tells_344 : decode cL_tells 344 = .ok (.aload 10, 2) := by decide +kernel
theorem dL_tells_346 : decode cL_tells 346 = .ok (.iconst 1, 1) := by decide +kernel
theorem dL_tells_347 : decode cL_tells 347 = .ok (.iaload, 1) := by decide +kernel
theorem dL_tells_348 : decode cL_tells 348 = .ok (.imul, 1) := by decide +kernel
theorem dL_tells_349 : decode cL_tells 349 = .ok (.iconst 1, 1) := by decide +kernel
theorem dL_tells_350 : decode cL_tells 350 = .ok (.iadd, 1) := by decide +kernel
theorem dL_tells_351 : decode cL_tells 351 = .ok (.iload 12, 2) := by decide +kernel
theorem dL_tells_353 : decode cL_tells 353 = .ok (.iastore, 1) := by decide +kernel
theorem dL_tells_354 : decode cL_tells 354 = .ok (.aload 10, 2) := by decide +kernel
theorem dL_tells_356 : decode cL_tells 356 = .ok (.iconst 1, 1) := by decide +kernel
theorem dL_tells_357 : decode cL_tells 357 = .ok (.dup2, 1) := by decide +kernel
theorem dL_tells_358 : decode cL_tells 358 = .ok (.iaload, 1) := by decide +kernel
theorem dL_tells_359 : decode cL_tells 359 = .ok (.iconst 1, 1) := by decide +kernel
theorem dL_tells_360 : decode cL_tells 360 = .ok (.iadd, 1) := by decide +kernel
theorem dL_tells_361 : decode cL_tells 361 = .ok (.iastore, 1) := by decide +kernel
theorem dL_tells_362 : decode cL_tells 362 = .ok (.aload_n 0, 1) := by decide +kernel
theorem dL_tells_363 : decode cL_tells 363 = .ok (.aload 7, 2) := by decide +kernel
theorem dL_tells_365 : decode cL_tells 365 = .ok (.bipush 7, 2) := by decide +kernel
theorem dL_tells_367 : decode cL_tells 367 = .ok (.aload 10, 2) := by decide +kernel
theorem dL_tells_369 : decode cL_tells 369 = .ok (.iconst 1, 1) := by decide +kernel
theorem dL_tells_370 : decode cL_tells 370 = .ok (.iaload, 1) := by decide +kernel
theorem dL_tells_371 : decode cL_tells 371 = .ok (.imul, 1) := by decide +kernel
theorem dL_tells_372 : decode cL_tells 372 = .ok (.bipush 7, 2) := by decide +kernel
theorem dL_tells_374 : decode cL_tells 374 = .ok (.isub, 1) := by decide +kernel
theorem dL_tells_375 : decode cL_tells 375 = .ok (.iaload, 1) := by decide +kernel
theorem dL_tells_376 : decode cL_tells 376 = .ok (.iload 12, 2) := by decide +kernel
theorem dL_tells_378 : decode cL_tells 378 = .ok (.iconst 1, 1) := by decide +kernel
theorem dL_tells_379 : decode cL_tells 379 = .ok (.if_icmp .ne 7, 3) := by decide +kernel
theorem dL_tells_382 : decode cL_tells 382 = .ok (.iconst 1, 1) := by decide +kernel
theorem dL_tells_383 : decode cL_tells 383 = .ok (.goto 4, 3) := by decide +kernel
theorem dL_tells_386 : decode cL_tells 386 = .ok (.iconst 0, 1) := by decide +kernel
theorem dL_tells_387 : decode cL_tells 387 = .ok (.invokevirtual 128, 3) := by decide +kernel
theorem dL_tells_390 : decode cL_tells 390 = .ok (.aload 10, 2) := by decide +kernel
theorem dL_tells_392 : decode cL_tells 392 = .ok (.iconst 1, 1) := by decide +kernel
theorem dL_tells_393 : decode cL_tells 393 = .ok (.iaload, 1) := by decide +kernel
theorem dL_tells_394 : decode cL_tells 394 = .ok (.iconst 1, 1) := by decide +kernel
theorem dL_tells_395 : decode cL_tells 395 = .ok (.isub, 1) := by decide +kernel
theorem dL_tells_396 : decode cL_tells 396 = .ok (.if_icmp .ne 7, 3) := by decide +kernel
theorem dL_tells_399 : decode cL_tells 399 = .ok (.iconst 1, 1) := by decide +kernel
theorem dL_tells_400 : decode cL_tells 400 = .ok (.goto 4, 3) := by decide +kernel
theorem dL_tells_403 : decode cL_tells 403 = .ok (.iconst 0, 1) := by decide +kernel
theorem dL_tells_404 : decode cL_tells 404 = .ok (.ireturn, 1) := by decide +kernel
theorem dL_tells_405 : decode cL_tells 405 = .ok (.iload_n 1, 1) := by decide +kernel
theorem dL_tells_406 : decode cL_tells 406 = .ok (.iconst 4, 1) := by decide +kernel
theorem dL_tells_407 : decode cL_tells 407 = .ok (.if_icmp .ne 126, 3) := by decide +kernel
theorem dL_tells_410 : decode cL_tells 410 = .ok (.aload 10, 2) := by decide +kernel
theorem dL_tells_412 : decode cL_tells 412 = .ok (.iconst 1, 1) := by decide +kernel
theorem dL_tells_413 : decode cL_tells 413 = .ok (.iaload, 1) := by decide +kernel
theorem dL_tells_414 : decode cL_tells 414 = .ok (.ifCond .ne 5, 3) := by decide +kernel
theorem dL_tells_417 : decode cL_tells 417 = .ok (.iconst 1, 1) := by decide +kernel
theorem dL_tells_418 : decode cL_tells 418 = .ok (.ireturn, 1) := by decide +kernel
theorem dL_tells_419 : decode cL_tells 419 = .ok (.iload_n 2, 1) := by decide +kernel
theorem dL_tells_420 : decode cL_tells 420 = .ok (.iconst 3, 1) := by decide +kernel
theorem dL_tells_421 : decode cL_tells 421 = .ok (.ishr, 1) := by decide +kernel
theorem dL_tells_422 : decode cL_tells 422 = .ok (.aload 10, 2) := by decide +kernel
theorem dL_tells_424 : decode cL_tells 424 = .ok (.iconst 1, 1) := by decide +kernel
theorem dL_tells_425 : decode cL_tells 425 = .ok (.iaload, 1) := by decide +kernel
theorem dL_tells_426 : decode cL_tells 426 = .ok (.invokestatic 114, 3) := by decide +kernel
theorem dL_tells_429 : decode cL_tells 429 = .ok (.istore 12, 2) := by decide +kernel
theorem dL_tells_431 : decode cL_tells 431 = .ok (.aload 7, 2) := by decide +kernel
theorem dL_tells_433 : decode cL_tells 433 = .ok (.bipush 7, 2) := by decide +kernel
theorem dL_tells_435 : decode cL_tells 435 = .ok (.iload 12, 2) := by decide +kernel
theorem dL_tells_437 : decode cL_tells 437 = .ok (.imul, 1) := by decide +kernel
theorem dL_tells_438 : decode cL_tells 438 = .ok (.iconst 2, 1) := by decide +kernel
theorem dL_tells_439 : decode cL_tells 439 = .ok (.iadd, 1) := by decide +kernel
theorem dL_tells_440 : decode cL_tells 440 = .ok (.iaload, 1) := by decide +kernel
theorem dL_tells_441 : decode cL_tells 441 = .ok (.istore 13, 2) := by decide +kernel
theorem dL_tells_443 : decode cL_tells 443 = .ok (.aload 7, 2) := by decide +kernel
theorem dL_tells_445 : decode cL_tells 445 = .ok (.bipush 7, 2) := by decide +kernel
theorem dL_tells_447 : decode cL_tells 447 = .ok (.iload 12, 2) := by decide +kernel
theorem dL_tells_449 : decode cL_tells 449 = .ok (.imul, 1) := by decide +kernel
theorem dL_tells_450 : decode cL_tells 450 = .ok (.iconst 2, 1) := by decide +kernel
theorem dL_tells_451 : decode cL_tells 451 = .ok (.iadd, 1) := by decide +kernel
theorem dL_tells_452 : decode cL_tells 452 = .ok (.aload 7, 2) := by decide +kernel
theorem dL_tells_454 : decode cL_tells 454 = .ok (.bipush 7, 2) := by decide +kernel
theorem dL_tells_456 : decode cL_tells 456 = .ok (.iload 12, 2) := by decide +kernel
theorem dL_tells_458 : decode cL_tells 458 = .ok (.imul, 1) := by decide +kernel
theorem dL_tells_459 : decode cL_tells 459 = .ok (.iconst 1, 1) := by decide +kernel
theorem dL_tells_460 : decode cL_tells 460 = .ok (.iadd, 1) := by decide +kernel
theorem dL_tells_461 : decode cL_tells 461 = .ok (.iaload, 1) := by decide +kernel
theorem dL_tells_462 : decode cL_tells 462 = .ok (.iconst 1, 1) := by decide +kernel
theorem dL_tells_463 : decode cL_tells 463 = .ok (.if_icmp .ne 15, 3) := by decide +kernel
theorem dL_tells_466 : decode cL_tells 466 = .ok (.iload_n 2, 1) := by decide +kernel
theorem dL_tells_467 : decode cL_tells 467 = .ok (.bipush 6, 2) := by decide +kernel
theorem dL_tells_469 : decode cL_tells 469 = .ok (.ishr, 1) := by decide +kernel
theorem dL_tells_470 : decode cL_tells 470 = .ok (.bipush 11, 2) := by decide +kernel
theorem dL_tells_472 : decode cL_tells 472 = .ok (.invokestatic 114, 3) := by decide +kernel
theorem dL_tells_475 : decode cL_tells 475 = .ok (.goto 30, 3) := by decide +kernel
theorem dL_tells_478 : decode cL_tells 478 = .ok (.iload_n 2, 1) := by decide +kernel
theorem dL_tells_479 : decode cL_tells 479 = .ok (.bipush 6, 2) := by decide +kernel
theorem dL_tells_481 : decode cL_tells 481 = .ok (.ishr, 1) := by decide +kernel
theorem dL_tells_482 : decode cL_tells 482 = .ok (.iconst 4, 1) := by decide +kernel
theorem dL_tells_483 : decode cL_tells 483 = .ok (.invokestatic 114, 3) := by decide +kernel
theorem dL_tells_486 : decode cL_tells 486 = .ok (.ifCond .ne 9, 3) := by decide +kernel
theorem dL_tells_489 : decode cL_tells 489 = .ok (.sipush 1000, 3) := by decide +kernel
theorem dL_tells_492 : decode cL_tells 492 = .ok (.goto 13, 3) := by decide +kernel
theorem dL_tells_495 : decode cL_tells 495 = .ok (.iload_n 2, 1) := by decide +kernel
theorem dL_tells_496 : decode cL_tells 496 = .ok (.bipush 6, 2) := by decide +kernel
theorem dL_tells_498 : decode cL_tells 498 = .ok (.ishr, 1) := by decide +kernel
theorem dL_tells_499 : decode cL_tells 499 = .ok (.sipush 1001, 3) := by decide +kernel
theorem dL_tells_502 : decode cL_tells 502 = .ok (.invokestatic 114, 3) := by decide +kernel
theorem dL_tells_505 : decode cL_tells 505 = .ok (.iastore, 1) := by decide +kernel
theorem dL_tells_506 : decode cL_tells 506 = .ok (.aload_n 0, 1) := by decide +kernel
theorem dL_tells_507 : decode cL_tells 507 = .ok (.iload 12, 2) := by decide +kernel
theorem dL_tells_509 : decode cL_tells 509 = .ok (.aload 7, 2) := by decide +kernel
theorem dL_tells_511 : decode cL_tells 511 = .ok (.bipush 7, 2) := by decide +kernel
theorem dL_tells_513 : decode cL_tells 513 = .ok (.iload 12, 2) := by decide +kernel
theorem dL_tells_515 : decode cL_tells 515 = .ok (.imul, 1) := by decide +kernel
theorem dL_tells_516 : decode cL_tells 516 = .ok (.iconst 2, 1) := by decide +kernel
theorem dL_tells_517 : decode cL_tells 517 = .ok (.iadd, 1) := by decide +kernel
theorem dL_tells_518 : decode cL_tells 518 = .ok (.iaload, 1) := by decide +kernel
theorem dL_tells_519 : decode cL_tells 519 = .ok (.invokevirtual 132, 3) := by decide +kernel
theorem dL_tells_522 : decode cL_tells 522 = .ok (.iload 13, 2) := by decide +kernel
theorem dL_tells_524 : decode cL_tells 524 = .ok (.if_icmp .ne 7, 3) := by decide +kernel
theorem dL_tells_527 : decode cL_tells 527 = .ok (.iconst 1, 1) := by decide +kernel
theorem dL_tells_528 : decode cL_tells 528 = .ok (.goto 4, 3) := by decide +kernel
theorem dL_tells_531 : decode cL_tells 531 = .ok (.iconst 0, 1) := by decide +kernel
theorem dL_tells_532 : decode cL_tells 532 = .ok (.ireturn, 1) := by decide +kernel
theorem dL_tells_533 : decode cL_tells 533 = .ok (.iload_n 1, 1) := by decide +kernel
theorem dL_tells_534 : decode cL_tells 534 = .ok (.iconst 5, 1) := by decide +kernel
theorem dL_tells_535 : decode cL_tells 535 = .ok (.if_icmp .ne 86, 3) := by decide +kernel
theorem dL_tells_538 : decode cL_tells 538 = .ok (.aload 10, 2) := by decide +kernel
theorem dL_tells_540 : decode cL_tells 540 = .ok (.iconst 1, 1) := by decide +kernel
theorem dL_tells_541 : decode cL_tells 541 = .ok (.iaload, 1) := by decide +kernel
theorem dL_tells_542 : decode cL_tells 542 = .ok (.ifCond .eq 25, 3) := by decide +kernel
theorem dL_tells_545 : decode cL_tells 545 = .ok (.aload 7, 2) := by decide +kernel
theorem dL_tells_547 : decode cL_tells 547 = .ok (.bipush 7, 2) := by decide +kernel
theorem dL_tells_549 : decode cL_tells 549 = .ok (.iload_n 2, 1) := by decide +kernel
theorem dL_tells_550 : decode cL_tells 550 = .ok (.iconst 3, 1) := by decide +kernel
theorem dL_tells_551 : decode cL_tells 551 = .ok (.ishr, 1) := by decide +kernel
theorem dL_tells_552 : decode cL_tells 552 = .ok (.aload 10, 2) := by decide +kernel
theorem dL_tells_554 : decode cL_tells 554 = .ok (.iconst 1, 1) := by decide +kernel
theorem dL_tells_555 : decode cL_tells 555 = .ok (.iaload, 1) := by decide +kernel
theorem dL_tells_556 : decode cL_tells 556 = .ok (.invokestatic 114, 3) := by decide +kernel
theorem dL_tells_559 : decode cL_tells 559 = .ok (.imul, 1) := by decide +kernel
theorem dL_tells_560 : decode cL_tells 560 = .ok (.iconst 1, 1) := by decide +kernel
theorem dL_tells_561 : decode cL_tells 561 = .ok (.iadd, 1) := by decide +kernel
theorem dL_tells_562 : decode cL_tells 562 = .ok (.iaload, 1) := by decide +kernel
theorem dL_tells_563 : decode cL_tells 563 = .ok (.iconst 1, 1) := by decide +kernel
theorem dL_tells_564 : decode cL_tells 564 = .ok (.if_icmp .ne 5, 3) := by decide +kernel
theorem dL_tells_567 : decode cL_tells 567 = .ok (.iconst 1, 1) := by decide +kernel
theorem dL_tells_568 : decode cL_tells 568 = .ok (.ireturn, 1) := by decide +kernel
theorem dL_tells_569 : decode cL_tells 569 = .ok (.iload_n 2, 1) := by decide +kernel
theorem dL_tells_570 : decode cL_tells 570 = .ok (.iconst 3, 1) := by decide +kernel
theorem dL_tells_571 : decode cL_tells 571 = .ok (.ishr, 1) := by decide +kernel
theorem dL_tells_572 : decode cL_tells 572 = .ok (.aload 10, 2) := by decide +kernel
theorem dL_tells_574 : decode cL_tells 574 = .ok (.iconst 1, 1) := by decide +kernel
theorem dL_tells_575 : decode cL_tells 575 = .ok (.iaload, 1) := by decide +kernel
theorem dL_tells_576 : decode cL_tells 576 = .ok (.invokestatic 114, 3) := by decide +kernel
theorem dL_tells_579 : decode cL_tells 579 = .ok (.istore 12, 2) := by decide +kernel
theorem dL_tells_581 : decode cL_tells 581 = .ok (.aload 7, 2) := by decide +kernel
theorem dL_tells_583 : decode cL_tells 583 = .ok (.bipush 7, 2) := by decide +kernel
theorem dL_tells_585 : decode cL_tells 585 = .ok (.iload 12, 2) := by decide +kernel
theorem dL_tells_587 : decode cL_tells 587 = .ok (.imul, 1) := by decide +kernel
theorem dL_tells_588 : decode cL_tells 588 = .ok (.iconst 3, 1) := by decide +kernel
theorem dL_tells_589 : decode cL_tells 589 = .ok (.iadd, 1) := by decide +kernel
theorem dL_tells_590 : decode cL_tells 590 = .ok (.iaload, 1) := by decide +kernel
theorem dL_tells_591 : decode cL_tells 591 = .ok (.istore 13, 2) := by decide +kernel
theorem dL_tells_593 : decode cL_tells 593 = .ok (.aload 7, 2) := by decide +kernel
theorem dL_tells_595 : decode cL_tells 595 = .ok (.bipush 7, 2) := by decide +kernel
theorem dL_tells_597 : decode cL_tells 597 = .ok (.iload 12, 2) := by decide +kernel
theorem dL_tells_599 : decode cL_tells 599 = .ok (.imul, 1) := by decide +kernel
theorem dL_tells_600 : decode cL_tells 600 = .ok (.iconst 3, 1) := by decide +kernel
theorem dL_tells_601 : decode cL_tells 601 = .ok (.iadd, 1) := by decide +kernel
theorem dL_tells_602 : decode cL_tells 602 = .ok (.iconst 0, 1) := by decide +kernel
theorem dL_tells_603 : decode cL_tells 603 = .ok (.iastore, 1) := by decide +kernel
theorem dL_tells_604 : decode cL_tells 604 = .ok (.aload_n 0, 1) := by decide +kernel
theorem dL_tells_605 : decode cL_tells 605 = .ok (.iload 12, 2) := by decide +kernel
theorem dL_tells_607 : decode cL_tells 607 = .ok (.invokevirtual 135, 3) := by decide +kernel
theorem dL_tells_610 : decode cL_tells 610 = .ok (.iload 13, 2) := by decide +kernel
theorem dL_tells_612 : decode cL_tells 612 = .ok (.if_icmp .ne 7, 3) := by decide +kernel
theorem dL_tells_615 : decode cL_tells 615 = .ok (.iconst 1, 1) := by decide +kernel
theorem dL_tells_616 : decode cL_tells 616 = .ok (.goto 4, 3) := by decide +kernel
theorem dL_tells_619 : decode cL_tells 619 = .ok (.iconst 0, 1) := by decide +kernel
theorem dL_tells_620 : decode cL_tells 620 = .ok (.ireturn, 1) := by decide +kernel
theorem dL_tells_621 : decode cL_tells 621 = .ok (.iload_n 1, 1) := by decide +kernel
theorem dL_tells_622 : decode cL_tells 622 = .ok (.bipush 6, 2) := by decide +kernel
theorem dL_tells_624 : decode cL_tells 624 = .ok (.if_icmp .ne 100, 3) := by decide +kernel
theorem dL_tells_627 : decode cL_tells 627 = .ok (.aload 10, 2) := by decide +kernel
theorem dL_tells_629 : decode cL_tells 629 = .ok (.iconst 3, 1) := by decide +kernel
theorem dL_tells_630 : decode cL_tells 630 = .ok (.iaload, 1) := by decide +kernel
theorem dL_tells_631 : decode cL_tells 631 = .ok (.iconst 3, 1) := by decide +kernel
theorem dL_tells_632 : decode cL_tells 632 = .ok (.if_icmp .ne 5, 3) := by decide +kernel
theorem dL_tells_635 : decode cL_tells 635 = .ok (.iconst 1, 1) := by decide +kernel
theorem dL_tells_636 : decode cL_tells 636 = .ok (.ireturn, 1) := by decide +kernel
theorem dL_tells_637 : decode cL_tells 637 = .ok (.aload 9, 2) := by decide +kernel
theorem dL_tells_639 : decode cL_tells 639 = .ok (.iconst 2, 1) := by decide +kernel
theorem dL_tells_640 : decode cL_tells 640 = .ok (.aload 10, 2) := by decide +kernel
theorem dL_tells_642 : decode cL_tells 642 = .ok (.iconst 3, 1) := by decide +kernel
theorem dL_tells_643 : decode cL_tells 643 = .ok (.iaload, 1) := by decide +kernel
theorem dL_tells_644 : decode cL_tells 644 = .ok (.imul, 1) := by decide +kernel
theorem dL_tells_645 : decode cL_tells 645 = .ok (.iload_n 2, 1) := by decide +kernel
theorem dL_tells_646 : decode cL_tells 646 = .ok (.iconst 3, 1) := by decide +kernel
theorem dL_tells_647 : decode cL_tells 647 = .ok (.ishr, 1) := by decide +kernel
theorem dL_tells_648 : decode cL_tells 648 = .ok (.bipush 101, 2) := by decide +kernel
theorem dL_tells_650 : decode cL_tells 650 = .ok (.invokestatic 114, 3) := by decide +kernel
theorem dL_tells_653 : decode cL_tells 653 = .ok (.iastore, 1) := by decide +kernel
theorem dL_tells_654 : decode cL_tells 654 = .ok (.aload 9, 2) := by decide +kernel
theorem dL_tells_656 : decode cL_tells 656 = .ok (.iconst 2, 1) := by decide +kernel
theorem dL_tells_657 : decode cL_tells 657 = .ok (.aload 10, 2) := by decide +kernel
theorem dL_tells_659 : decode cL_tells 659 = .ok (.iconst 3, 1) := by decide +kernel
theorem dL_tells_660 : decode cL_tells 660 = .ok (.iaload, 1) := by decide +kernel
theorem dL_tells_661 : decode cL_tells 661 = .ok (.imul, 1) := by decide +kernel
theorem dL_tells_662 : decode cL_tells 662 = .ok (.iconst 1, 1) := by decide +kernel
theorem dL_tells_663 : decode cL_tells 663 = .ok (.iadd, 1) := by decide +kernel
theorem dL_tells_664 : decode cL_tells 664 = .ok (.iconst 1, 1) := by decide +kernel
theorem dL_tells_665 : decode cL_tells 665 = .ok (.iload_n 2, 1) := by decide +kernel
theorem dL_tells_666 : decode cL_tells 666 = .ok (.iconst 5, 1) := by decide +kernel
theorem dL_tells_667 : decode cL_tells 667 = .ok (.ishr, 1) := by decide +kernel
theorem dL_tells_668 : decode cL_tells 668 = .ok (.bipush 50, 2) := by decide +kernel
theorem dL_tells_670 : decode cL_tells 670 = .ok (.invokestatic 114, 3) := by decide +kernel
theorem dL_tells_673 : decode cL_tells 673 = .ok (.iadd, 1) := by decide +kernel
theorem dL_tells_674 : decode cL_tells 674 = .ok (.iastore, 1) := by decide +kernel
theorem dL_tells_675 : decode cL_tells 675 = .ok (.aload 10, 2) := by decide +kernel
theorem dL_tells_677 : decode cL_tells 677 = .ok (.iconst 3, 1) := by decide +kernel
theorem dL_tells_678 : decode cL_tells 678 = .ok (.dup2, 1) := by decide +kernel
theorem dL_tells_679 : decode cL_tells 679 = .ok (.iaload, 1) := by decide +kernel
theorem dL_tells_680 : decode cL_tells 680 = .ok (.iconst 1, 1) := by decide +kernel
theorem dL_tells_681 : decode cL_tells 681 = .ok (.iadd, 1) := by decide +kernel
theorem dL_tells_682 : decode cL_tells 682 = .ok (.iastore, 1) := by decide +kernel
theorem dL_tells_683 : decode cL_tells 683 = .ok (.aload_n 0, 1) := by decide +kernel
theorem dL_tells_684 : decode cL_tells 684 = .ok (.aload 9, 2) := by decide +kernel
theorem dL_tells_686 : decode cL_tells 686 = .ok (.iconst 2, 1) := by decide +kernel
theorem dL_tells_687 : decode cL_tells 687 = .ok (.aload 10, 2) := by decide +kernel
theorem dL_tells_689 : decode cL_tells 689 = .ok (.iconst 3, 1) := by decide +kernel
theorem dL_tells_690 : decode cL_tells 690 = .ok (.iaload, 1) := by decide +kernel
theorem dL_tells_691 : decode cL_tells 691 = .ok (.imul, 1) := by decide +kernel
theorem dL_tells_692 : decode cL_tells 692 = .ok (.iconst 2, 1) := by decide +kernel
theorem dL_tells_693 : decode cL_tells 693 = .ok (.isub, 1) := by decide +kernel
theorem dL_tells_694 : decode cL_tells 694 = .ok (.iaload, 1) := by decide +kernel
theorem dL_tells_695 : decode cL_tells 695 = .ok (.aload 9, 2) := by decide +kernel
theorem dL_tells_697 : decode cL_tells 697 = .ok (.iconst 2, 1) := by decide +kernel
theorem dL_tells_698 : decode cL_tells 698 = .ok (.aload 10, 2) := by decide +kernel
theorem dL_tells_700 : decode cL_tells 700 = .ok (.iconst 3, 1) := by decide +kernel
theorem dL_tells_701 : decode cL_tells 701 = .ok (.iaload, 1) := by decide +kernel
theorem dL_tells_702 : decode cL_tells 702 = .ok (.imul, 1) := by decide +kernel
theorem dL_tells_703 : decode cL_tells 703 = .ok (.iconst 1, 1) := by decide +kernel
theorem dL_tells_704 : decode cL_tells 704 = .ok (.isub, 1) := by decide +kernel
theorem dL_tells_705 : decode cL_tells 705 = .ok (.iaload, 1) := by decide +kernel
theorem dL_tells_706 : decode cL_tells 706 = .ok (.invokevirtual 138, 3) := by decide +kernel
theorem dL_tells_709 : decode cL_tells 709 = .ok (.aload 10, 2) := by decide +kernel
theorem dL_tells_711 : decode cL_tells 711 = .ok (.iconst 3, 1) := by decide +kernel
theorem dL_tells_712 : decode cL_tells 712 = .ok (.iaload, 1) := by decide +kernel
theorem dL_tells_713 : decode cL_tells 713 = .ok (.iconst 1, 1) := by decide +kernel
theorem dL_tells_714 : decode cL_tells 714 = .ok (.isub, 1) := by decide +kernel
theorem dL_tells_715 : decode cL_tells 715 = .ok (.if_icmp .ne 7, 3) := by decide +kernel
theorem dL_tells_718 : decode cL_tells 718 = .ok (.iconst 1, 1) := by decide +kernel
theorem dL_tells_719 : decode cL_tells 719 = .ok (.goto 4, 3) := by decide +kernel
theorem dL_tells_722 : decode cL_tells 722 = .ok (.iconst 0, 1) := by decide +kernel
theorem dL_tells_723 : decode cL_tells 723 = .ok (.ireturn, 1) := by decide +kernel
theorem dL_tells_724 : decode cL_tells 724 = .ok (.iload_n 1, 1) := by decide +kernel
theorem dL_tells_725 : decode cL_tells 725 = .ok (.bipush 7, 2) := by decide +kernel
theorem dL_tells_727 : decode cL_tells 727 = .ok (.if_icmp .ne 104, 3) := by decide +kernel
theorem dL_tells_730 : decode cL_tells 730 = .ok (.aload 10, 2) := by decide +kernel
theorem dL_tells_732 : decode cL_tells 732 = .ok (.iconst 2, 1) := by decide +kernel
theorem dL_tells_733 : decode cL_tells 733 = .ok (.iaload, 1) := by decide +kernel
theorem dL_tells_734 : decode cL_tells 734 = .ok (.iconst 3, 1) := by decide +kernel
theorem dL_tells_735 : decode cL_tells 735 = .ok (.if_icmp .ne 5, 3) := by decide +kernel
theorem dL_tells_738 : decode cL_tells 738 = .ok (.iconst 1, 1) := by decide +kernel
theorem dL_tells_739 : decode cL_tells 739 = .ok (.ireturn, 1) := by decide +kernel
theorem dL_tells_740 : decode cL_tells 740 = .ok (.iconst 5, 1) := by decide +kernel
theorem dL_tells_741 : decode cL_tells 741 = .ok (.aload 10, 2) := by decide +kernel
theorem dL_tells_743 : decode cL_tells 743 = .ok (.iconst 2, 1) := by decide +kernel
theorem dL_tells_744 : decode cL_tells 744 = .ok (.iaload, 1) := by decide +kernel
theorem dL_tells_745 : decode cL_tells 745 = .ok (.imul, 1) := by decide +kernel
theorem dL_tells_746 : decode cL_tells 746 = .ok (.istore 12, 2) := by decide +kernel
theorem dL_tells_748 : decode cL_tells 748 = .ok (.aload 8, 2) := by decide +kernel
theorem dL_tells_750 : decode cL_tells 750 = .ok (.iload 12, 2) := by decide +kernel
theorem dL_tells_752 : decode cL_tells 752 = .ok (.iload 11, 2) := by decide +kernel
theorem dL_tells_754 : decode cL_tells 754 = .ok (.iastore, 1) := by decide +kernel
theorem dL_tells_755 : decode cL_tells 755 = .ok (.aload 8, 2) := by decide +kernel
theorem dL_tells_757 : decode cL_tells 757 = .ok (.iload 12, 2) := by decide +kernel
theorem dL_tells_759 : decode cL_tells 759 = .ok (.iconst 1, 1) := by decide +kernel
theorem dL_tells_760 : decode cL_tells 760 = .ok (.iadd, 1) := by decide +kernel
theorem dL_tells_761 : decode cL_tells 761 = .ok (.iload_n 2, 1) := by decide +kernel
theorem dL_tells_762 : decode cL_tells 762 = .ok (.iconst 4, 1) := by decide +kernel
theorem dL_tells_763 : decode cL_tells 763 = .ok (.ishr, 1) := by decide +kernel
theorem dL_tells_764 : decode cL_tells 764 = .ok (.sipush 16000, 3) := by decide +kernel
theorem dL_tells_767 : decode cL_tells 767 = .ok (.invokestatic 114, 3) := by decide +kernel
theorem dL_tells_770 : decode cL_tells 770 = .ok (.iastore, 1) := by decide +kernel
theorem dL_tells_771 : decode cL_tells 771 = .ok (.aload 8, 2) := by decide +kernel
theorem dL_tells_773 : decode cL_tells 773 = .ok (.iload 12, 2) := by decide +kernel
theorem dL_tells_775 : decode cL_tells 775 = .ok (.iconst 2, 1) := by decide +kernel
theorem dL_tells_776 : decode cL_tells 776 = .ok (.iadd, 1) := by decide +kernel
theorem dL_tells_777 : decode cL_tells 777 = .ok (.iload_n 2, 1) := by decide +kernel
theorem dL_tells_778 : decode cL_tells 778 = .ok (.bipush 6, 2) := by decide +kernel
theorem dL_tells_780 : decode cL_tells 780 = .ok (.ishr, 1) := by decide +kernel
theorem dL_tells_781 : decode cL_tells 781 = .ok (.sipush 14000, 3) := by decide +kernel
theorem dL_tells_784 : decode cL_tells 784 = .ok (.invokestatic 114, 3) := by decide +kernel
theorem dL_tells_787 : decode cL_tells 787 = .ok (.iastore, 1) := by decide +kernel
theorem dL_tells_788 : decode cL_tells 788 = .ok (.aload 10, 2) := by decide +kernel
theorem dL_tells_790 : decode cL_tells 790 = .ok (.iconst 2, 1) := by decide +kernel
theorem dL_tells_791 : decode cL_tells 791 = .ok (.dup2, 1) := by decide +kernel
theorem dL_tells_792 : decode cL_tells 792 = .ok (.iaload, 1) := by decide +kernel
theorem dL_tells_793 : decode cL_tells 793 = .ok (.iconst 1, 1) := by decide +kernel
theorem dL_tells_794 : decode cL_tells 794 = .ok (.iadd, 1) := by decide +kernel
theorem dL_tells_795 : decode cL_tells 795 = .ok (.iastore, 1) := by decide +kernel
theorem dL_tells_796 : decode cL_tells 796 = .ok (.aload_n 0, 1) := by decide +kernel
theorem dL_tells_797 : decode cL_tells 797 = .ok (.iload 11, 2) := by decide +kernel
theorem dL_tells_799 : decode cL_tells 799 = .ok (.aload 8, 2) := by decide +kernel
theorem dL_tells_801 : decode cL_tells 801 = .ok (.iload 12, 2) := by decide +kernel
theorem dL_tells_803 : decode cL_tells 803 = .ok (.iconst 1, 1) := by decide +kernel
theorem dL_tells_804 : decode cL_tells 804 = .ok (.iadd, 1) := by decide +kernel
theorem dL_tells_805 : decode cL_tells 805 = .ok (.iaload, 1) := by decide +kernel
theorem dL_tells_806 : decode cL_tells 806 = .ok (.aload 8, 2) := by decide +kernel
theorem dL_tells_808 : decode cL_tells 808 = .ok (.iload 12, 2) := by decide +kernel
theorem dL_tells_810 : decode cL_tells 810 = .ok (.iconst 2, 1) := by decide +kernel
theorem dL_tells_811 : decode cL_tells 811 = .ok (.iadd, 1) := by decide +kernel
theorem dL_tells_812 : decode cL_tells 812 = .ok (.iaload, 1) := by decide +kernel
theorem dL_tells_813 : decode cL_tells 813 = .ok (.invokevirtual 141, 3) := by decide +kernel
theorem dL_tells_816 : decode cL_tells 816 = .ok (.aload 10, 2) := by decide +kernel
theorem dL_tells_818 : decode cL_tells 818 = .ok (.iconst 2, 1) := by decide +kernel
theorem dL_tells_819 : decode cL_tells 819 = .ok (.iaload, 1) := by decide +kernel
theorem dL_tells_820 : decode cL_tells 820 = .ok (.iconst 1, 1) := by decide +kernel
theorem dL_tells_821 : decode cL_tells 821 = .ok (.isub, 1) := by decide +kernel
theorem dL_tells_822 : decode cL_tells 822 = .ok (.if_icmp .ne 7, 3) := by decide +kernel
theorem dL_tells_825 : decode cL_tells 825 = .ok (.iconst 1, 1) := by decide +kernel
theorem dL_tells_826 : decode cL_tells 826 = .ok (.goto 4, 3) := by decide +kernel
theorem dL_tells_829 : decode cL_tells 829 = .ok (.iconst 0, 1) := by decide +kernel
theorem dL_tells_830 : decode cL_tells 830 = .ok (.ireturn, 1) := by decide +kernel
theorem dL_tells_831 : decode cL_tells 831 = .ok (.iload_n 1, 1) := by decide +kernel
theorem dL_tells_832 : decode cL_tells 832 = .ok (.bipush 8, 2) := by decide +kernel
theorem dL_tells_834 : decode cL_tells 834 = .ok (.if_icmp .ne 79, 3) := by decide +kernel
theorem dL_tells_837 : decode cL_tells 837 = .ok (.aload 10, 2) := by decide +kernel
theorem dL_tells_839 : decode cL_tells 839 = .ok (.iconst 2, 1) := by decide +kernel
theorem dL_tells_840 : decode cL_tells 840 = .ok (.iaload, 1) := by decide +kernel
theorem dL_tells_841 : decode cL_tells 841 = .ok (.ifCond .ne 5, 3) := by decide +kernel
theorem dL_tells_844 : decode cL_tells 844 = .ok (.iconst 1, 1) := by decide +kernel
theorem dL_tells_845 : decode cL_tells 845 = .ok (.ireturn, 1) := by decide +kernel
theorem dL_tells_846 : decode cL_tells 846 = .ok (.iload_n 2, 1) := by decide +kernel
theorem dL_tells_847 : decode cL_tells 847 = .ok (.iconst 3, 1) := by decide +kernel
theorem dL_tells_848 : decode cL_tells 848 = .ok (.ishr, 1) := by decide +kernel
theorem dL_tells_849 : decode cL_tells 849 = .ok (.aload 10, 2) := by decide +kernel
theorem dL_tells_851 : decode cL_tells 851 = .ok (.iconst 2, 1) := by decide +kernel
theorem dL_tells_852 : decode cL_tells 852 = .ok (.iaload, 1) := by decide +kernel
theorem dL_tells_853 : decode cL_tells 853 = .ok (.invokestatic 114, 3) := by decide +kernel
theorem dL_tells_856 : decode cL_tells 856 = .ok (.istore 12, 2) := by decide +kernel
theorem dL_tells_858 : decode cL_tells 858 = .ok (.aload 8, 2) := by decide +kernel
theorem dL_tells_860 : decode cL_tells 860 = .ok (.iconst 5, 1) := by decide +kernel
theorem dL_tells_861 : decode cL_tells 861 = .ok (.iload 12, 2) := by decide +kernel
theorem dL_tells_863 : decode cL_tells 863 = .ok (.imul, 1) := by decide +kernel
theorem dL_tells_864 : decode cL_tells 864 = .ok (.iconst 2, 1) := by decide +kernel
theorem dL_tells_865 : decode cL_tells 865 = .ok (.iadd, 1) := by decide +kernel
theorem dL_tells_866 : decode cL_tells 866 = .ok (.iaload, 1) := by decide +kernel
theorem dL_tells_867 : decode cL_tells 867 = .ok (.istore 13, 2) := by decide +kernel
theorem dL_tells_869 : decode cL_tells 869 = .ok (.aload 8, 2) := by decide +kernel
theorem dL_tells_871 : decode cL_tells 871 = .ok (.iconst 5, 1) := by decide +kernel
theorem dL_tells_872 : decode cL_tells 872 = .ok (.iload 12, 2) := by decide +kernel
theorem dL_tells_874 : decode cL_tells 874 = .ok (.imul, 1) := by decide +kernel
theorem dL_tells_875 : decode cL_tells 875 = .ok (.iconst 2, 1) := by decide +kernel
theorem dL_tells_876 : decode cL_tells 876 = .ok (.iadd, 1) := by decide +kernel
theorem dL_tells_877 : decode cL_tells 877 = .ok (.iload_n 2, 1) := by decide +kernel
theorem dL_tells_878 : decode cL_tells 878 = .ok (.iconst 5, 1) := by decide +kernel
theorem dL_tells_879 : decode cL_tells 879 = .ok (.ishr, 1) := by decide +kernel
theorem dL_tells_880 : decode cL_tells 880 = .ok (.sipush 14000, 3) := by decide +kernel
theorem dL_tells_883 : decode cL_tells 883 = .ok (.invokestatic 114, 3) := by decide +kernel
theorem dL_tells_886 : decode cL_tells 886 = .ok (.iastore, 1) := by decide +kernel
theorem dL_tells_887 : decode cL_tells 887 = .ok (.aload_n 0, 1) := by decide +kernel
theorem dL_tells_888 : decode cL_tells 888 = .ok (.iload 12, 2) := by decide +kernel
theorem dL_tells_890 : decode cL_tells 890 = .ok (.aload 8, 2) := by decide +kernel
theorem dL_tells_892 : decode cL_tells 892 = .ok (.iconst 5, 1) := by decide +kernel
theorem dL_tells_893 : decode cL_tells 893 = .ok (.iload 12, 2) := by decide +kernel
theorem dL_tells_895 : decode cL_tells 895 = .ok (.imul, 1) := by decide +kernel
theorem dL_tells_896 : decode cL_tells 896 = .ok (.iconst 2, 1) := by decide +kernel
theorem dL_tells_897 : decode cL_tells 897 = .ok (.iadd, 1) := by decide +kernel
theorem dL_tells_898 : decode cL_tells 898 = .ok (.iaload, 1) := by decide +kernel
theorem dL_tells_899 : decode cL_tells 899 = .ok (.invokevirtual 144, 3) := by decide +kernel
theorem dL_tells_902 : decode cL_tells 902 = .ok (.iload 13, 2) := by decide +kernel
theorem dL_tells_904 : decode cL_tells 904 = .ok (.if_icmp .ne 7, 3) := by decide +kernel
theorem dL_tells_907 : decode cL_tells 907 = .ok (.iconst 1, 1) := by decide +kernel
theorem dL_tells_908 : decode cL_tells 908 = .ok (.goto 4, 3) := by decide +kernel
theorem dL_tells_911 : decode cL_tells 911 = .ok (.iconst 0, 1) := by decide +kernel
theorem dL_tells_912 : decode cL_tells 912 = .ok (.ireturn, 1) := by decide +kernel
theorem dL_tells_913 : decode cL_tells 913 = .ok (.aload_n 3, 1) := by decide +kernel
theorem dL_tells_914 : decode cL_tells 914 = .ok (.iload 11, 2) := by decide +kernel
theorem dL_tells_916 : decode cL_tells 916 = .ok (.laload, 1) := by decide +kernel
theorem dL_tells_917 : decode cL_tells 917 = .ok (.lconst 0, 1) := by decide +kernel
theorem dL_tells_918 : decode cL_tells 918 = .ok (.lcmp, 1) := by decide +kernel
theorem dL_tells_919 : decode cL_tells 919 = .ok (.ifCond .ne 5, 3) := by decide +kernel
theorem dL_tells_922 : decode cL_tells 922 = .ok (.iconst 1, 1) := by decide +kernel
theorem dL_tells_923 : decode cL_tells 923 = .ok (.ireturn, 1) := by decide +kernel
theorem dL_tells_924 : decode cL_tells 924 = .ok (.iconst 1, 1) := by decide +kernel
theorem dL_tells_925 : decode cL_tells 925 = .ok (.iload_n 2, 1) := by decide +kernel
theorem dL_tells_926 : decode cL_tells 926 = .ok (.iconst 3, 1) := by decide +kernel
theorem dL_tells_927 : decode cL_tells 927 = .ok (.ishr, 1) := by decide +kernel
theorem dL_tells_928 : decode cL_tells 928 = .ok (.ldc 147, 2) := by decide +kernel
theorem dL_tells_930 : decode cL_tells 930 = .ok (.invokestatic 114, 3) := by decide +kernel
theorem dL_tells_933 : decode cL_tells 933 = .ok (.iadd, 1) := by decide +kernel
theorem dL_tells_934 : decode cL_tells 934 = .ok (.istore 12, 2) := by decide +kernel
theorem dL_tells_936 : decode cL_tells 936 = .ok (.aload 5, 2) := by decide +kernel
theorem dL_tells_938 : decode cL_tells 938 = .ok (.iload 11, 2) := by decide +kernel
theorem dL_tells_940 : decode cL_tells 940 = .ok (.dup2, 1) := by decide +kernel
theorem dL_tells_941 : decode cL_tells 941 = .ok (.laload, 1) := by decide +kernel
theorem dL_tells_942 : decode cL_tells 942 = .ok (.iload 12, 2) := by decide +kernel
theorem dL_tells_944 : decode cL_tells 944 = .ok (.i2l, 1) := by decide +kernel
theorem dL_tells_945 : decode cL_tells 945 = .ok (.ladd, 1) := by decide +kernel
theorem dL_tells_946 : decode cL_tells 946 = .ok (.lastore, 1) := by decide +kernel
theorem dL_tells_947 : decode cL_tells 947 = .ok (.aload_n 0, 1) := by decide +kernel
theorem dL_tells_948 : decode cL_tells 948 = .ok (.iload 11, 2) := by decide +kernel
theorem dL_tells_950 : decode cL_tells 950 = .ok (.iload 12, 2) := by decide +kernel
theorem dL_tells_952 : decode cL_tells 952 = .ok (.invokevirtual 148, 3) := by decide +kernel
theorem dL_tells_955 : decode cL_tells 955 = .ok (.aload 5, 2) := by decide +kernel
theorem dL_tells_957 : decode cL_tells 957 = .ok (.iload 11, 2) := by decide +kernel
theorem dL_tells_959 : decode cL_tells 959 = .ok (.laload, 1) := by decide +kernel
theorem dL_tells_960 : decode cL_tells 960 = .ok (.lcmp, 1) := by decide +kernel
theorem dL_tells_961 : decode cL_tells 961 = .ok (.ifCond .ne 7, 3) := by decide +kernel
theorem dL_tells_964 : decode cL_tells 964 = .ok (.iconst 1, 1) := by decide +kernel
theorem dL_tells_965 : decode cL_tells 965 = .ok (.goto 4, 3) := by decide +kernel
theorem dL_tells_968 : decode cL_tells 968 = .ok (.iconst 0, 1) := by decide +kernel
theorem dL_tells_969 : decode cL_tells 969 = .ok (.ireturn, 1) := by decide +kernel
theorem dL_law_0 : decode cL_law 0 = .ok (.new 81, 3) := by decide +kernel
theorem dL_law_3 : decode cL_law 3 = .ok (.dup, 1) := by decide +kernel
theorem dL_law_4 : decode cL_law 4 = .ok (.invokespecial 151, 3) := by decide +kernel
theorem dL_law_7 : decode cL_law 7 = .ok (.astore_n 1, 1) := by decide +kernel
theorem dL_law_8 : decode cL_law 8 = .ok (.bipush 12, 2) := by decide +kernel
theorem dL_law_10 : decode cL_law 10 = .ok (.newarray .long, 2) := by decide +kernel
theorem dL_law_12 : decode cL_law 12 = .ok (.astore_n 2, 1) := by decide +kernel
theorem dL_law_13 : decode cL_law 13 = .ok (.bipush 12, 2) := by decide +kernel
theorem dL_law_15 : decode cL_law 15 = .ok (.newarray .long, 2) := by decide +kernel
theorem dL_law_17 : decode cL_law 17 = .ok (.astore_n 3, 1) := by decide +kernel
theorem dL_law_18 : decode cL_law 18 = .ok (.bipush 12, 2) := by decide +kernel
theorem dL_law_20 : decode cL_law 20 = .ok (.newarray .long, 2) := by decide +kernel
theorem dL_law_22 : decode cL_law 22 = .ok (.astore 4, 2) := by decide +kernel
theorem dL_law_24 : decode cL_law 24 = .ok (.bipush 12, 2) := by decide +kernel
theorem dL_law_26 : decode cL_law 26 = .ok (.newarray .long, 2) := by decide +kernel
theorem dL_law_28 : decode cL_law 28 = .ok (.astore 5, 2) := by decide +kernel
theorem dL_law_30 : decode cL_law 30 = .ok (.bipush 24, 2) := by decide +kernel
theorem dL_law_32 : decode cL_law 32 = .ok (.newarray .int, 2) := by decide +kernel
theorem dL_law_34 : decode cL_law 34 = .ok (.astore 6, 2) := by decide +kernel
theorem dL_law_36 : decode cL_law 36 = .ok (.bipush 56, 2) := by decide +kernel
theorem dL_law_38 : decode cL_law 38 = .ok (.newarray .int, 2) := by decide +kernel
theorem dL_law_40 : decode cL_law 40 = .ok (.astore 7, 2) := by decide +kernel
theorem dL_law_42 : decode cL_law 42 = .ok (.bipush 8, 2) := by decide +kernel
theorem dL_law_44 : decode cL_law 44 = .ok (.newarray .long, 2) := by decide +kernel
theorem dL_law_46 : decode cL_law 46 = .ok (.astore 8, 2) := by decide +kernel
theorem dL_law_48 : decode cL_law 48 = .ok (.bipush 15, 2) := by decide +kernel
theorem dL_law_50 : decode cL_law 50 = .ok (.newarray .int, 2) := by decide +kernel
theorem dL_law_52 : decode cL_law 52 = .ok (.astore 9, 2) := by decide +kernel
theorem dL_law_54 : decode cL_law 54 = .ok (.bipush 24, 2) := by decide +kernel
theorem dL_law_56 : decode cL_law 56 = .ok (.newarray .long, 2) := by decide +kernel
theorem dL_law_58 : decode cL_law 58 = .ok (.astore 10, 2) := by decide +kernel
theorem dL_law_60 : decode cL_law 60 = .ok (.bipush 6, 2) := by decide +kernel
theorem dL_law_62 : decode cL_law 62 = .ok (.newarray .int, 2) := by decide +kernel
theorem dL_law_64 : decode cL_law 64 = .ok (.astore 11, 2) := by decide +kernel
theorem dL_law_66 : decode cL_law 66 = .ok (.bipush 8, 2) := by decide +kernel
theorem dL_law_68 : decode cL_law 68 = .ok (.newarray .long, 2) := by decide +kernel
theorem dL_law_70 : decode cL_law 70 = .ok (.astore 12, 2) := by decide +kernel
theorem dL_law_72 : decode cL_law 72 = .ok (.bipush 60, 2) := by decide +kernel
theorem dL_law_74 : decode cL_law 74 = .ok (.newarray .int, 2) := by decide +kernel
theorem dL_law_76 : decode cL_law 76 = .ok (.astore 13, 2) := by decide +kernel
theorem dL_law_78 : decode cL_law 78 = .ok (.bipush 6, 2) := by decide +kernel
theorem dL_law_80 : decode cL_law 80 = .ok (.newarray .int, 2) := by decide +kernel
theorem dL_law_82 : decode cL_law 82 = .ok (.astore 14, 2) := by decide +kernel
theorem dL_law_84 : decode cL_law 84 = .ok (.iconst 0, 1) := by decide +kernel
theorem dL_law_85 : decode cL_law 85 = .ok (.istore 15, 2) := by decide +kernel
theorem dL_law_87 : decode cL_law 87 = .ok (.iload 15, 2) := by decide +kernel
theorem dL_law_89 : decode cL_law 89 = .ok (.bipush 12, 2) := by decide +kernel
theorem dL_law_91 : decode cL_law 91 = .ok (.if_icmp .ge 43, 3) := by decide +kernel
theorem dL_law_94 : decode cL_law 94 = .ok (.aload_n 2, 1) := by decide +kernel
theorem dL_law_95 : decode cL_law 95 = .ok (.iload 15, 2) := by decide +kernel
theorem dL_law_97 : decode cL_law 97 = .ok (.ldc2_w 152, 3) := by decide +kernel
theorem dL_law_100 : decode cL_law 100 = .ok (.lastore, 1) := by decide +kernel
theorem dL_law_101 : decode cL_law 101 = .ok (.aload_n 3, 1) := by decide +kernel
theorem dL_law_102 : decode cL_law 102 = .ok (.iload 15, 2) := by decide +kernel
theorem dL_law_104 : decode cL_law 104 = .ok (.ldc2_w 154, 3) := by decide +kernel
theorem dL_law_107 : decode cL_law 107 = .ok (.lastore, 1) := by decide +kernel
theorem dL_law_108 : decode cL_law 108 = .ok (.aload 6, 2) := by decide +kernel
theorem dL_law_110 : decode cL_law 110 = .ok (.iconst 2, 1) := by decide +kernel
theorem dL_law_111 : decode cL_law 111 = .ok (.iload 15, 2) := by decide +kernel
theorem dL_law_113 : decode cL_law 113 = .ok (.imul, 1) := by decide +kernel
theorem dL_law_114 : decode cL_law 114 = .ok (.bipush 20, 2) := by decide +kernel
theorem dL_law_116 : decode cL_law 116 = .ok (.iastore, 1) := by decide +kernel
theorem dL_law_117 : decode cL_law 117 = .ok (.aload 6, 2) := by decide +kernel
theorem dL_law_119 : decode cL_law 119 = .ok (.iconst 2, 1) := by decide +kernel
theorem dL_law_120 : decode cL_law 120 = .ok (.iload 15, 2) := by decide +kernel
theorem dL_law_122 : decode cL_law 122 = .ok (.imul, 1) := by decide +kernel
theorem dL_law_123 : decode cL_law 123 = .ok (.iconst 1, 1) := by decide +kernel
