theorem d_La_law_452 : decode code 452 = .ok (.iaload, 1) := by decide +kernel
theorem d_La_law_453 : decode code 453 = .ok (.aload_n 0, 1) := by decide +kernel
theorem d_La_law_454 : decode code 454 = .ok (.iload 4, 2) := by decide +kernel
theorem d_La_law_456 : decode code 456 = .ok (.iconst 2, 1) := by decide +kernel
theorem d_La_law_457 : decode code 457 = .ok (.iadd, 1) := by decide +kernel
theorem d_La_law_458 : decode code 458 = .ok (.iaload, 1) := by decide +kernel
theorem d_La_law_459 : decode code 459 = .ok (.invokevirtual 82, 3) := by decide +kernel
theorem d_La_law_462 : decode code 462 = .ok (.istore 6, 2) := by decide +kernel
theorem d_La_law_464 : decode code 464 = .ok (.aload_n 2, 1) := by decide +kernel
theorem d_La_law_465 : decode code 465 = .ok (.invokevirtual 60, 3) := by decide +kernel
theorem d_La_law_468 : decode code 468 = .ok (.iload 5, 2) := by decide +kernel
theorem d_La_law_470 : decode code 470 = .ok (.if_icmp .eq 5, 3) := by decide +kernel
theorem d_La_law_473 : decode code 473 = .ok (.iconst 0, 1) := by decide +kernel
theorem d_La_law_474 : decode code 474 = .ok (.ireturn, 1) := by decide +kernel
theorem d_La_law_475 : decode code 475 = .ok (.iload 5, 2) := by decide +kernel
theorem d_La_law_477 : decode code 477 = .ok (.ifCond .ne 15, 3) := by decide +kernel
theorem d_La_law_480 : decode code 480 = .ok (.aload_n 3, 1) := by decide +kernel
theorem d_La_law_481 : decode code 481 = .ok (.iconst 0, 1) := by decide +kernel
theorem d_La_law_482 : decode code 482 = .ok (.laload, 1) := by decide +kernel
theorem d_La_law_483 : decode code 483 = .ok (.iload 6, 2) := by decide +kernel
theorem d_La_law_485 : decode code 485 = .ok (.i2l, 1) := by decide +kernel
theorem d_La_law_486 : decode code 486 = .ok (.lcmp, 1) := by decide +kernel
theorem d_La_law_487 : decode code 487 = .ok (.ifCond .eq 5, 3) := by decide +kernel
theorem d_La_law_490 : decode code 490 = .ok (.iconst 0, 1) := by decide +kernel
theorem d_La_law_491 : decode code 491 = .ok (.ireturn, 1) := by decide +kernel
theorem d_La_law_492 : decode code 492 = .ok (.goto 207, 3) := by decide +kernel
theorem d_La_law_495 : decode code 495 = .ok (.aload_n 1, 1) := by decide +kernel
theorem d_La_law_496 : decode code 496 = .ok (.aload_n 0, 1) := by decide +kernel
theorem d_La_law_497 : decode code 497 = .ok (.iload 4, 2) := by decide +kernel
theorem d_La_law_499 : decode code 499 = .ok (.iconst 1, 1) := by decide +kernel
theorem d_La_law_500 : decode code 500 = .ok (.iadd, 1) := by decide +kernel
theorem d_La_law_501 : decode code 501 = .ok (.iaload, 1) := by decide +kernel
theorem d_La_law_502 : decode code 502 = .ok (.aload_n 0, 1) := by decide +kernel
theorem d_La_law_503 : decode code 503 = .ok (.iload 4, 2) := by decide +kernel
theorem d_La_law_505 : decode code 505 = .ok (.iconst 2, 1) := by decide +kernel
theorem d_La_law_506 : decode code 506 = .ok (.iadd, 1) := by decide +kernel
theorem d_La_law_507 : decode code 507 = .ok (.iaload, 1) := by decide +kernel
theorem d_La_law_508 : decode code 508 = .ok (.aload_n 3, 1) := by decide +kernel
theorem d_La_law_509 : decode code 509 = .ok (.invokestatic 83, 3) := by decide +kernel
theorem d_La_law_512 : decode code 512 = .ok (.istore 5, 2) := by decide +kernel
theorem d_La_law_514 : decode code 514 = .ok (.aload_n 2, 1) := by decide +kernel
theorem d_La_law_515 : decode code 515 = .ok (.aload_n 0, 1) := by decide +kernel
theorem d_La_law_516 : decode code 516 = .ok (.iload 4, 2) := by decide +kernel
theorem d_La_law_518 : decode code 518 = .ok (.iconst 1, 1) := by decide +kernel
theorem d_La_law_519 : decode code 519 = .ok (.iadd, 1) := by decide +kernel
theorem d_La_law_520 : decode code 520 = .ok (.iaload, 1) := by decide +kernel
theorem d_La_law_521 : decode code 521 = .ok (.aload_n 0, 1) := by decide +kernel
theorem d_La_law_522 : decode code 522 = .ok (.iload 4, 2) := by decide +kernel
theorem d_La_law_524 : decode code 524 = .ok (.iconst 2, 1) := by decide +kernel
theorem d_La_law_525 : decode code 525 = .ok (.iadd, 1) := by decide +kernel
theorem d_La_law_526 : decode code 526 = .ok (.iaload, 1) := by decide +kernel
theorem d_La_law_527 : decode code 527 = .ok (.invokevirtual 85, 3) := by decide +kernel
theorem d_La_law_530 : decode code 530 = .ok (.istore 6, 2) := by decide +kernel
theorem d_La_law_532 : decode code 532 = .ok (.aload_n 2, 1) := by decide +kernel
theorem d_La_law_533 : decode code 533 = .ok (.invokevirtual 60, 3) := by decide +kernel
theorem d_La_law_536 : decode code 536 = .ok (.iload 5, 2) := by decide +kernel
theorem d_La_law_538 : decode code 538 = .ok (.if_icmp .eq 5, 3) := by decide +kernel
theorem d_La_law_541 : decode code 541 = .ok (.iconst 0, 1) := by decide +kernel
theorem d_La_law_542 : decode code 542 = .ok (.ireturn, 1) := by decide +kernel
theorem d_La_law_543 : decode code 543 = .ok (.iload 5, 2) := by decide +kernel
theorem d_La_law_545 : decode code 545 = .ok (.ifCond .ne 15, 3) := by decide +kernel
theorem d_La_law_548 : decode code 548 = .ok (.aload_n 3, 1) := by decide +kernel
theorem d_La_law_549 : decode code 549 = .ok (.iconst 0, 1) := by decide +kernel
theorem d_La_law_550 : decode code 550 = .ok (.laload, 1) := by decide +kernel
theorem d_La_law_551 : decode code 551 = .ok (.iload 6, 2) := by decide +kernel
theorem d_La_law_553 : decode code 553 = .ok (.i2l, 1) := by decide +kernel
theorem d_La_law_554 : decode code 554 = .ok (.lcmp, 1) := by decide +kernel
theorem d_La_law_555 : decode code 555 = .ok (.ifCond .eq 5, 3) := by decide +kernel
theorem d_La_law_558 : decode code 558 = .ok (.iconst 0, 1) := by decide +kernel
theorem d_La_law_559 : decode code 559 = .ok (.ireturn, 1) := by decide +kernel
theorem d_La_law_560 : decode code 560 = .ok (.goto 139, 3) := by decide +kernel
theorem d_La_law_563 : decode code 563 = .ok (.aload_n 1, 1) := by decide +kernel
theorem d_La_law_564 : decode code 564 = .ok (.aload_n 0, 1) := by decide +kernel
theorem d_La_law_565 : decode code 565 = .ok (.iload 4, 2) := by decide +kernel
theorem d_La_law_567 : decode code 567 = .ok (.iconst 1, 1) := by decide +kernel
theorem d_La_law_568 : decode code 568 = .ok (.iadd, 1) := by decide +kernel
theorem d_La_law_569 : decode code 569 = .ok (.iaload, 1) := by decide +kernel
theorem d_La_law_570 : decode code 570 = .ok (.aload_n 0, 1) := by decide +kernel
theorem d_La_law_571 : decode code 571 = .ok (.iload 4, 2) := by decide +kernel
theorem d_La_law_573 : decode code 573 = .ok (.iconst 2, 1) := by decide +kernel
theorem d_La_law_574 : decode code 574 = .ok (.iadd, 1) := by decide +kernel
theorem d_La_law_575 : decode code 575 = .ok (.iaload, 1) := by decide +kernel
theorem d_La_law_576 : decode code 576 = .ok (.aload_n 0, 1) := by decide +kernel
theorem d_La_law_577 : decode code 577 = .ok (.iload 4, 2) := by decide +kernel
theorem d_La_law_579 : decode code 579 = .ok (.iconst 3, 1) := by decide +kernel
theorem d_La_law_580 : decode code 580 = .ok (.iadd, 1) := by decide +kernel
theorem d_La_law_581 : decode code 581 = .ok (.iaload, 1) := by decide +kernel
theorem d_La_law_582 : decode code 582 = .ok (.aload_n 3, 1) := by decide +kernel
theorem d_La_law_583 : decode code 583 = .ok (.invokestatic 86, 3) := by decide +kernel
theorem d_La_law_586 : decode code 586 = .ok (.istore 5, 2) := by decide +kernel
theorem d_La_law_588 : decode code 588 = .ok (.aload_n 2, 1) := by decide +kernel
theorem d_La_law_589 : decode code 589 = .ok (.aload_n 0, 1) := by decide +kernel
theorem d_La_law_590 : decode code 590 = .ok (.iload 4, 2) := by decide +kernel
theorem d_La_law_592 : decode code 592 = .ok (.iconst 1, 1) := by decide +kernel
theorem d_La_law_593 : decode code 593 = .ok (.iadd, 1) := by decide +kernel
theorem d_La_law_594 : decode code 594 = .ok (.iaload, 1) := by decide +kernel
theorem d_La_law_595 : decode code 595 = .ok (.aload_n 0, 1) := by decide +kernel
theorem d_La_law_596 : decode code 596 = .ok (.iload 4, 2) := by decide +kernel
theorem d_La_law_598 : decode code 598 = .ok (.iconst 2, 1) := by decide +kernel
theorem d_La_law_599 : decode code 599 = .ok (.iadd, 1) := by decide +kernel
theorem d_La_law_600 : decode code 600 = .ok (.iaload, 1) := by decide +kernel
theorem d_La_law_601 : decode code 601 = .ok (.aload_n 0, 1) := by decide +kernel
theorem d_La_law_602 : decode code 602 = .ok (.iload 4, 2) := by decide +kernel
theorem d_La_law_604 : decode code 604 = .ok (.iconst 3, 1) := by decide +kernel
theorem d_La_law_605 : decode code 605 = .ok (.iadd, 1) := by decide +kernel
theorem d_La_law_606 : decode code 606 = .ok (.iaload, 1) := by decide +kernel
theorem d_La_law_607 : decode code 607 = .ok (.invokevirtual 88, 3) := by decide +kernel
theorem d_La_law_610 : decode code 610 = .ok (.istore 6, 2) := by decide +kernel
theorem d_La_law_612 : decode code 612 = .ok (.aload_n 2, 1) := by decide +kernel
theorem d_La_law_613 : decode code 613 = .ok (.invokevirtual 60, 3) := by decide +kernel
theorem d_La_law_616 : decode code 616 = .ok (.iload 5, 2) := by decide +kernel
theorem d_La_law_618 : decode code 618 = .ok (.if_icmp .eq 5, 3) := by decide +kernel
theorem d_La_law_621 : decode code 621 = .ok (.iconst 0, 1) := by decide +kernel
theorem d_La_law_622 : decode code 622 = .ok (.ireturn, 1) := by decide +kernel
theorem d_La_law_623 : decode code 623 = .ok (.iload 5, 2) := by decide +kernel
theorem d_La_law_625 : decode code 625 = .ok (.ifCond .ne 15, 3) := by decide +kernel
theorem d_La_law_628 : decode code 628 = .ok (.aload_n 3, 1) := by decide +kernel
theorem d_La_law_629 : decode code 629 = .ok (.iconst 0, 1) := by decide +kernel
theorem d_La_law_630 : decode code 630 = .ok (.laload, 1) := by decide +kernel
theorem d_La_law_631 : decode code 631 = .ok (.iload 6, 2) := by decide +kernel
theorem d_La_law_633 : decode code 633 = .ok (.i2l, 1) := by decide +kernel
theorem d_La_law_634 : decode code 634 = .ok (.lcmp, 1) := by decide +kernel
theorem d_La_law_635 : decode code 635 = .ok (.ifCond .eq 5, 3) := by decide +kernel
theorem d_La_law_638 : decode code 638 = .ok (.iconst 0, 1) := by decide +kernel
theorem d_La_law_639 : decode code 639 = .ok (.ireturn, 1) := by decide +kernel
theorem d_La_law_640 : decode code 640 = .ok (.goto 59, 3) := by decide +kernel
theorem d_La_law_643 : decode code 643 = .ok (.aload_n 1, 1) := by decide +kernel
theorem d_La_law_644 : decode code 644 = .ok (.aload_n 0, 1) := by decide +kernel
theorem d_La_law_645 : decode code 645 = .ok (.iload 4, 2) := by decide +kernel
theorem d_La_law_647 : decode code 647 = .ok (.iconst 1, 1) := by decide +kernel
theorem d_La_law_648 : decode code 648 = .ok (.iadd, 1) := by decide +kernel
theorem d_La_law_649 : decode code 649 = .ok (.iaload, 1) := by decide +kernel
theorem d_La_law_650 : decode code 650 = .ok (.aload_n 3, 1) := by decide +kernel
theorem d_La_law_651 : decode code 651 = .ok (.invokestatic 89, 3) := by decide +kernel
theorem d_La_law_654 : decode code 654 = .ok (.istore 5, 2) := by decide +kernel
theorem d_La_law_656 : decode code 656 = .ok (.aload_n 2, 1) := by decide +kernel
theorem d_La_law_657 : decode code 657 = .ok (.aload_n 0, 1) := by decide +kernel
theorem d_La_law_658 : decode code 658 = .ok (.iload 4, 2) := by decide +kernel
theorem d_La_law_660 : decode code 660 = .ok (.iconst 1, 1) := by decide +kernel
theorem d_La_law_661 : decode code 661 = .ok (.iadd, 1) := by decide +kernel
theorem d_La_law_662 : decode code 662 = .ok (.iaload, 1) := by decide +kernel
theorem d_La_law_663 : decode code 663 = .ok (.invokevirtual 91, 3) := by decide +kernel
theorem d_La_law_666 : decode code 666 = .ok (.istore 6, 2) := by decide +kernel
theorem d_La_law_668 : decode code 668 = .ok (.aload_n 2, 1) := by decide +kernel
theorem d_La_law_669 : decode code 669 = .ok (.invokevirtual 60, 3) := by decide +kernel
theorem d_La_law_672 : decode code 672 = .ok (.iload 5, 2) := by decide +kernel
theorem d_La_law_674 : decode code 674 = .ok (.if_icmp .eq 5, 3) := by decide +kernel
theorem d_La_law_677 : decode code 677 = .ok (.iconst 0, 1) := by decide +kernel
theorem d_La_law_678 : decode code 678 = .ok (.ireturn, 1) := by decide +kernel
theorem d_La_law_679 : decode code 679 = .ok (.iload 5, 2) := by decide +kernel
theorem d_La_law_681 : decode code 681 = .ok (.ifCond .ne 15, 3) := by decide +kernel
theorem d_La_law_684 : decode code 684 = .ok (.aload_n 3, 1) := by decide +kernel
theorem d_La_law_685 : decode code 685 = .ok (.iconst 0, 1) := by decide +kernel
theorem d_La_law_686 : decode code 686 = .ok (.laload, 1) := by decide +kernel
theorem d_La_law_687 : decode code 687 = .ok (.iload 6, 2) := by decide +kernel
theorem d_La_law_689 : decode code 689 = .ok (.i2l, 1) := by decide +kernel
theorem d_La_law_690 : decode code 690 = .ok (.lcmp, 1) := by decide +kernel
theorem d_La_law_691 : decode code 691 = .ok (.ifCond .eq 5, 3) := by decide +kernel
theorem d_La_law_694 : decode code 694 = .ok (.iconst 0, 1) := by decide +kernel
theorem d_La_law_695 : decode code 695 = .ok (.ireturn, 1) := by decide +kernel
theorem d_La_law_696 : decode code 696 = .ok (.goto 3, 3) := by decide +kernel
theorem d_La_law_699 : decode code 699 = .ok (.iinc 4 5, 3) := by decide +kernel
theorem d_La_law_702 : decode code 702 = .ok (.goto (-679), 3) := by decide +kernel
theorem d_La_law_705 : decode code 705 = .ok (.iconst 1, 1) := by decide +kernel
theorem d_La_law_706 : decode code 706 = .ok (.ireturn, 1) := by decide +kernel
theorem d_La_length_0 : decode b_La_length 0 = .ok (.aload_n 3, 1) := by decide +kernel
theorem d_La_length_1 : decode b_La_length 1 = .ok (.iconst 0, 1) := by decide +kernel
theorem d_La_length_2 : decode b_La_length 2 = .ok (.aload_n 0, 1) := by decide +kernel
theorem d_La_length_3 : decode b_La_length 3 = .ok (.iload_n 1, 1) := by decide +kernel
theorem d_La_length_4 : decode b_La_length 4 = .ok (.iload_n 2, 1) := by decide +kernel
theorem d_La_length_5 : decode b_La_length 5 = .ok (.invokevirtual 39, 3) := by decide +kernel
theorem d_La_length_8 : decode b_La_length 8 = .ok (.i2l, 1) := by decide +kernel
theorem d_La_length_9 : decode b_La_length 9 = .ok (.lastore, 1) := by decide +kernel
theorem d_La_length_10 : decode b_La_length 10 = .ok (.goto 11, 3) := by decide +kernel
theorem d_La_length_13 : decode b_La_length 13 = .ok (.astore 4, 2) := by decide +kernel
theorem d_La_length_15 : decode b_La_length 15 = .ok (.iconst 1, 1) := by decide +kernel
theorem d_La_length_16 : decode b_La_length 16 = .ok (.ireturn, 1) := by decide +kernel
theorem d_La_length_17 : decode b_La_length 17 = .ok (.astore 4, 2) := by decide +kernel
theorem d_La_length_19 : decode b_La_length 19 = .ok (.iconst 2, 1) := by decide +kernel
theorem d_La_length_20 : decode b_La_length 20 = .ok (.ireturn, 1) := by decide +kernel
theorem d_La_length_21 : decode b_La_length 21 = .ok (.iconst 0, 1) := by decide +kernel
theorem d_La_length_22 : decode b_La_length 22 = .ok (.ireturn, 1) := by decide +kernel
theorem d_La_rule_0 : decode b_La_rule 0 = .ok (.aload 5, 2) := by decide +kernel
theorem d_La_rule_2 : decode b_La_rule 2 = .ok (.iconst 0, 1) := by decide +kernel
theorem d_La_rule_3 : decode b_La_rule 3 = .ok (.aload_n 0, 1) := by decide +kernel
theorem d_La_rule_4 : decode b_La_rule 4 = .ok (.iload_n 1, 1) := by decide +kernel
theorem d_La_rule_5 : decode b_La_rule 5 = .ok (.iload_n 2, 1) := by decide +kernel
theorem d_La_rule_6 : decode b_La_rule 6 = .ok (.iload_n 3, 1) := by decide +kernel
theorem d_La_rule_7 : decode b_La_rule 7 = .ok (.iload 4, 2) := by decide +kernel
theorem d_La_rule_9 : decode b_La_rule 9 = .ok (.invokevirtual 15, 3) := by decide +kernel
theorem d_La_rule_12 : decode b_La_rule 12 = .ok (.i2l, 1) := by decide +kernel
theorem d_La_rule_13 : decode b_La_rule 13 = .ok (.lastore, 1) := by decide +kernel
theorem d_La_rule_14 : decode b_La_rule 14 = .ok (.goto 11, 3) := by decide +kernel
theorem d_La_rule_17 : decode b_La_rule 17 = .ok (.astore 6, 2) := by decide +kernel
theorem d_La_rule_19 : decode b_La_rule 19 = .ok (.iconst 1, 1) := by decide +kernel
theorem d_La_rule_20 : decode b_La_rule 20 = .ok (.ireturn, 1) := by decide +kernel
theorem d_La_rule_21 : decode b_La_rule 21 = .ok (.astore 6, 2) := by decide +kernel
theorem d_La_rule_23 : decode b_La_rule 23 = .ok (.iconst 2, 1) := by decide +kernel
theorem d_La_rule_24 : decode b_La_rule 24 = .ok (.ireturn, 1) := by decide +kernel
theorem d_La_rule_25 : decode b_La_rule 25 = .ok (.iconst 0, 1) := by decide +kernel
theorem d_La_rule_26 : decode b_La_rule 26 = .ok (.ireturn, 1) := by decide +kernel
theorem d_La_ways_0 : decode b_La_ways 0 = .ok (.aload_n 2, 1) := by decide +kernel
theorem d_La_ways_1 : decode b_La_ways 1 = .ok (.iconst 0, 1) := by decide +kernel
theorem d_La_ways_2 : decode b_La_ways 2 = .ok (.aload_n 0, 1) := by decide +kernel
theorem d_La_ways_3 : decode b_La_ways 3 = .ok (.iload_n 1, 1) := by decide +kernel
theorem d_La_ways_4 : decode b_La_ways 4 = .ok (.invokevirtual 47, 3) := by decide +kernel
theorem d_La_ways_7 : decode b_La_ways 7 = .ok (.i2l, 1) := by decide +kernel
theorem d_La_ways_8 : decode b_La_ways 8 = .ok (.lastore, 1) := by decide +kernel
theorem d_La_ways_9 : decode b_La_ways 9 = .ok (.goto 6, 3) := by decide +kernel
theorem d_La_ways_12 : decode b_La_ways 12 = .ok (.astore_n 3, 1) := by decide +kernel
theorem d_La_ways_13 : decode b_La_ways 13 = .ok (.iconst 1, 1) := by decide +kernel
theorem d_La_ways_14 : decode b_La_ways 14 = .ok (.ireturn, 1) := by decide +kernel
theorem d_La_ways_15 : decode b_La_ways 15 = .ok (.iconst 0, 1) := by decide +kernel
theorem d_La_ways_16 : decode b_La_ways 16 = .ok (.ireturn, 1) := by decide +kernel
theorem d_La_witness_0 : decode b_La_witness 0 = .ok (.aload 4, 2) := by decide +kernel
theorem d_La_witness_2 : decode b_La_witness 2 = .ok (.iconst 0, 1) := by decide +kernel
theorem d_La_witness_3 : decode b_La_witness 3 = .ok (.aload_n 0, 1) := by decide +kernel
theorem d_La_witness_4 : decode b_La_witness 4 = .ok (.iload_n 1, 1) := by decide +kernel
theorem d_La_witness_5 : decode b_La_witness 5 = .ok (.iload_n 2, 1) := by decide +kernel
theorem d_La_witness_6 : decode b_La_witness 6 = .ok (.iload_n 3, 1) := by decide +kernel
theorem d_La_witness_7 : decode b_La_witness 7 = .ok (.invokevirtual 42, 3) := by decide +kernel
theorem d_La_witness_10 : decode b_La_witness 10 = .ok (.i2l, 1) := by decide +kernel
theorem d_La_witness_11 : decode b_La_witness 11 = .ok (.lastore, 1) := by decide +kernel
theorem d_La_witness_12 : decode b_La_witness 12 = .ok (.goto 15, 3) := by decide +kernel
theorem d_La_witness_15 : decode b_La_witness 15 = .ok (.astore 5, 2) := by decide +kernel
theorem d_La_witness_17 : decode b_La_witness 17 = .ok (.iconst 1, 1) := by decide +kernel
theorem d_La_witness_18 : decode b_La_witness 18 = .ok (.ireturn, 1) := by decide +kernel
theorem d_La_witness_19 : decode b_La_witness 19 = .ok (.astore 5, 2) := by decide +kernel
theorem d_La_witness_21 : decode b_La_witness 21 = .ok (.iconst 2, 1) := by decide +kernel
theorem d_La_witness_22 : decode b_La_witness 22 = .ok (.ireturn, 1) := by decide +kernel
theorem d_La_witness_23 : decode b_La_witness 23 = .ok (.astore 5, 2) := by decide +kernel
theorem d_La_witness_25 : decode b_La_witness 25 = .ok (.iconst 3, 1) := by decide +kernel
theorem d_La_witness_26 : decode b_La_witness 26 = .ok (.ireturn, 1) := by decide +kernel
theorem d_La_witness_27 : decode b_La_witness 27 = .ok (.iconst 0, 1) := by decide +kernel
theorem d_La_witness_28 : decode b_La_witness 28 = .ok (.ireturn, 1) := by decide +kernel
