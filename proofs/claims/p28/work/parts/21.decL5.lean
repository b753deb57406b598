theorem dL_refusesAny_465 : decode cL_refusesAny 465 = .ok (.if_icmp .eq 12, 3) := by decide +kernel
theorem dL_refusesAny_468 : decode cL_refusesAny 468 = .ok (.aload_n 0, 1) := by decide +kernel
theorem dL_refusesAny_469 : decode cL_refusesAny 469 = .ok (.invokevirtual 72, 3) := by decide +kernel
theorem dL_refusesAny_472 : decode cL_refusesAny 472 = .ok (.bipush (-4), 2) := by decide +kernel
theorem dL_refusesAny_474 : decode cL_refusesAny 474 = .ok (.if_icmp .ne 7, 3) := by decide +kernel
theorem dL_refusesAny_477 : decode cL_refusesAny 477 = .ok (.iconst 1, 1) := by decide +kernel
theorem dL_refusesAny_478 : decode cL_refusesAny 478 = .ok (.goto 4, 3) := by decide +kernel
theorem dL_refusesAny_481 : decode cL_refusesAny 481 = .ok (.iconst 0, 1) := by decide +kernel
theorem dL_refusesAny_482 : decode cL_refusesAny 482 = .ok (.istore 5, 2) := by decide +kernel
theorem dL_refusesAny_484 : decode cL_refusesAny 484 = .ok (.iload 5, 2) := by decide +kernel
theorem dL_refusesAny_486 : decode cL_refusesAny 486 = .ok (.ifCond .eq 209, 3) := by decide +kernel
theorem dL_refusesAny_489 : decode cL_refusesAny 489 = .ok (.aload_n 0, 1) := by decide +kernel
theorem dL_refusesAny_490 : decode cL_refusesAny 490 = .ok (.iload_n 2, 1) := by decide +kernel
theorem dL_refusesAny_491 : decode cL_refusesAny 491 = .ok (.bipush 9, 2) := by decide +kernel
theorem dL_refusesAny_493 : decode cL_refusesAny 493 = .ok (.invokevirtual 27, 3) := by decide +kernel
theorem dL_refusesAny_496 : decode cL_refusesAny 496 = .ok (.iconst (-1), 1) := by decide +kernel
theorem dL_refusesAny_497 : decode cL_refusesAny 497 = .ok (.if_icmp .ne 198, 3) := by decide +kernel
theorem dL_refusesAny_500 : decode cL_refusesAny 500 = .ok (.aload_n 0, 1) := by decide +kernel
theorem dL_refusesAny_501 : decode cL_refusesAny 501 = .ok (.iconst 0, 1) := by decide +kernel
theorem dL_refusesAny_502 : decode cL_refusesAny 502 = .ok (.iload_n 1, 1) := by decide +kernel
theorem dL_refusesAny_503 : decode cL_refusesAny 503 = .ok (.iconst 2, 1) := by decide +kernel
theorem dL_refusesAny_504 : decode cL_refusesAny 504 = .ok (.irem, 1) := by decide +kernel
theorem dL_refusesAny_505 : decode cL_refusesAny 505 = .ok (.ifCond .ne 7, 3) := by decide +kernel
theorem dL_refusesAny_508 : decode cL_refusesAny 508 = .ok (.iconst (-1), 1) := by decide +kernel
theorem dL_refusesAny_509 : decode cL_refusesAny 509 = .ok (.goto 5, 3) := by decide +kernel
theorem dL_refusesAny_512 : decode cL_refusesAny 512 = .ok (.bipush 7, 2) := by decide +kernel
theorem dL_refusesAny_514 : decode cL_refusesAny 514 = .ok (.invokevirtual 27, 3) := by decide +kernel
theorem dL_refusesAny_517 : decode cL_refusesAny 517 = .ok (.bipush (-2), 2) := by decide +kernel
theorem dL_refusesAny_519 : decode cL_refusesAny 519 = .ok (.if_icmp .ne 176, 3) := by decide +kernel
theorem dL_refusesAny_522 : decode cL_refusesAny 522 = .ok (.aload_n 0, 1) := by decide +kernel
theorem dL_refusesAny_523 : decode cL_refusesAny 523 = .ok (.iload_n 3, 1) := by decide +kernel
theorem dL_refusesAny_524 : decode cL_refusesAny 524 = .ok (.bipush 9, 2) := by decide +kernel
theorem dL_refusesAny_526 : decode cL_refusesAny 526 = .ok (.invokevirtual 20, 3) := by decide +kernel
theorem dL_refusesAny_529 : decode cL_refusesAny 529 = .ok (.iconst (-1), 1) := by decide +kernel
theorem dL_refusesAny_530 : decode cL_refusesAny 530 = .ok (.if_icmp .ne 165, 3) := by decide +kernel
theorem dL_refusesAny_533 : decode cL_refusesAny 533 = .ok (.aload_n 0, 1) := by decide +kernel
theorem dL_refusesAny_534 : decode cL_refusesAny 534 = .ok (.iconst 0, 1) := by decide +kernel
theorem dL_refusesAny_535 : decode cL_refusesAny 535 = .ok (.iload_n 1, 1) := by decide +kernel
theorem dL_refusesAny_536 : decode cL_refusesAny 536 = .ok (.iconst 2, 1) := by decide +kernel
theorem dL_refusesAny_537 : decode cL_refusesAny 537 = .ok (.irem, 1) := by decide +kernel
theorem dL_refusesAny_538 : decode cL_refusesAny 538 = .ok (.ifCond .ne 7, 3) := by decide +kernel
theorem dL_refusesAny_541 : decode cL_refusesAny 541 = .ok (.iconst (-1), 1) := by decide +kernel
theorem dL_refusesAny_542 : decode cL_refusesAny 542 = .ok (.goto 4, 3) := by decide +kernel
theorem dL_refusesAny_545 : decode cL_refusesAny 545 = .ok (.iconst 4, 1) := by decide +kernel
theorem dL_refusesAny_546 : decode cL_refusesAny 546 = .ok (.invokevirtual 20, 3) := by decide +kernel
theorem dL_refusesAny_549 : decode cL_refusesAny 549 = .ok (.bipush (-2), 2) := by decide +kernel
theorem dL_refusesAny_551 : decode cL_refusesAny 551 = .ok (.if_icmp .ne 144, 3) := by decide +kernel
theorem dL_refusesAny_554 : decode cL_refusesAny 554 = .ok (.aload_n 0, 1) := by decide +kernel
theorem dL_refusesAny_555 : decode cL_refusesAny 555 = .ok (.iload 4, 2) := by decide +kernel
theorem dL_refusesAny_557 : decode cL_refusesAny 557 = .ok (.bipush 9, 2) := by decide +kernel
theorem dL_refusesAny_559 : decode cL_refusesAny 559 = .ok (.invokevirtual 24, 3) := by decide +kernel
theorem dL_refusesAny_562 : decode cL_refusesAny 562 = .ok (.iconst (-1), 1) := by decide +kernel
theorem dL_refusesAny_563 : decode cL_refusesAny 563 = .ok (.if_icmp .ne 132, 3) := by decide +kernel
theorem dL_refusesAny_566 : decode cL_refusesAny 566 = .ok (.aload_n 0, 1) := by decide +kernel
theorem dL_refusesAny_567 : decode cL_refusesAny 567 = .ok (.iconst 0, 1) := by decide +kernel
theorem dL_refusesAny_568 : decode cL_refusesAny 568 = .ok (.iload_n 1, 1) := by decide +kernel
theorem dL_refusesAny_569 : decode cL_refusesAny 569 = .ok (.iconst 2, 1) := by decide +kernel
theorem dL_refusesAny_570 : decode cL_refusesAny 570 = .ok (.irem, 1) := by decide +kernel
theorem dL_refusesAny_571 : decode cL_refusesAny 571 = .ok (.ifCond .ne 7, 3) := by decide +kernel
theorem dL_refusesAny_574 : decode cL_refusesAny 574 = .ok (.iconst (-1), 1) := by decide +kernel
theorem dL_refusesAny_575 : decode cL_refusesAny 575 = .ok (.goto 4, 3) := by decide +kernel
theorem dL_refusesAny_578 : decode cL_refusesAny 578 = .ok (.iconst 3, 1) := by decide +kernel
theorem dL_refusesAny_579 : decode cL_refusesAny 579 = .ok (.invokevirtual 24, 3) := by decide +kernel
theorem dL_refusesAny_582 : decode cL_refusesAny 582 = .ok (.bipush (-2), 2) := by decide +kernel
theorem dL_refusesAny_584 : decode cL_refusesAny 584 = .ok (.if_icmp .ne 111, 3) := by decide +kernel
theorem dL_refusesAny_587 : decode cL_refusesAny 587 = .ok (.aload_n 0, 1) := by decide +kernel
theorem dL_refusesAny_588 : decode cL_refusesAny 588 = .ok (.iload_n 3, 1) := by decide +kernel
theorem dL_refusesAny_589 : decode cL_refusesAny 589 = .ok (.iconst 0, 1) := by decide +kernel
theorem dL_refusesAny_590 : decode cL_refusesAny 590 = .ok (.invokevirtual 42, 3) := by decide +kernel
theorem dL_refusesAny_593 : decode cL_refusesAny 593 = .ok (.iconst (-1), 1) := by decide +kernel
theorem dL_refusesAny_594 : decode cL_refusesAny 594 = .ok (.if_icmp .ne 101, 3) := by decide +kernel
theorem dL_refusesAny_597 : decode cL_refusesAny 597 = .ok (.aload_n 0, 1) := by decide +kernel
theorem dL_refusesAny_598 : decode cL_refusesAny 598 = .ok (.iconst 0, 1) := by decide +kernel
theorem dL_refusesAny_599 : decode cL_refusesAny 599 = .ok (.iload_n 2, 1) := by decide +kernel
theorem dL_refusesAny_600 : decode cL_refusesAny 600 = .ok (.invokevirtual 42, 3) := by decide +kernel
theorem dL_refusesAny_603 : decode cL_refusesAny 603 = .ok (.iconst (-1), 1) := by decide +kernel
theorem dL_refusesAny_604 : decode cL_refusesAny 604 = .ok (.if_icmp .ne 91, 3) := by decide +kernel
theorem dL_refusesAny_607 : decode cL_refusesAny 607 = .ok (.aload_n 0, 1) := by decide +kernel
theorem dL_refusesAny_608 : decode cL_refusesAny 608 = .ok (.iload_n 3, 1) := by decide +kernel
theorem dL_refusesAny_609 : decode cL_refusesAny 609 = .ok (.iconst 0, 1) := by decide +kernel
theorem dL_refusesAny_610 : decode cL_refusesAny 610 = .ok (.invokevirtual 45, 3) := by decide +kernel
theorem dL_refusesAny_613 : decode cL_refusesAny 613 = .ok (.iconst (-1), 1) := by decide +kernel
theorem dL_refusesAny_614 : decode cL_refusesAny 614 = .ok (.if_icmp .ne 81, 3) := by decide +kernel
theorem dL_refusesAny_617 : decode cL_refusesAny 617 = .ok (.aload_n 0, 1) := by decide +kernel
theorem dL_refusesAny_618 : decode cL_refusesAny 618 = .ok (.iconst 0, 1) := by decide +kernel
theorem dL_refusesAny_619 : decode cL_refusesAny 619 = .ok (.iload_n 2, 1) := by decide +kernel
theorem dL_refusesAny_620 : decode cL_refusesAny 620 = .ok (.invokevirtual 45, 3) := by decide +kernel
theorem dL_refusesAny_623 : decode cL_refusesAny 623 = .ok (.iconst (-1), 1) := by decide +kernel
theorem dL_refusesAny_624 : decode cL_refusesAny 624 = .ok (.if_icmp .ne 71, 3) := by decide +kernel
theorem dL_refusesAny_627 : decode cL_refusesAny 627 = .ok (.aload_n 0, 1) := by decide +kernel
theorem dL_refusesAny_628 : decode cL_refusesAny 628 = .ok (.iload_n 3, 1) := by decide +kernel
theorem dL_refusesAny_629 : decode cL_refusesAny 629 = .ok (.invokevirtual 39, 3) := by decide +kernel
theorem dL_refusesAny_632 : decode cL_refusesAny 632 = .ok (.iconst (-1), 1) := by decide +kernel
theorem dL_refusesAny_633 : decode cL_refusesAny 633 = .ok (.if_icmp .ne 62, 3) := by decide +kernel
theorem dL_refusesAny_636 : decode cL_refusesAny 636 = .ok (.aload_n 0, 1) := by decide +kernel
theorem dL_refusesAny_637 : decode cL_refusesAny 637 = .ok (.iload 4, 2) := by decide +kernel
theorem dL_refusesAny_639 : decode cL_refusesAny 639 = .ok (.bipush 9, 2) := by decide +kernel
theorem dL_refusesAny_641 : decode cL_refusesAny 641 = .ok (.invokevirtual 36, 3) := by decide +kernel
theorem dL_refusesAny_644 : decode cL_refusesAny 644 = .ok (.iconst (-1), 1) := by decide +kernel
theorem dL_refusesAny_645 : decode cL_refusesAny 645 = .ok (.if_icmp .ne 50, 3) := by decide +kernel
theorem dL_refusesAny_648 : decode cL_refusesAny 648 = .ok (.aload_n 0, 1) := by decide +kernel
theorem dL_refusesAny_649 : decode cL_refusesAny 649 = .ok (.iconst 0, 1) := by decide +kernel
theorem dL_refusesAny_650 : decode cL_refusesAny 650 = .ok (.iload 4, 2) := by decide +kernel
theorem dL_refusesAny_652 : decode cL_refusesAny 652 = .ok (.invokevirtual 36, 3) := by decide +kernel
theorem dL_refusesAny_655 : decode cL_refusesAny 655 = .ok (.bipush (-2), 2) := by decide +kernel
theorem dL_refusesAny_657 : decode cL_refusesAny 657 = .ok (.if_icmp .ne 38, 3) := by decide +kernel
theorem dL_refusesAny_660 : decode cL_refusesAny 660 = .ok (.aload_n 0, 1) := by decide +kernel
theorem dL_refusesAny_661 : decode cL_refusesAny 661 = .ok (.iload_n 1, 1) := by decide +kernel
theorem dL_refusesAny_662 : decode cL_refusesAny 662 = .ok (.iconst 2, 1) := by decide +kernel
theorem dL_refusesAny_663 : decode cL_refusesAny 663 = .ok (.irem, 1) := by decide +kernel
theorem dL_refusesAny_664 : decode cL_refusesAny 664 = .ok (.ifCond .ne 7, 3) := by decide +kernel
theorem dL_refusesAny_667 : decode cL_refusesAny 667 = .ok (.iconst (-1), 1) := by decide +kernel
theorem dL_refusesAny_668 : decode cL_refusesAny 668 = .ok (.goto 5, 3) := by decide +kernel
theorem dL_refusesAny_671 : decode cL_refusesAny 671 = .ok (.bipush 17, 2) := by decide +kernel
theorem dL_refusesAny_673 : decode cL_refusesAny 673 = .ok (.invokevirtual 14, 3) := by decide +kernel
theorem dL_refusesAny_676 : decode cL_refusesAny 676 = .ok (.bipush (-2), 2) := by decide +kernel
theorem dL_refusesAny_678 : decode cL_refusesAny 678 = .ok (.if_icmp .ne 17, 3) := by decide +kernel
theorem dL_refusesAny_681 : decode cL_refusesAny 681 = .ok (.aload_n 0, 1) := by decide +kernel
theorem dL_refusesAny_682 : decode cL_refusesAny 682 = .ok (.iconst 2, 1) := by decide +kernel
theorem dL_refusesAny_683 : decode cL_refusesAny 683 = .ok (.invokevirtual 75, 3) := by decide +kernel
theorem dL_refusesAny_686 : decode cL_refusesAny 686 = .ok (.bipush (-2), 2) := by decide +kernel
theorem dL_refusesAny_688 : decode cL_refusesAny 688 = .ok (.if_icmp .ne 7, 3) := by decide +kernel
theorem dL_refusesAny_691 : decode cL_refusesAny 691 = .ok (.iconst 1, 1) := by decide +kernel
theorem dL_refusesAny_692 : decode cL_refusesAny 692 = .ok (.goto 4, 3) := by decide +kernel
theorem dL_refusesAny_695 : decode cL_refusesAny 695 = .ok (.iconst 0, 1) := by decide +kernel
theorem dL_refusesAny_696 : decode cL_refusesAny 696 = .ok (.istore 5, 2) := by decide +kernel
theorem dL_refusesAny_698 : decode cL_refusesAny 698 = .ok (.iload 5, 2) := by decide +kernel
theorem dL_refusesAny_700 : decode cL_refusesAny 700 = .ok (.ifCond .eq 23, 3) := by decide +kernel
theorem dL_refusesAny_703 : decode cL_refusesAny 703 = .ok (.aload_n 0, 1) := by decide +kernel
theorem dL_refusesAny_704 : decode cL_refusesAny 704 = .ok (.invokevirtual 78, 3) := by decide +kernel
theorem dL_refusesAny_707 : decode cL_refusesAny 707 = .ok (.ifCond .ne 16, 3) := by decide +kernel
theorem dL_refusesAny_710 : decode cL_refusesAny 710 = .ok (.aload_n 0, 1) := by decide +kernel
theorem dL_refusesAny_711 : decode cL_refusesAny 711 = .ok (.invokevirtual 81, 3) := by decide +kernel
theorem dL_refusesAny_714 : decode cL_refusesAny 714 = .ok (.bipush (-100), 2) := by decide +kernel
theorem dL_refusesAny_716 : decode cL_refusesAny 716 = .ok (.if_icmp .ne 7, 3) := by decide +kernel
theorem dL_refusesAny_719 : decode cL_refusesAny 719 = .ok (.iconst 1, 1) := by decide +kernel
theorem dL_refusesAny_720 : decode cL_refusesAny 720 = .ok (.goto 4, 3) := by decide +kernel
theorem dL_refusesAny_723 : decode cL_refusesAny 723 = .ok (.iconst 0, 1) := by decide +kernel
theorem dL_refusesAny_724 : decode cL_refusesAny 724 = .ok (.ireturn, 1) := by decide +kernel
theorem dL_refuses_0 : decode cL_refuses 0 = .ok (.aload_n 0, 1) := by decide +kernel
theorem dL_refuses_1 : decode cL_refuses 1 = .ok (.invokestatic 84, 3) := by decide +kernel
theorem dL_refuses_4 : decode cL_refuses 4 = .ok (.lstore_n 2, 1) := by decide +kernel
theorem dL_refuses_5 : decode cL_refuses 5 = .ok (.aload_n 0, 1) := by decide +kernel
theorem dL_refuses_6 : decode cL_refuses 6 = .ok (.bipush 15, 2) := by decide +kernel
theorem dL_refuses_8 : decode cL_refuses 8 = .ok (.invokevirtual 14, 3) := by decide +kernel
theorem dL_refuses_11 : decode cL_refuses 11 = .ok (.istore 4, 2) := by decide +kernel
theorem dL_refuses_13 : decode cL_refuses 13 = .ok (.aload_n 0, 1) := by decide +kernel
theorem dL_refuses_14 : decode cL_refuses 14 = .ok (.iload_n 1, 1) := by decide +kernel
theorem dL_refuses_15 : decode cL_refuses 15 = .ok (.invokestatic 88, 3) := by decide +kernel
theorem dL_refuses_18 : decode cL_refuses 18 = .ok (.ifCond .eq 27, 3) := by decide +kernel
theorem dL_refuses_21 : decode cL_refuses 21 = .ok (.aload_n 0, 1) := by decide +kernel
theorem dL_refuses_22 : decode cL_refuses 22 = .ok (.invokestatic 84, 3) := by decide +kernel
theorem dL_refuses_25 : decode cL_refuses 25 = .ok (.lload_n 2, 1) := by decide +kernel
theorem dL_refuses_26 : decode cL_refuses 26 = .ok (.lcmp, 1) := by decide +kernel
theorem dL_refuses_27 : decode cL_refuses 27 = .ok (.ifCond .ne 18, 3) := by decide +kernel
theorem dL_refuses_30 : decode cL_refuses 30 = .ok (.aload_n 0, 1) := by decide +kernel
theorem dL_refuses_31 : decode cL_refuses 31 = .ok (.bipush 15, 2) := by decide +kernel
theorem dL_refuses_33 : decode cL_refuses 33 = .ok (.invokevirtual 14, 3) := by decide +kernel
theorem dL_refuses_36 : decode cL_refuses 36 = .ok (.iload 4, 2) := by decide +kernel
theorem dL_refuses_38 : decode cL_refuses 38 = .ok (.if_icmp .ne 7, 3) := by decide +kernel
theorem dL_refuses_41 : decode cL_refuses 41 = .ok (.iconst 1, 1) := by decide +kernel
theorem dL_refuses_42 : decode cL_refuses 42 = .ok (.goto 4, 3) := by decide +kernel
theorem dL_refuses_45 : decode cL_refuses 45 = .ok (.iconst 0, 1) := by decide +kernel
theorem dL_refuses_46 : decode cL_refuses 46 = .ok (.ireturn, 1) := by decide +kernel
theorem dL_go_0 : decode cL_go 0 = .ok (.aload_n 0, 1) := by decide +kernel
theorem dL_go_1 : decode cL_go 1 = .ok (.iload_n 1, 1) := by decide +kernel
theorem dL_go_2 : decode cL_go 2 = .ok (.iload_n 2, 1) := by decide +kernel
theorem dL_go_3 : decode cL_go 3 = .ok (.invokevirtual 42, 3) := by decide +kernel
theorem dL_go_6 : decode cL_go 6 = .ok (.istore_n 3, 1) := by decide +kernel
theorem dL_go_7 : decode cL_go 7 = .ok (.aload_n 0, 1) := by decide +kernel
theorem dL_go_8 : decode cL_go 8 = .ok (.iload_n 1, 1) := by decide +kernel
theorem dL_go_9 : decode cL_go 9 = .ok (.iconst 1, 1) := by decide +kernel
theorem dL_go_10 : decode cL_go 10 = .ok (.invokevirtual 20, 3) := by decide +kernel
theorem dL_go_13 : decode cL_go 13 = .ok (.istore 4, 2) := by decide +kernel
theorem dL_go_15 : decode cL_go 15 = .ok (.aload_n 0, 1) := by decide +kernel
theorem dL_go_16 : decode cL_go 16 = .ok (.iload_n 1, 1) := by decide +kernel
theorem dL_go_17 : decode cL_go 17 = .ok (.iconst 0, 1) := by decide +kernel
theorem dL_go_18 : decode cL_go 18 = .ok (.invokevirtual 20, 3) := by decide +kernel
theorem dL_go_21 : decode cL_go 21 = .ok (.istore 5, 2) := by decide +kernel
theorem dL_go_23 : decode cL_go 23 = .ok (.aload_n 0, 1) := by decide +kernel
theorem dL_go_24 : decode cL_go 24 = .ok (.iload_n 1, 1) := by decide +kernel
theorem dL_go_25 : decode cL_go 25 = .ok (.iload_n 2, 1) := by decide +kernel
theorem dL_go_26 : decode cL_go 26 = .ok (.invokevirtual 60, 3) := by decide +kernel
theorem dL_go_29 : decode cL_go 29 = .ok (.istore 6, 2) := by decide +kernel
theorem dL_go_31 : decode cL_go 31 = .ok (.iload_n 2, 1) := by decide +kernel
theorem dL_go_32 : decode cL_go 32 = .ok (.iload 5, 2) := by decide +kernel
theorem dL_go_34 : decode cL_go 34 = .ok (.if_icmp .ne 8, 3) := by decide +kernel
theorem dL_go_37 : decode cL_go 37 = .ok (.bipush (-5), 2) := by decide +kernel
theorem dL_go_39 : decode cL_go 39 = .ok (.goto 18, 3) := by decide +kernel
theorem dL_go_42 : decode cL_go 42 = .ok (.iload_n 3, 1) := by decide +kernel
theorem dL_go_43 : decode cL_go 43 = .ok (.iload 4, 2) := by decide +kernel
theorem dL_go_45 : decode cL_go 45 = .ok (.if_icmp .le 8, 3) := by decide +kernel
theorem dL_go_48 : decode cL_go 48 = .ok (.bipush (-4), 2) := by decide +kernel
theorem dL_go_50 : decode cL_go 50 = .ok (.goto 7, 3) := by decide +kernel
theorem dL_go_53 : decode cL_go 53 = .ok (.iload 4, 2) := by decide +kernel
theorem dL_go_55 : decode cL_go 55 = .ok (.iload_n 3, 1) := by decide +kernel
theorem dL_go_56 : decode cL_go 56 = .ok (.isub, 1) := by decide +kernel
theorem dL_go_57 : decode cL_go 57 = .ok (.istore 7, 2) := by decide +kernel
theorem dL_go_59 : decode cL_go 59 = .ok (.iload 6, 2) := by decide +kernel
theorem dL_go_61 : decode cL_go 61 = .ok (.iload 7, 2) := by decide +kernel
theorem dL_go_63 : decode cL_go 63 = .ok (.if_icmp .ne 49, 3) := by decide +kernel
theorem dL_go_66 : decode cL_go 66 = .ok (.aload_n 0, 1) := by decide +kernel
theorem dL_go_67 : decode cL_go 67 = .ok (.iload_n 1, 1) := by decide +kernel
theorem dL_go_68 : decode cL_go 68 = .ok (.iconst 0, 1) := by decide +kernel
theorem dL_go_69 : decode cL_go 69 = .ok (.invokevirtual 20, 3) := by decide +kernel
theorem dL_go_72 : decode cL_go 72 = .ok (.iload 7, 2) := by decide +kernel
theorem dL_go_74 : decode cL_go 74 = .ok (.ifCond .lt 7, 3) := by decide +kernel
theorem dL_go_77 : decode cL_go 77 = .ok (.iload_n 2, 1) := by decide +kernel
theorem dL_go_78 : decode cL_go 78 = .ok (.goto 5, 3) := by decide +kernel
theorem dL_go_81 : decode cL_go 81 = .ok (.iload 5, 2) := by decide +kernel
theorem dL_go_83 : decode cL_go 83 = .ok (.if_icmp .ne 29, 3) := by decide +kernel
theorem dL_go_86 : decode cL_go 86 = .ok (.aload_n 0, 1) := by decide +kernel
theorem dL_go_87 : decode cL_go 87 = .ok (.iload_n 1, 1) := by decide +kernel
theorem dL_go_88 : decode cL_go 88 = .ok (.iconst 1, 1) := by decide +kernel
theorem dL_go_89 : decode cL_go 89 = .ok (.invokevirtual 20, 3) := by decide +kernel
theorem dL_go_92 : decode cL_go 92 = .ok (.iload 7, 2) := by decide +kernel
theorem dL_go_94 : decode cL_go 94 = .ok (.ifCond .lt 8, 3) := by decide +kernel
theorem dL_go_97 : decode cL_go 97 = .ok (.iload 7, 2) := by decide +kernel
theorem dL_go_99 : decode cL_go 99 = .ok (.goto 5, 3) := by decide +kernel
theorem dL_go_102 : decode cL_go 102 = .ok (.iload 4, 2) := by decide +kernel
theorem dL_go_104 : decode cL_go 104 = .ok (.if_icmp .ne 8, 3) := by decide +kernel
theorem dL_go_107 : decode cL_go 107 = .ok (.iload 6, 2) := by decide +kernel
theorem dL_go_109 : decode cL_go 109 = .ok (.goto 5, 3) := by decide +kernel
theorem dL_go_112 : decode cL_go 112 = .ok (.bipush (-9), 2) := by decide +kernel
theorem dL_go_114 : decode cL_go 114 = .ok (.ireturn, 1) := by decide +kernel
theorem dL_fell_0 : decode cL_fell 0 = .ok (.aload_n 0, 1) := by decide +kernel
theorem dL_fell_1 : decode cL_fell 1 = .ok (.iload_n 1, 1) := by decide +kernel
theorem dL_fell_2 : decode cL_fell 2 = .ok (.iconst 0, 1) := by decide +kernel
theorem dL_fell_3 : decode cL_fell 3 = .ok (.invokevirtual 20, 3) := by decide +kernel
theorem dL_fell_6 : decode cL_fell 6 = .ok (.istore_n 2, 1) := by decide +kernel
theorem dL_fell_7 : decode cL_fell 7 = .ok (.aload_n 0, 1) := by decide +kernel
theorem dL_fell_8 : decode cL_fell 8 = .ok (.iload_n 2, 1) := by decide +kernel
theorem dL_fell_9 : decode cL_fell 9 = .ok (.iconst 0, 1) := by decide +kernel
theorem dL_fell_10 : decode cL_fell 10 = .ok (.invokevirtual 27, 3) := by decide +kernel
theorem dL_fell_13 : decode cL_fell 13 = .ok (.istore_n 3, 1) := by decide +kernel
theorem dL_fell_14 : decode cL_fell 14 = .ok (.aload_n 0, 1) := by decide +kernel
theorem dL_fell_15 : decode cL_fell 15 = .ok (.iload_n 1, 1) := by decide +kernel
theorem dL_fell_16 : decode cL_fell 16 = .ok (.iconst 1, 1) := by decide +kernel
theorem dL_fell_17 : decode cL_fell 17 = .ok (.invokevirtual 20, 3) := by decide +kernel
theorem dL_fell_20 : decode cL_fell 20 = .ok (.istore 4, 2) := by decide +kernel
theorem dL_fell_22 : decode cL_fell 22 = .ok (.aload_n 0, 1) := by decide +kernel
theorem dL_fell_23 : decode cL_fell 23 = .ok (.iload_n 1, 1) := by decide +kernel
theorem dL_fell_24 : decode cL_fell 24 = .ok (.iconst 2, 1) := by decide +kernel
theorem dL_fell_25 : decode cL_fell 25 = .ok (.invokevirtual 20, 3) := by decide +kernel
