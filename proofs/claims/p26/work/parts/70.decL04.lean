theorem dL_refusesAny_527 : decode cL_refusesAny 527 = .ok (.iconst 0, 1) := by decide +kernel
theorem dL_refusesAny_528 : decode cL_refusesAny 528 = .ok (.iconst 0, 1) := by decide +kernel
theorem dL_refusesAny_529 : decode cL_refusesAny 529 = .ok (.iconst 0, 1) := by decide +kernel
theorem dL_refusesAny_530 : decode cL_refusesAny 530 = .ok (.invokevirtual 59, 3) := by decide +kernel
theorem dL_refusesAny_533 : decode cL_refusesAny 533 = .ok (.bipush (-2), 2) := by decide +kernel
theorem dL_refusesAny_535 : decode cL_refusesAny 535 = .ok (.if_icmp .ne 105, 3) := by decide +kernel
theorem dL_refusesAny_538 : decode cL_refusesAny 538 = .ok (.aload_n 0, 1) := by decide +kernel
theorem dL_refusesAny_539 : decode cL_refusesAny 539 = .ok (.iconst 0, 1) := by decide +kernel
theorem dL_refusesAny_540 : decode cL_refusesAny 540 = .ok (.iconst 1, 1) := by decide +kernel
theorem dL_refusesAny_541 : decode cL_refusesAny 541 = .ok (.iconst 0, 1) := by decide +kernel
theorem dL_refusesAny_542 : decode cL_refusesAny 542 = .ok (.iconst 0, 1) := by decide +kernel
theorem dL_refusesAny_543 : decode cL_refusesAny 543 = .ok (.iconst 0, 1) := by decide +kernel
theorem dL_refusesAny_544 : decode cL_refusesAny 544 = .ok (.invokevirtual 59, 3) := by decide +kernel
theorem dL_refusesAny_547 : decode cL_refusesAny 547 = .ok (.bipush (-2), 2) := by decide +kernel
theorem dL_refusesAny_549 : decode cL_refusesAny 549 = .ok (.if_icmp .ne 91, 3) := by decide +kernel
theorem dL_refusesAny_552 : decode cL_refusesAny 552 = .ok (.aload_n 0, 1) := by decide +kernel
theorem dL_refusesAny_553 : decode cL_refusesAny 553 = .ok (.iconst 0, 1) := by decide +kernel
theorem dL_refusesAny_554 : decode cL_refusesAny 554 = .ok (.iconst 0, 1) := by decide +kernel
theorem dL_refusesAny_555 : decode cL_refusesAny 555 = .ok (.iconst 0, 1) := by decide +kernel
theorem dL_refusesAny_556 : decode cL_refusesAny 556 = .ok (.iconst 0, 1) := by decide +kernel
theorem dL_refusesAny_557 : decode cL_refusesAny 557 = .ok (.iload_n 1, 1) := by decide +kernel
theorem dL_refusesAny_558 : decode cL_refusesAny 558 = .ok (.ifCond .ne 7, 3) := by decide +kernel
theorem dL_refusesAny_561 : decode cL_refusesAny 561 = .ok (.iconst (-1), 1) := by decide +kernel
theorem dL_refusesAny_562 : decode cL_refusesAny 562 = .ok (.goto 4, 3) := by decide +kernel
theorem dL_refusesAny_565 : decode cL_refusesAny 565 = .ok (.iconst 4, 1) := by decide +kernel
theorem dL_refusesAny_566 : decode cL_refusesAny 566 = .ok (.invokevirtual 59, 3) := by decide +kernel
theorem dL_refusesAny_569 : decode cL_refusesAny 569 = .ok (.bipush (-2), 2) := by decide +kernel
theorem dL_refusesAny_571 : decode cL_refusesAny 571 = .ok (.if_icmp .ne 69, 3) := by decide +kernel
theorem dL_refusesAny_574 : decode cL_refusesAny 574 = .ok (.aload_n 0, 1) := by decide +kernel
theorem dL_refusesAny_575 : decode cL_refusesAny 575 = .ok (.iload_n 2, 1) := by decide +kernel
theorem dL_refusesAny_576 : decode cL_refusesAny 576 = .ok (.iconst 0, 1) := by decide +kernel
theorem dL_refusesAny_577 : decode cL_refusesAny 577 = .ok (.bipush 9, 2) := by decide +kernel
theorem dL_refusesAny_579 : decode cL_refusesAny 579 = .ok (.invokevirtual 63, 3) := by decide +kernel
theorem dL_refusesAny_582 : decode cL_refusesAny 582 = .ok (.iconst (-1), 1) := by decide +kernel
theorem dL_refusesAny_583 : decode cL_refusesAny 583 = .ok (.if_icmp .ne 57, 3) := by decide +kernel
theorem dL_refusesAny_586 : decode cL_refusesAny 586 = .ok (.aload_n 0, 1) := by decide +kernel
theorem dL_refusesAny_587 : decode cL_refusesAny 587 = .ok (.iconst 0, 1) := by decide +kernel
theorem dL_refusesAny_588 : decode cL_refusesAny 588 = .ok (.iconst 0, 1) := by decide +kernel
theorem dL_refusesAny_589 : decode cL_refusesAny 589 = .ok (.iload_n 1, 1) := by decide +kernel
theorem dL_refusesAny_590 : decode cL_refusesAny 590 = .ok (.ifCond .ne 7, 3) := by decide +kernel
theorem dL_refusesAny_593 : decode cL_refusesAny 593 = .ok (.iconst (-1), 1) := by decide +kernel
theorem dL_refusesAny_594 : decode cL_refusesAny 594 = .ok (.goto 4, 3) := by decide +kernel
theorem dL_refusesAny_597 : decode cL_refusesAny 597 = .ok (.iconst 2, 1) := by decide +kernel
theorem dL_refusesAny_598 : decode cL_refusesAny 598 = .ok (.invokevirtual 63, 3) := by decide +kernel
theorem dL_refusesAny_601 : decode cL_refusesAny 601 = .ok (.bipush (-2), 2) := by decide +kernel
theorem dL_refusesAny_603 : decode cL_refusesAny 603 = .ok (.if_icmp .ne 37, 3) := by decide +kernel
theorem dL_refusesAny_606 : decode cL_refusesAny 606 = .ok (.aload_n 0, 1) := by decide +kernel
theorem dL_refusesAny_607 : decode cL_refusesAny 607 = .ok (.iload_n 2, 1) := by decide +kernel
theorem dL_refusesAny_608 : decode cL_refusesAny 608 = .ok (.iconst 0, 1) := by decide +kernel
theorem dL_refusesAny_609 : decode cL_refusesAny 609 = .ok (.bipush 9, 2) := by decide +kernel
theorem dL_refusesAny_611 : decode cL_refusesAny 611 = .ok (.invokevirtual 66, 3) := by decide +kernel
theorem dL_refusesAny_614 : decode cL_refusesAny 614 = .ok (.iconst (-1), 1) := by decide +kernel
theorem dL_refusesAny_615 : decode cL_refusesAny 615 = .ok (.if_icmp .ne 25, 3) := by decide +kernel
theorem dL_refusesAny_618 : decode cL_refusesAny 618 = .ok (.aload_n 0, 1) := by decide +kernel
theorem dL_refusesAny_619 : decode cL_refusesAny 619 = .ok (.bipush 9, 2) := by decide +kernel
theorem dL_refusesAny_621 : decode cL_refusesAny 621 = .ok (.bipush 9, 2) := by decide +kernel
theorem dL_refusesAny_623 : decode cL_refusesAny 623 = .ok (.iload_n 1, 1) := by decide +kernel
theorem dL_refusesAny_624 : decode cL_refusesAny 624 = .ok (.ifCond .ne 7, 3) := by decide +kernel
theorem dL_refusesAny_627 : decode cL_refusesAny 627 = .ok (.iconst (-1), 1) := by decide +kernel
theorem dL_refusesAny_628 : decode cL_refusesAny 628 = .ok (.goto 4, 3) := by decide +kernel
theorem dL_refusesAny_631 : decode cL_refusesAny 631 = .ok (.iconst 2, 1) := by decide +kernel
theorem dL_refusesAny_632 : decode cL_refusesAny 632 = .ok (.invokevirtual 66, 3) := by decide +kernel
theorem dL_refusesAny_635 : decode cL_refusesAny 635 = .ok (.bipush (-2), 2) := by decide +kernel
theorem dL_refusesAny_637 : decode cL_refusesAny 637 = .ok (.if_icmp .eq 5, 3) := by decide +kernel
theorem dL_refusesAny_640 : decode cL_refusesAny 640 = .ok (.iconst 0, 1) := by decide +kernel
theorem dL_refusesAny_641 : decode cL_refusesAny 641 = .ok (.ireturn, 1) := by decide +kernel
theorem dL_refusesAny_642 : decode cL_refusesAny 642 = .ok (.aload_n 0, 1) := by decide +kernel
theorem dL_refusesAny_643 : decode cL_refusesAny 643 = .ok (.iload_n 1, 1) := by decide +kernel
theorem dL_refusesAny_644 : decode cL_refusesAny 644 = .ok (.ifCond .ne 7, 3) := by decide +kernel
theorem dL_refusesAny_647 : decode cL_refusesAny 647 = .ok (.iconst 0, 1) := by decide +kernel
theorem dL_refusesAny_648 : decode cL_refusesAny 648 = .ok (.goto 6, 3) := by decide +kernel
theorem dL_refusesAny_651 : decode cL_refusesAny 651 = .ok (.sipush 4097, 3) := by decide +kernel
theorem dL_refusesAny_654 : decode cL_refusesAny 654 = .ok (.invokevirtual 69, 3) := by decide +kernel
theorem dL_refusesAny_657 : decode cL_refusesAny 657 = .ok (.bipush (-2), 2) := by decide +kernel
theorem dL_refusesAny_659 : decode cL_refusesAny 659 = .ok (.if_icmp .ne 85, 3) := by decide +kernel
theorem dL_refusesAny_662 : decode cL_refusesAny 662 = .ok (.aload_n 0, 1) := by decide +kernel
theorem dL_refusesAny_663 : decode cL_refusesAny 663 = .ok (.iload_n 1, 1) := by decide +kernel
theorem dL_refusesAny_664 : decode cL_refusesAny 664 = .ok (.ifCond .ne 7, 3) := by decide +kernel
theorem dL_refusesAny_667 : decode cL_refusesAny 667 = .ok (.iconst (-1), 1) := by decide +kernel
theorem dL_refusesAny_668 : decode cL_refusesAny 668 = .ok (.goto 4, 3) := by decide +kernel
theorem dL_refusesAny_671 : decode cL_refusesAny 671 = .ok (.iconst 2, 1) := by decide +kernel
theorem dL_refusesAny_672 : decode cL_refusesAny 672 = .ok (.invokevirtual 72, 3) := by decide +kernel
theorem dL_refusesAny_675 : decode cL_refusesAny 675 = .ok (.bipush (-2), 2) := by decide +kernel
theorem dL_refusesAny_677 : decode cL_refusesAny 677 = .ok (.if_icmp .ne 67, 3) := by decide +kernel
theorem dL_refusesAny_680 : decode cL_refusesAny 680 = .ok (.aload_n 0, 1) := by decide +kernel
theorem dL_refusesAny_681 : decode cL_refusesAny 681 = .ok (.iload_n 1, 1) := by decide +kernel
theorem dL_refusesAny_682 : decode cL_refusesAny 682 = .ok (.ifCond .ne 7, 3) := by decide +kernel
theorem dL_refusesAny_685 : decode cL_refusesAny 685 = .ok (.iconst (-1), 1) := by decide +kernel
theorem dL_refusesAny_686 : decode cL_refusesAny 686 = .ok (.goto 4, 3) := by decide +kernel
theorem dL_refusesAny_689 : decode cL_refusesAny 689 = .ok (.iconst 2, 1) := by decide +kernel
theorem dL_refusesAny_690 : decode cL_refusesAny 690 = .ok (.invokevirtual 75, 3) := by decide +kernel
theorem dL_refusesAny_693 : decode cL_refusesAny 693 = .ok (.bipush (-2), 2) := by decide +kernel
theorem dL_refusesAny_695 : decode cL_refusesAny 695 = .ok (.if_icmp .ne 49, 3) := by decide +kernel
theorem dL_refusesAny_698 : decode cL_refusesAny 698 = .ok (.aload_n 0, 1) := by decide +kernel
theorem dL_refusesAny_699 : decode cL_refusesAny 699 = .ok (.iload_n 1, 1) := by decide +kernel
theorem dL_refusesAny_700 : decode cL_refusesAny 700 = .ok (.ifCond .ne 7, 3) := by decide +kernel
theorem dL_refusesAny_703 : decode cL_refusesAny 703 = .ok (.lconst 0, 1) := by decide +kernel
theorem dL_refusesAny_704 : decode cL_refusesAny 704 = .ok (.goto 6, 3) := by decide +kernel
theorem dL_refusesAny_707 : decode cL_refusesAny 707 = .ok (.ldc2_w 78, 3) := by decide +kernel
theorem dL_refusesAny_710 : decode cL_refusesAny 710 = .ok (.invokevirtual 80, 3) := by decide +kernel
theorem dL_refusesAny_713 : decode cL_refusesAny 713 = .ok (.bipush (-2), 2) := by decide +kernel
theorem dL_refusesAny_715 : decode cL_refusesAny 715 = .ok (.if_icmp .ne 29, 3) := by decide +kernel
theorem dL_refusesAny_718 : decode cL_refusesAny 718 = .ok (.aload_n 0, 1) := by decide +kernel
theorem dL_refusesAny_719 : decode cL_refusesAny 719 = .ok (.iload_n 1, 1) := by decide +kernel
theorem dL_refusesAny_720 : decode cL_refusesAny 720 = .ok (.ifCond .ne 9, 3) := by decide +kernel
theorem dL_refusesAny_723 : decode cL_refusesAny 723 = .ok (.ldc2_w 84, 3) := by decide +kernel
theorem dL_refusesAny_726 : decode cL_refusesAny 726 = .ok (.goto 6, 3) := by decide +kernel
theorem dL_refusesAny_729 : decode cL_refusesAny 729 = .ok (.ldc2_w 86, 3) := by decide +kernel
theorem dL_refusesAny_732 : decode cL_refusesAny 732 = .ok (.invokevirtual 80, 3) := by decide +kernel
theorem dL_refusesAny_735 : decode cL_refusesAny 735 = .ok (.bipush (-2), 2) := by decide +kernel
