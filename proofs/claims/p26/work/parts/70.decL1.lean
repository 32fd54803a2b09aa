theorem dL_refusesAny_412 : decode cL_refusesAny 412 = .ok (.iload_n 1, 1) := by decide +kernel
theorem dL_refusesAny_413 : decode cL_refusesAny 413 = .ok (.ifCond .ne 7, 3) := by decide +kernel
theorem dL_refusesAny_416 : decode cL_refusesAny 416 = .ok (.iconst (-1), 1) := by decide +kernel
theorem dL_refusesAny_417 : decode cL_refusesAny 417 = .ok (.goto 5, 3) := by decide +kernel
theorem dL_refusesAny_420 : decode cL_refusesAny 420 = .ok (.bipush 8, 2) := by decide +kernel
theorem dL_refusesAny_422 : decode cL_refusesAny 422 = .ok (.iconst 0, 1) := by decide +kernel
theorem dL_refusesAny_423 : decode cL_refusesAny 423 = .ok (.invokevirtual 53, 3) := by decide +kernel
theorem dL_refusesAny_426 : decode cL_refusesAny 426 = .ok (.bipush (-2), 2) := by decide +kernel
theorem dL_refusesAny_428 : decode cL_refusesAny 428 = .ok (.if_icmp .ne 52, 3) := by decide +kernel
theorem dL_refusesAny_431 : decode cL_refusesAny 431 = .ok (.aload_n 0, 1) := by decide +kernel
theorem dL_refusesAny_432 : decode cL_refusesAny 432 = .ok (.iconst 1, 1) := by decide +kernel
theorem dL_refusesAny_433 : decode cL_refusesAny 433 = .ok (.iconst 0, 1) := by decide +kernel
theorem dL_refusesAny_434 : decode cL_refusesAny 434 = .ok (.iload_n 1, 1) := by decide +kernel
theorem dL_refusesAny_435 : decode cL_refusesAny 435 = .ok (.ifCond .ne 7, 3) := by decide +kernel
theorem dL_refusesAny_438 : decode cL_refusesAny 438 = .ok (.iconst (-1), 1) := by decide +kernel
theorem dL_refusesAny_439 : decode cL_refusesAny 439 = .ok (.goto 4, 3) := by decide +kernel
theorem dL_refusesAny_442 : decode cL_refusesAny 442 = .ok (.iconst 2, 1) := by decide +kernel
theorem dL_refusesAny_443 : decode cL_refusesAny 443 = .ok (.invokevirtual 53, 3) := by decide +kernel
theorem dL_refusesAny_446 : decode cL_refusesAny 446 = .ok (.bipush (-2), 2) := by decide +kernel
theorem dL_refusesAny_448 : decode cL_refusesAny 448 = .ok (.if_icmp .ne 32, 3) := by decide +kernel
theorem dL_refusesAny_451 : decode cL_refusesAny 451 = .ok (.aload_n 0, 1) := by decide +kernel
theorem dL_refusesAny_452 : decode cL_refusesAny 452 = .ok (.iload 4, 2) := by decide +kernel
theorem dL_refusesAny_454 : decode cL_refusesAny 454 = .ok (.invokevirtual 56, 3) := by decide +kernel
theorem dL_refusesAny_457 : decode cL_refusesAny 457 = .ok (.iconst (-1), 1) := by decide +kernel
theorem dL_refusesAny_458 : decode cL_refusesAny 458 = .ok (.if_icmp .ne 22, 3) := by decide +kernel
theorem dL_refusesAny_461 : decode cL_refusesAny 461 = .ok (.aload_n 0, 1) := by decide +kernel
theorem dL_refusesAny_462 : decode cL_refusesAny 462 = .ok (.iload_n 1, 1) := by decide +kernel
theorem dL_refusesAny_463 : decode cL_refusesAny 463 = .ok (.ifCond .ne 7, 3) := by decide +kernel
theorem dL_refusesAny_466 : decode cL_refusesAny 466 = .ok (.iconst (-1), 1) := by decide +kernel
theorem dL_refusesAny_467 : decode cL_refusesAny 467 = .ok (.goto 5, 3) := by decide +kernel
theorem dL_refusesAny_470 : decode cL_refusesAny 470 = .ok (.bipush 11, 2) := by decide +kernel
theorem dL_refusesAny_472 : decode cL_refusesAny 472 = .ok (.invokevirtual 11, 3) := by decide +kernel
theorem dL_refusesAny_475 : decode cL_refusesAny 475 = .ok (.bipush (-2), 2) := by decide +kernel
theorem dL_refusesAny_477 : decode cL_refusesAny 477 = .ok (.if_icmp .eq 5, 3) := by decide +kernel
theorem dL_refusesAny_480 : decode cL_refusesAny 480 = .ok (.iconst 0, 1) := by decide +kernel
theorem dL_refusesAny_481 : decode cL_refusesAny 481 = .ok (.ireturn, 1) := by decide +kernel
theorem dL_refusesAny_482 : decode cL_refusesAny 482 = .ok (.aload_n 0, 1) := by decide +kernel
theorem dL_refusesAny_483 : decode cL_refusesAny 483 = .ok (.iload_n 2, 1) := by decide +kernel
theorem dL_refusesAny_484 : decode cL_refusesAny 484 = .ok (.iconst 0, 1) := by decide +kernel
theorem dL_refusesAny_485 : decode cL_refusesAny 485 = .ok (.iconst 0, 1) := by decide +kernel
theorem dL_refusesAny_486 : decode cL_refusesAny 486 = .ok (.iconst 0, 1) := by decide +kernel
theorem dL_refusesAny_487 : decode cL_refusesAny 487 = .ok (.bipush 9, 2) := by decide +kernel
theorem dL_refusesAny_489 : decode cL_refusesAny 489 = .ok (.invokevirtual 59, 3) := by decide +kernel
theorem dL_refusesAny_492 : decode cL_refusesAny 492 = .ok (.iconst (-1), 1) := by decide +kernel
theorem dL_refusesAny_493 : decode cL_refusesAny 493 = .ok (.if_icmp .ne 147, 3) := by decide +kernel
theorem dL_refusesAny_496 : decode cL_refusesAny 496 = .ok (.aload_n 0, 1) := by decide +kernel
theorem dL_refusesAny_497 : decode cL_refusesAny 497 = .ok (.iconst 0, 1) := by decide +kernel
theorem dL_refusesAny_498 : decode cL_refusesAny 498 = .ok (.iconst 0, 1) := by decide +kernel
theorem dL_refusesAny_499 : decode cL_refusesAny 499 = .ok (.iload_n 2, 1) := by decide +kernel
theorem dL_refusesAny_500 : decode cL_refusesAny 500 = .ok (.iconst 0, 1) := by decide +kernel
theorem dL_refusesAny_501 : decode cL_refusesAny 501 = .ok (.bipush 9, 2) := by decide +kernel
theorem dL_refusesAny_503 : decode cL_refusesAny 503 = .ok (.invokevirtual 59, 3) := by decide +kernel
theorem dL_refusesAny_506 : decode cL_refusesAny 506 = .ok (.iconst (-1), 1) := by decide +kernel
theorem dL_refusesAny_507 : decode cL_refusesAny 507 = .ok (.if_icmp .ne 133, 3) := by decide +kernel
theorem dL_refusesAny_510 : decode cL_refusesAny 510 = .ok (.aload_n 0, 1) := by decide +kernel
theorem dL_refusesAny_511 : decode cL_refusesAny 511 = .ok (.iconst 0, 1) := by decide +kernel
theorem dL_refusesAny_512 : decode cL_refusesAny 512 = .ok (.iconst 0, 1) := by decide +kernel
theorem dL_refusesAny_513 : decode cL_refusesAny 513 = .ok (.iconst 0, 1) := by decide +kernel
theorem dL_refusesAny_514 : decode cL_refusesAny 514 = .ok (.iload_n 2, 1) := by decide +kernel
theorem dL_refusesAny_515 : decode cL_refusesAny 515 = .ok (.bipush 9, 2) := by decide +kernel
theorem dL_refusesAny_517 : decode cL_refusesAny 517 = .ok (.invokevirtual 59, 3) := by decide +kernel
theorem dL_refusesAny_520 : decode cL_refusesAny 520 = .ok (.iconst (-1), 1) := by decide +kernel
theorem dL_refusesAny_521 : decode cL_refusesAny 521 = .ok (.if_icmp .ne 119, 3) := by decide +kernel
theorem dL_refusesAny_524 : decode cL_refusesAny 524 = .ok (.aload_n 0, 1) := by decide +kernel
theorem dL_refusesAny_525 : decode cL_refusesAny 525 = .ok (.iconst 1, 1) := by decide +kernel
theorem dL_refusesAny_526 : decode cL_refusesAny 526 = .ok (.iconst 0, 1) := by decide +kernel
theorem dL_refusesAny_527 : decode cL_refusesAny 527 = .ok (.iconst 0, 1) := by decide +kernel
theorem dL_refusesAny_528 : decode cL_refusesAny 528 = .ok (.iconst 0, 1) := by decide +kernel
theorem dL_refusesAny_529 : decode cL_refusesAny 529 = .ok (.iconst 0, 1) := by decide +kernel
theorem dL_refusesAny_530 : decode cL_refusesAny 530 = .ok (.invokevirtual 59, 3) := by decide +kernel
theorem dL_refusesAny_533 : decode cL_refusesAny 533 = .ok (.bipush (-2), 2) := by decide +kernel
theorem dL_refusesAny_535 : decode cL_refusesAny 535 = .ok (.if_icmp .ne 105, 3) := by decide +kernel
theorem dL_refusesAny_538 : decode cL_refusesAny 538 = .ok (.aload_n 0, 1) := by decide +kernel
theorem dL_refusesAny_539 : decode cL_refusesAny 539 = .ok (.iconst 0, 1) := by decide +kernel
theorem dL_refusesAny_540 : decode cL_refusesAny 540 = .ok (.iconst 1, 1) := by decide +kernel
theorem dL_refusesAny_541 : decode cL_refusesAny 541 = .ok (.iconst 0, 1) := by decide +kernel
theorem dL_refusesAny_542 : decode cL_refusesAny 542 = .ok (.iconst 0, 1) := by decide +kernel
theorem dL_refusesAny_543 : decode cL_refusesAny 543 = .ok (.iconst 0, 1) := by decide +kernel
theorem dL_refusesAny_544 : decode cL_refusesAny 544 = .ok (.invokevirtual 59, 3) := by decide +kernel
theorem dL_refusesAny_547 : decode cL_refusesAny 547 = .ok (.bipush (-2), 2) := by decide +kernel
theorem dL_refusesAny_549 : decode cL_refusesAny 549 = .ok (.if_icmp .ne 91, 3) := by decide +kernel
theorem dL_refusesAny_552 : decode cL_refusesAny 552 = .ok (.aload_n 0, 1) := by decide +kernel
theorem dL_refusesAny_553 : decode cL_refusesAny 553 = .ok (.iconst 0, 1) := by decide +kernel
theorem dL_refusesAny_554 : decode cL_refusesAny 554 = .ok (.iconst 0, 1) := by decide +kernel
theorem dL_refusesAny_555 : decode cL_refusesAny 555 = .ok (.iconst 0, 1) := by decide +kernel
theorem dL_refusesAny_556 : decode cL_refusesAny 556 = .ok (.iconst 0, 1) := by decide +kernel
theorem dL_refusesAny_557 : decode cL_refusesAny 557 = .ok (.iload_n 1, 1) := by decide +kernel
theorem dL_refusesAny_558 : decode cL_refusesAny 558 = .ok (.ifCond .ne 7, 3) := by decide +kernel
theorem dL_refusesAny_561 : decode cL_refusesAny 561 = .ok (.iconst (-1), 1) := by decide +kernel
theorem dL_refusesAny_562 : decode cL_refusesAny 562 = .ok (.goto 4, 3) := by decide +kernel
theorem dL_refusesAny_565 : decode cL_refusesAny 565 = .ok (.iconst 4, 1) := by decide +kernel
theorem dL_refusesAny_566 : decode cL_refusesAny 566 = .ok (.invokevirtual 59, 3) := by decide +kernel
theorem dL_refusesAny_569 : decode cL_refusesAny 569 = .ok (.bipush (-2), 2) := by decide +kernel
theorem dL_refusesAny_571 : decode cL_refusesAny 571 = .ok (.if_icmp .ne 69, 3) := by decide +kernel
theorem dL_refusesAny_574 : decode cL_refusesAny 574 = .ok (.aload_n 0, 1) := by decide +kernel
theorem dL_refusesAny_575 : decode cL_refusesAny 575 = .ok (.iload_n 2, 1) := by decide +kernel
theorem dL_refusesAny_576 : decode cL_refusesAny 576 = .ok (.iconst 0, 1) := by decide +kernel
theorem dL_refusesAny_577 : decode cL_refusesAny 577 = .ok (.bipush 9, 2) := by decide +kernel
theorem dL_refusesAny_579 : decode cL_refusesAny 579 = .ok (.invokevirtual 63, 3) := by decide +kernel
theorem dL_refusesAny_582 : decode cL_refusesAny 582 = .ok (.iconst (-1), 1) := by decide +kernel
theorem dL_refusesAny_583 : decode cL_refusesAny 583 = .ok (.if_icmp .ne 57, 3) := by decide +kernel
theorem dL_refusesAny_586 : decode cL_refusesAny 586 = .ok (.aload_n 0, 1) := by decide +kernel
theorem dL_refusesAny_587 : decode cL_refusesAny 587 = .ok (.iconst 0, 1) := by decide +kernel
theorem dL_refusesAny_588 : decode cL_refusesAny 588 = .ok (.iconst 0, 1) := by decide +kernel
theorem dL_refusesAny_589 : decode cL_refusesAny 589 = .ok (.iload_n 1, 1) := by decide +kernel
theorem dL_refusesAny_590 : decode cL_refusesAny 590 = .ok (.ifCond .ne 7, 3) := by decide +kernel
theorem dL_refusesAny_593 : decode cL_refusesAny 593 = .ok (.iconst (-1), 1) := by decide +kernel
theorem dL_refusesAny_594 : decode cL_refusesAny 594 = .ok (.goto 4, 3) := by decide +kernel
theorem dL_refusesAny_597 : decode cL_refusesAny 597 = .ok (.iconst 2, 1) := by decide +kernel
theorem dL_refusesAny_598 : decode cL_refusesAny 598 = .ok (.invokevirtual 63, 3) := by decide +kernel
theorem dL_refusesAny_601 : decode cL_refusesAny 601 = .ok (.bipush (-2), 2) := by decide +kernel
theorem dL_refusesAny_603 : decode cL_refusesAny 603 = .ok (.if_icmp .ne 37, 3) := by decide +kernel
theorem dL_refusesAny_606 : decode cL_refusesAny 606 = .ok (.aload_n 0, 1) := by decide +kernel
theorem dL_refusesAny_607 : decode cL_refusesAny 607 = .ok (.iload_n 2, 1) := by decide +kernel
theorem dL_refusesAny_608 : decode cL_refusesAny 608 = .ok (.iconst 0, 1) := by decide +kernel
theorem dL_refusesAny_609 : decode cL_refusesAny 609 = .ok (.bipush 9, 2) := by decide +kernel
theorem dL_refusesAny_611 : decode cL_refusesAny 611 = .ok (.invokevirtual 66, 3) := by decide +kernel
theorem dL_refusesAny_614 : decode cL_refusesAny 614 = .ok (.iconst (-1), 1) := by decide +kernel
theorem dL_refusesAny_615 : decode cL_refusesAny 615 = .ok (.if_icmp .ne 25, 3) := by decide +kernel
theorem dL_refusesAny_618 : decode cL_refusesAny 618 = .ok (.aload_n 0, 1) := by decide +kernel
theorem dL_refusesAny_619 : decode cL_refusesAny 619 = .ok (.bipush 9, 2) := by decide +kernel
theorem dL_refusesAny_621 : decode cL_refusesAny 621 = .ok (.bipush 9, 2) := by decide +kernel
theorem dL_refusesAny_623 : decode cL_refusesAny 623 = .ok (.iload_n 1, 1) := by decide +kernel
theorem dL_refusesAny_624 : decode cL_refusesAny 624 = .ok (.ifCond .ne 7, 3) := by decide +kernel
theorem dL_refusesAny_627 : decode cL_refusesAny 627 = .ok (.iconst (-1), 1) := by decide +kernel
theorem dL_refusesAny_628 : decode cL_refusesAny 628 = .ok (.goto 4, 3) := by decide +kernel
theorem dL_refusesAny_631 : decode cL_refusesAny 631 = .ok (.iconst 2, 1) := by decide +kernel
theorem dL_refusesAny_632 : decode cL_refusesAny 632 = .ok (.invokevirtual 66, 3) := by decide +kernel
theorem dL_refusesAny_635 : decode cL_refusesAny 635 = .ok (.bipush (-2), 2) := by decide +kernel
theorem dL_refusesAny_637 : decode cL_refusesAny 637 = .ok (.if_icmp .eq 5, 3) := by decide +kernel
theorem dL_refusesAny_640 : decode cL_refusesAny 640 = .ok (.iconst 0, 1) := by decide +kernel
theorem dL_refusesAny_641 : decode cL_refusesAny 641 = .ok (.ireturn, 1) := by decide +kernel
theorem dL_refusesAny_642 : decode cL_refusesAny 642 = .ok (.aload_n 0, 1) := by decide +kernel
theorem dL_refusesAny_643 : decode cL_refusesAny 643 = .ok (.iload_n 1, 1) := by decide +kernel
theorem dL_refusesAny_644 : decode cL_refusesAny 644 = .ok (.ifCond .ne 7, 3) := by decide +kernel
theorem dL_refusesAny_647 : decode cL_refusesAny 647 = .ok (.iconst 0, 1) := by decide +kernel
theorem dL_refusesAny_648 : decode cL_refusesAny 648 = .ok (.goto 6, 3) := by decide +kernel
theorem dL_refusesAny_651 : decode cL_refusesAny 651 = .ok (.sipush 4097, 3) := by decide +kernel
theorem dL_refusesAny_654 : decode cL_refusesAny 654 = .ok (.invokevirtual 69, 3) := by decide +kernel
theorem dL_refusesAny_657 : decode cL_refusesAny 657 = .ok (.bipush (-2), 2) := by decide +kernel
theorem dL_refusesAny_659 : decode cL_refusesAny 659 = .ok (.if_icmp .ne 85, 3) := by decide +kernel
theorem dL_refusesAny_662 : decode cL_refusesAny 662 = .ok (.aload_n 0, 1) := by decide +kernel
theorem dL_refusesAny_663 : decode cL_refusesAny 663 = .ok (.iload_n 1, 1) := by decide +kernel
theorem dL_refusesAny_664 : decode cL_refusesAny 664 = .ok (.ifCond .ne 7, 3) := by decide +kernel
theorem dL_refusesAny_667 : decode cL_refusesAny 667 = .ok (.iconst (-1), 1) := by decide +kernel
theorem dL_refusesAny_668 : decode cL_refusesAny 668 = .ok (.goto 4, 3) := by decide +kernel
theorem dL_refusesAny_671 : decode cL_refusesAny 671 = .ok (.iconst 2, 1) := by decide +kernel
theorem dL_refusesAny_672 : decode cL_refusesAny 672 = .ok (.invokevirtual 72, 3) := by decide +kernel
theorem dL_refusesAny_675 : decode cL_refusesAny 675 = .ok (.bipush (-2), 2) := by decide +kernel
theorem dL_refusesAny_677 : decode cL_refusesAny 677 = .ok (.if_icmp .ne 67, 3) := by decide +kernel
theorem dL_refusesAny_680 : decode cL_refusesAny 680 = .ok (.aload_n 0, 1) := by decide +kernel
theorem dL_refusesAny_681 : decode cL_refusesAny 681 = .ok (.iload_n 1, 1) := by decide +kernel
theorem dL_refusesAny_682 : decode cL_refusesAny 682 = .ok (.ifCond .ne 7, 3) := by decide +kernel
theorem dL_refusesAny_685 : decode cL_refusesAny 685 = .ok (.iconst (-1), 1) := by decide +kernel
theorem dL_refusesAny_686 : decode cL_refusesAny 686 = .ok (.goto 4, 3) := by decide +kernel
theorem dL_refusesAny_689 : decode cL_refusesAny 689 = .ok (.iconst 2, 1) := by decide +kernel
theorem dL_refusesAny_690 : decode cL_refusesAny 690 = .ok (.invokevirtual 75, 3) := by decide +kernel
theorem dL_refusesAny_693 : decode cL_refusesAny 693 = .ok (.bipush (-2), 2) := by decide +kernel
theorem dL_refusesAny_695 : decode cL_refusesAny 695 = .ok (.if_icmp .ne 49, 3) := by decide +kernel
theorem dL_refusesAny_698 : decode cL_refusesAny 698 = .ok (.aload_n 0, 1) := by decide +kernel
theorem dL_refusesAny_699 : decode cL_refusesAny 699 = .ok (.iload_n 1, 1) := by decide +kernel
theorem dL_refusesAny_700 : decode cL_refusesAny 700 = .ok (.ifCond .ne 7, 3) := by decide +kernel
theorem dL_refusesAny_703 : decode cL_refusesAny 703 = .ok (.lconst 0, 1) := by decide +kernel
theorem dL_refusesAny_704 : decode cL_refusesAny 704 = .ok (.goto 6, 3) := by decide +kernel
theorem dL_refusesAny_707 : decode cL_refusesAny 707 = .ok (.ldc2_w 78, 3) := by decide +kernel
theorem dL_refusesAny_710 : decode cL_refusesAny 710 = .ok (.invokevirtual 80, 3) := by decide +kernel
theorem dL_refusesAny_713 : decode cL_refusesAny 713 = .ok (.bipush (-2), 2) := by decide +kernel
theorem dL_refusesAny_715 : decode cL_refusesAny 715 = .ok (.if_icmp .ne 29, 3) := by decide +kernel
theorem dL_refusesAny_718 : decode cL_refusesAny 718 = .ok (.aload_n 0, 1) := by decide +kernel
theorem dL_refusesAny_719 : decode cL_refusesAny 719 = .ok (.iload_n 1, 1) := by decide +kernel
theorem dL_refusesAny_720 : decode cL_refusesAny 720 = .ok (.ifCond .ne 9, 3) := by decide +kernel
theorem dL_refusesAny_723 : decode cL_refusesAny 723 = .ok (.ldc2_w 84, 3) := by decide +kernel
theorem dL_refusesAny_726 : decode cL_refusesAny 726 = .ok (.goto 6, 3) := by decide +kernel
theorem dL_refusesAny_729 : decode cL_refusesAny 729 = .ok (.ldc2_w 86, 3) := by decide +kernel
theorem dL_refusesAny_732 : decode cL_refusesAny 732 = .ok (.invokevirtual 80, 3) := by decide +kernel
theorem dL_refusesAny_735 : decode cL_refusesAny 735 = .ok (.bipush (-2), 2) := by decide +kernel
theorem dL_refusesAny_737 : decode cL_refusesAny 737 = .ok (.if_icmp .ne 7, 3) := by decide +kernel
theorem dL_refusesAny_740 : decode cL_refusesAny 740 = .ok (.iconst 1, 1) := by decide +kernel
theorem dL_refusesAny_741 : decode cL_refusesAny 741 = .ok (.goto 4, 3) := by decide +kernel
theorem dL_refusesAny_744 : decode cL_refusesAny 744 = .ok (.iconst 0, 1) := by decide +kernel
theorem dL_refusesAny_745 : decode cL_refusesAny 745 = .ok (.ireturn, 1) := by decide +kernel
set_option maxRecDepth 20000 in
theorem ggL_refused_L_seen : GoodIn wsL_refused wsL_seen := goodIn_r _ [4, 5, 6, 7, 8, 9, 10, 11, 12, 13, 14, 15, 16, 17, 18, 19, 20, 21, 22, 23, 24, 25, 26, 27, 28, 29, 30, 31, 32, 33, 34, 35, 36, 37, 38, 39, 40, 41, 42, 43, 44, 45, 46, 47, 48, 49, 50, 51, 52, 53, 54, 55, 56, 57, 58, 59, 60, 61, 62, 63, 64, 65, 66, 67, 68, 69, 70, 71, 72, 73, 74, 75, 76, 77, 78, 79, 80, 81, 82, 83, 84, 85, 86, 87, 88, 89, 90, 91, 92, 93, 94, 95, 96, 97, 98, 99, 100, 101, 102, 103, 104, 105, 106, 107, 108, 109, 110, 111, 112, 113, 114, 115, 116, 117, 118, 119, 120, 121, 122, 123, 124, 125, 126, 127, 128, 129, 130, 131, 132, 133, 134, 135, 136, 137, 138, 139, 140, 141, 142, 143, 144, 145, 146, 147, 148, 149, 150, 151, 152, 153, 154, 443, 444, 445, 446, 447, 448, 449, 450, 451, 452, 453, 454, 455, 456, 457, 458, 459] (by decide +kernel) (by decide +kernel)
set_option maxRecDepth 20000 in
theorem gL_refused_L_seen : GoodIn wsL_refused (va_wsS RL 88 yL_seen wsL_seen) := goodIn_app (goodIn_of _ (by decide +kernel)) ggL_refused_L_seen
set_option maxRecDepth 20000 in
theorem ggL_refused_X7_count : GoodIn wsL_refused wsX7_count := goodIn_r _ [10, 11, 12, 13, 14, 15, 16, 17, 18, 19, 20, 21, 22, 23, 24, 25, 26, 27, 28, 29, 30, 31, 32, 33, 34, 35, 36, 37, 38, 39, 40, 41, 42, 43, 44, 45, 46, 47, 48, 49, 50, 51, 52, 53, 54, 55, 56, 57, 58, 59, 60, 61, 62, 63, 64, 65, 66, 67, 68, 69, 70, 71, 72, 73, 74, 75, 76, 77, 78, 79, 80, 81, 82, 83, 84, 85, 86, 87, 88, 89, 90, 91, 92, 93, 94, 95, 96, 97, 98, 99, 100, 101, 102, 103, 104, 105, 106, 107, 108, 109, 443, 444, 445, 446, 447, 448, 449, 450, 451, 452, 453, 454, 455, 456, 457, 458, 459] (by decide +kernel) (by decide +kernel)
set_option maxRecDepth 20000 in
theorem gL_refused_X7_count : GoodIn wsL_refused (wsV RL 11 RX7 yX7_count wsX7_count) := goodIn_app (goodIn_of _ (by decide +kernel)) ggL_refused_X7_count
set_option maxRecDepth 20000 in
theorem ggL_refused_L_refusesAny : GoodIn wsL_refused wsL_refusesAny := goodIn_r _ [157, 158, 159, 160, 6, 7, 8, 9, 10, 11, 12, 13, 14, 15, 16, 17, 18, 19, 20, 21, 22, 23, 24, 25, 26, 27, 28, 29, 30, 31, 32, 33, 34, 35, 36, 37, 38, 39, 40, 41, 42, 43, 44, 45, 46, 47, 48, 49, 50, 51, 52, 53, 54, 55, 56, 57, 58, 59, 60, 61, 62, 63, 64, 65, 66, 67, 68, 69, 70, 71, 72, 73, 74, 75, 76, 77, 78, 79, 80, 81, 82, 83, 84, 85, 86, 87, 88, 89, 90, 91, 92, 93, 94, 95, 96, 97, 98, 99, 100, 101, 102, 103, 104, 105, 106, 107, 108, 109, 161, 162, 163, 164, 165, 166, 167, 168, 169, 170, 171, 172, 173, 174, 175, 176, 177, 178, 179, 123, 180, 181, 182, 183, 118, 184, 185, 186, 187, 188, 189, 190, 191, 192, 193, 194, 195, 196, 197, 198, 199, 135, 120, 121, 122, 124, 115, 116, 117, 200, 201, 202, 203, 204, 205, 206, 207, 208, 209, 210, 211, 212, 213, 214, 215, 114, 216, 217, 218, 219, 220, 221, 222, 223, 224, 225, 226, 227, 228, 229, 230, 231, 232, 233, 234, 235, 236, 237, 238, 239, 240, 241, 140, 141, 142, 153, 242, 243, 244, 245, 246, 247, 248, 249, 250, 251, 252, 253, 254, 255, 256, 257, 258, 259, 260, 261, 262, 263, 264, 265, 266, 267, 268, 269, 270, 271, 272, 273, 274, 275, 276, 277, 278, 279, 280, 281, 282, 283, 284, 110, 111, 112, 113, 119, 125, 126, 127, 128, 129, 130, 131, 132, 133, 134, 285, 286, 287, 288, 136, 137, 138, 139, 143, 144, 145, 146, 147, 148, 149, 150, 151, 152, 154, 289, 290, 291, 292, 293, 294, 295, 296, 297, 298, 299, 300, 301, 302, 303, 304, 305, 306, 307, 308, 309, 310, 311, 312, 313, 314, 315, 316, 317, 318, 319, 320, 321, 322, 323, 324, 325, 326, 327, 328, 329, 330, 331, 332, 333, 334, 335, 336, 337, 338, 339, 340, 341, 342, 343, 344, 345, 346, 347, 348, 349, 350, 351, 352, 353, 354, 355, 356, 357, 358, 359, 360, 361, 362, 363, 364, 365, 366, 367, 368, 369, 370, 371, 372, 373, 374, 375, 376, 377, 378, 379, 380, 381, 382, 383, 384, 385, 386, 387, 388, 389, 390, 391, 392, 393, 394, 395, 396, 397, 398, 399, 400, 401, 402, 403, 404, 405, 406, 407, 408, 409, 410, 411, 412, 413, 414, 415, 416, 417, 418, 419, 420, 421, 422, 423, 424, 425, 426, 427, 428, 429, 430, 431, 432, 433, 434, 435, 436, 437, 438, 439, 440, 441, 442, 443, 444, 445, 446, 447, 448, 449, 450, 451, 452, 453, 454, 455, 456, 457, 458, 459, 460, 461, 462, 463, 464, 465] (by decide +kernel) (by decide +kernel)
set_option maxRecDepth 20000 in
theorem gL_refused_L_refusesAny : GoodIn wsL_refused (va_wsS RL 92 yL_refusesAny wsL_refusesAny) := goodIn_app (goodIn_of _ (by decide +kernel)) ggL_refused_L_refusesAny
theorem dL_refused_0 : decode cL_refused 0 = .ok (.aload_n 0, 1) := by decide +kernel
theorem dL_refused_1 : decode cL_refused 1 = .ok (.invokestatic 88, 3) := by decide +kernel
theorem dL_refused_4 : decode cL_refused 4 = .ok (.lstore_n 1, 1) := by decide +kernel
theorem dL_refused_5 : decode cL_refused 5 = .ok (.aload_n 0, 1) := by decide +kernel
theorem dL_refused_6 : decode cL_refused 6 = .ok (.bipush 10, 2) := by decide +kernel
theorem dL_refused_8 : decode cL_refused 8 = .ok (.invokevirtual 11, 3) := by decide +kernel
theorem dL_refused_11 : decode cL_refused 11 = .ok (.istore_n 3, 1) := by decide +kernel
theorem dL_refused_12 : decode cL_refused 12 = .ok (.aload_n 0, 1) := by decide +kernel
theorem dL_refused_13 : decode cL_refused 13 = .ok (.iconst 0, 1) := by decide +kernel
theorem dL_refused_14 : decode cL_refused 14 = .ok (.invokestatic 92, 3) := by decide +kernel
theorem dL_refused_17 : decode cL_refused 17 = .ok (.ifCond .eq 34, 3) := by decide +kernel
theorem dL_refused_20 : decode cL_refused 20 = .ok (.aload_n 0, 1) := by decide +kernel
theorem dL_refused_21 : decode cL_refused 21 = .ok (.iconst 1, 1) := by decide +kernel
theorem dL_refused_22 : decode cL_refused 22 = .ok (.invokestatic 92, 3) := by decide +kernel
theorem dL_refused_25 : decode cL_refused 25 = .ok (.ifCond .eq 26, 3) := by decide +kernel
theorem dL_refused_28 : decode cL_refused 28 = .ok (.aload_n 0, 1) := by decide +kernel
theorem dL_refused_29 : decode cL_refused 29 = .ok (.invokestatic 88, 3) := by decide +kernel
theorem dL_refused_32 : decode cL_refused 32 = .ok (.lload_n 1, 1) := by decide +kernel
theorem dL_refused_33 : decode cL_refused 33 = .ok (.lcmp, 1) := by decide +kernel
theorem dL_refused_34 : decode cL_refused 34 = .ok (.ifCond .ne 17, 3) := by decide +kernel
theorem dL_refused_37 : decode cL_refused 37 = .ok (.aload_n 0, 1) := by decide +kernel
theorem dL_refused_38 : decode cL_refused 38 = .ok (.bipush 10, 2) := by decide +kernel
theorem dL_refused_40 : decode cL_refused 40 = .ok (.invokevirtual 11, 3) := by decide +kernel
theorem dL_refused_43 : decode cL_refused 43 = .ok (.iload_n 3, 1) := by decide +kernel
theorem dL_refused_44 : decode cL_refused 44 = .ok (.if_icmp .ne 7, 3) := by decide +kernel
theorem dL_refused_47 : decode cL_refused 47 = .ok (.iconst 1, 1) := by decide +kernel
theorem dL_refused_48 : decode cL_refused 48 = .ok (.goto 4, 3) := by decide +kernel
theorem dL_refused_51 : decode cL_refused 51 = .ok (.iconst 0, 1) := by decide +kernel
theorem dL_refused_52 : decode cL_refused 52 = .ok (.ireturn, 1) := by decide +kernel
set_option maxRecDepth 20000 in
theorem ggL_corner_X7_init : GoodIn wsL_corner wsX7_init := goodIn_r _ [6, 7, 8, 9, 10, 11, 12, 13, 14, 15, 16, 17, 18, 19, 20, 21, 22, 23, 24, 25, 26, 27, 28, 29, 30, 31, 32, 33, 34, 35, 36, 37, 38, 39, 40, 41, 42, 43, 44, 45, 46, 47, 48, 49, 50, 51, 52, 53, 54, 55, 56, 57, 58, 59, 60, 496, 497, 492, 493, 494, 495, 498, 499, 500, 501, 502, 503, 504, 505, 506, 507, 508, 509, 510] (by decide +kernel) (by decide +kernel)
set_option maxRecDepth 20000 in
theorem gL_corner_X7_init : GoodIn wsL_corner (wsX7_init) := ggL_corner_X7_init
set_option maxRecDepth 20000 in
theorem ggL_corner_X7_undo : GoodIn wsL_corner wsX7_undo := goodIn_r _ [64, 17, 65, 13, 66, 67, 68, 16, 69, 70, 71, 72, 73, 74, 47, 75, 76, 77, 12, 78, 32, 79, 80, 81, 82, 83, 84, 85, 86, 31, 87, 38, 88, 89, 90, 91, 92, 93, 94, 95, 96, 34, 97, 98, 99, 100, 101, 102, 103, 104, 105, 106, 107, 108, 39, 109, 40, 41, 492, 493, 494, 495, 498, 499, 496, 497, 505, 506, 507, 508, 509, 510] (by decide +kernel) (by decide +kernel)
set_option maxRecDepth 20000 in
theorem gL_corner_X7_undo : GoodIn wsL_corner (wsV RL 97 RX7 yX7_undo wsX7_undo) := goodIn_app (goodIn_of _ (by decide +kernel)) ggL_corner_X7_undo
set_option maxRecDepth 20000 in
theorem ggL_corner_X7_restore : GoodIn wsL_corner wsX7_restore := goodIn_r _ [113, 21, 17, 13, 114, 115, 116, 117, 20, 118, 119, 120, 121, 122, 55, 123, 124, 125, 126, 16, 127, 70, 47, 128, 129, 130, 131, 132, 102, 103, 31, 104, 38, 105, 106, 107, 108, 39, 92, 109, 40, 41, 133, 134, 135, 136, 53, 75, 76, 77, 12, 78, 32, 79, 80, 81, 82, 83, 84, 85, 86, 87, 88, 89, 90, 91, 93, 94, 95, 96, 34, 97, 98, 99, 100, 101, 492, 493, 494, 495, 496, 497, 505, 506, 507, 508, 509, 510, 500, 501, 498, 499] (by decide +kernel) (by decide +kernel)
set_option maxRecDepth 20000 in
theorem gL_corner_X7_restore : GoodIn wsL_corner (wsV RL 75 RX7 yX7_restore wsX7_restore) := goodIn_app (goodIn_of _ (by decide +kernel)) ggL_corner_X7_restore
set_option maxRecDepth 20000 in
theorem ggL_corner_X7_count : GoodIn wsL_corner wsX7_count := goodIn_r _ [140, 13, 114, 115, 141, 142, 143, 25, 144, 17, 65, 145, 146, 147, 12, 148, 149, 150, 151, 152, 153, 154, 155, 32, 156, 157, 158, 159, 160, 161, 34, 162, 163, 164, 31, 165, 166, 167, 168, 169, 109, 39, 170, 171, 172, 173, 174, 175, 176, 177, 72, 73, 74, 178, 179, 180, 181, 182, 183, 184, 185, 186, 187, 188, 189, 99, 190, 191, 192, 193, 194, 195, 196, 197, 198, 199, 200, 201, 202, 203, 204, 205, 206, 207, 208, 209, 210, 211, 212, 213, 214, 98, 100, 215, 216, 217, 218, 219, 97, 220, 492, 493, 494, 495, 496, 497, 505, 506, 507, 508, 509, 510, 502, 503, 504, 498, 499] (by decide +kernel) (by decide +kernel)
set_option maxRecDepth 20000 in
theorem gL_corner_X7_count : GoodIn wsL_corner (wsV RL 11 RX7 yX7_count wsX7_count) := goodIn_app (goodIn_of _ (by decide +kernel)) ggL_corner_X7_count
set_option maxRecDepth 20000 in
theorem ggL_corner_X7_leafAt : GoodIn wsL_corner wsX7_leafAt := goodIn_r _ [224, 13, 225, 209, 99, 210, 226, 212, 213, 227, 228, 229, 12, 230, 216, 217, 218, 219, 97, 98, 100, 152, 153, 154, 155, 32, 156, 157, 158, 159, 160, 161, 34, 162, 163, 164, 31, 165, 166, 167, 168, 169, 109, 39, 492, 493, 494, 495, 496, 497, 505, 506, 507, 508, 509, 510] (by decide +kernel) (by decide +kernel)
set_option maxRecDepth 20000 in
theorem gL_corner_X7_leafAt : GoodIn wsL_corner (wsV RL 47 RX7 yX7_leafAt wsX7_leafAt) := goodIn_app (goodIn_of _ (by decide +kernel)) ggL_corner_X7_leafAt
set_option maxRecDepth 20000 in
theorem ggL_corner_X7_tile : GoodIn wsL_corner wsX7_tile := goodIn_r _ [234, 13, 114, 235, 236, 99, 237, 238, 197, 198, 199, 200, 201, 202, 203, 204, 239, 206, 207, 240, 194, 195, 241, 159, 160, 12, 161, 34, 242, 243, 244, 245, 246, 247, 248, 249, 97, 98, 100, 152, 153, 154, 155, 32, 156, 157, 158, 162, 163, 164, 31, 165, 166, 167, 168, 169, 109, 39, 250, 251, 150, 151, 149, 492, 493, 494, 495, 496, 497, 505, 506, 507, 508, 509, 510] (by decide +kernel) (by decide +kernel)
set_option maxRecDepth 20000 in
theorem gL_corner_X7_tile : GoodIn wsL_corner (wsV RL 21 RX7 yX7_tile wsX7_tile) := goodIn_app (goodIn_of _ (by decide +kernel)) ggL_corner_X7_tile
set_option maxRecDepth 20000 in
theorem ggL_corner_X7_beside : GoodIn wsL_corner wsX7_beside := goodIn_r _ [255, 13, 235, 236, 99, 237, 256, 189, 190, 191, 192, 193, 194, 195, 196, 197, 198, 199, 200, 201, 202, 203, 204, 205, 206, 207, 208, 209, 210, 211, 212, 213, 214, 98, 100, 257, 258, 259, 12, 260, 261, 262, 73, 263, 215, 216, 217, 218, 219, 97, 152, 153, 154, 155, 32, 156, 157, 158, 159, 160, 161, 34, 162, 163, 164, 31, 165, 166, 167, 168, 169, 109, 39, 492, 493, 494, 495, 496, 497, 505, 506, 507, 508, 509, 510] (by decide +kernel) (by decide +kernel)
set_option maxRecDepth 20000 in
theorem gL_corner_X7_beside : GoodIn wsL_corner (wsV RL 53 RX7 yX7_beside wsX7_beside) := goodIn_app (goodIn_of _ (by decide +kernel)) ggL_corner_X7_beside
set_option maxRecDepth 20000 in
theorem ggL_corner_X7_neighbours : GoodIn wsL_corner wsX7_neighbours := goodIn_r _ [267, 13, 235, 236, 99, 237, 242, 243, 244, 12, 245, 246, 247, 248, 249, 97, 98, 100, 152, 153, 154, 155, 32, 156, 157, 158, 159, 160, 161, 34, 162, 163, 164, 31, 165, 166, 167, 168, 169, 109, 39, 268, 269, 270, 271, 188, 189, 190, 191, 192, 193, 194, 195, 196, 197, 198, 199, 200, 201, 202, 203, 204, 205, 206, 207, 208, 209, 210, 211, 212, 213, 214, 272, 273, 274, 275, 276, 492, 493, 494, 495, 496, 497, 505, 506, 507, 508, 509, 510] (by decide +kernel) (by decide +kernel)
set_option maxRecDepth 20000 in
theorem gL_corner_X7_neighbours : GoodIn wsL_corner (wsV RL 56 RX7 yX7_neighbours wsX7_neighbours) := goodIn_app (goodIn_of _ (by decide +kernel)) ggL_corner_X7_neighbours
set_option maxRecDepth 20000 in
theorem ggL_corner_X7_nearest : GoodIn wsL_corner wsX7_nearest := goodIn_r _ [280, 13, 114, 115, 225, 209, 99, 210, 281, 85, 86, 31, 87, 38, 88, 89, 90, 91, 92, 282, 283, 284, 196, 197, 198, 199, 200, 201, 202, 203, 204, 205, 206, 207, 492, 493, 494, 495, 496, 497, 505, 506, 507, 508, 509, 510] (by decide +kernel) (by decide +kernel)
set_option maxRecDepth 20000 in
theorem gL_corner_X7_nearest : GoodIn wsL_corner (wsV RL 63 RX7 yX7_nearest wsX7_nearest) := goodIn_app (goodIn_of _ (by decide +kernel)) ggL_corner_X7_nearest
set_option maxRecDepth 20000 in
theorem ggL_corner_X7_leastFull : GoodIn wsL_corner wsX7_leastFull := goodIn_r _ [288, 13, 289, 290, 291, 12, 292, 32, 157, 174, 146, 147, 148, 149, 150, 151, 152, 153, 154, 155, 156, 158, 159, 160, 161, 34, 162, 163, 164, 31, 165, 166, 167, 168, 169, 109, 39, 492, 493, 494, 495, 496, 497, 505, 506, 507, 508, 509, 510] (by decide +kernel) (by decide +kernel)
set_option maxRecDepth 20000 in
theorem gL_corner_X7_leastFull : GoodIn wsL_corner (wsV RL 69 RX7 yX7_leastFull wsX7_leastFull) := goodIn_app (goodIn_of _ (by decide +kernel)) ggL_corner_X7_leastFull
set_option maxRecDepth 20000 in
theorem ggL_corner_X7_point : GoodIn wsL_corner wsX7_point := goodIn_r _ [296, 13, 114, 17, 225, 209, 99, 210, 226, 212, 213, 297, 298, 299, 31, 300, 92, 301, 302, 303, 304, 305, 85, 86, 87, 38, 88, 89, 90, 91, 124, 125, 126, 16, 127, 70, 47, 128, 129, 130, 131, 132, 102, 103, 104, 105, 106, 107, 108, 39, 109, 40, 41, 306, 307, 308, 12, 309, 32, 310, 311, 312, 313, 93, 94, 95, 96, 34, 97, 98, 100, 145, 146, 147, 148, 149, 150, 151, 152, 153, 154, 155, 156, 157, 158, 159, 160, 161, 162, 163, 164, 165, 166, 167, 168, 169, 492, 493, 494, 495, 496, 497, 505, 506, 507, 508, 509, 510, 498, 499] (by decide +kernel) (by decide +kernel)
set_option maxRecDepth 20000 in
theorem gL_corner_X7_point : GoodIn wsL_corner (wsV RL 29 RX7 yX7_point wsX7_point) := goodIn_app (goodIn_of _ (by decide +kernel)) ggL_corner_X7_point
set_option maxRecDepth 20000 in
theorem ggL_corner_X7_of : GoodIn wsL_corner wsX7_of := goodIn_r _ [317, 13, 114, 318, 89, 90, 31, 91, 92, 281, 85, 86, 87, 38, 88, 238, 197, 99, 198, 199, 200, 201, 202, 203, 204, 239, 206, 207, 227, 228, 229, 12, 230, 216, 217, 218, 219, 97, 98, 100, 152, 153, 154, 155, 32, 156, 157, 158, 159, 160, 161, 34, 162, 163, 164, 165, 166, 167, 168, 169, 109, 39, 319, 320, 321, 322, 305, 492, 493, 494, 495, 496, 497, 505, 506, 507, 508, 509, 510] (by decide +kernel) (by decide +kernel)
set_option maxRecDepth 20000 in
theorem gL_corner_X7_of : GoodIn wsL_corner (wsV RL 17 RX7 yX7_of wsX7_of) := goodIn_app (goodIn_of _ (by decide +kernel)) ggL_corner_X7_of
set_option maxRecDepth 20000 in
theorem ggL_corner_L_refused : GoodIn wsL_corner wsL_refused := goodIn_r _ [326, 327, 328, 325, 329, 330, 137, 138, 139, 3, 140, 13, 114, 115, 141, 142, 143, 25, 144, 17, 65, 145, 146, 147, 12, 148, 149, 150, 151, 152, 153, 154, 155, 32, 156, 157, 158, 159, 160, 161, 34, 162, 163, 164, 31, 165, 166, 167, 168, 169, 109, 39, 170, 171, 172, 173, 174, 175, 176, 177, 72, 73, 74, 178, 179, 180, 181, 182, 183, 184, 185, 186, 187, 188, 189, 99, 190, 191, 192, 193, 194, 195, 196, 197, 198, 199, 200, 201, 202, 203, 204, 205, 206, 207, 208, 209, 210, 211, 212, 213, 214, 98, 100, 215, 216, 217, 218, 219, 97, 220, 314, 315, 316, 317, 318, 89, 90, 91, 92, 281, 85, 86, 87, 38, 88, 238, 239, 227, 228, 229, 230, 319, 320, 321, 322, 305, 231, 232, 233, 234, 235, 236, 237, 240, 241, 242, 243, 244, 245, 246, 247, 248, 249, 250, 251, 331, 332, 333, 334, 335, 336, 337, 338, 339, 340, 124, 125, 126, 16, 127, 70, 47, 128, 129, 130, 131, 132, 102, 103, 104, 105, 106, 107, 108, 40, 41, 293, 294, 295, 296, 225, 226, 297, 298, 299, 300, 301, 302, 303, 304, 306, 307, 308, 309, 310, 311, 312, 313, 93, 94, 95, 96, 341, 342, 343, 344, 345, 346, 347, 348, 84, 349, 350, 351, 352, 353, 354, 355, 356, 357, 358, 359, 360, 361, 362, 363, 364, 365, 366, 367, 368, 369, 370, 371, 372, 373, 374, 375, 376, 377, 378, 379, 380, 381, 382, 383, 384, 24, 385, 386, 387, 388, 389, 390, 59, 391, 392, 393, 394, 395, 396, 397, 398, 399, 400, 60, 401, 402, 403, 404, 405, 406, 407, 408, 409, 221, 222, 223, 224, 410, 411, 412, 413, 414, 252, 253, 254, 255, 256, 257, 258, 259, 260, 261, 262, 263, 264, 265, 266, 267, 268, 269, 270, 271, 272, 273, 274, 275, 276, 415, 416, 417, 418, 419, 420, 421, 422, 423, 424, 425, 8, 9, 426, 427, 428, 429, 430, 431, 432, 433, 434, 435, 436, 437, 438, 439, 440, 441, 442, 443, 444, 445, 446, 447, 448, 449, 450, 451, 452, 453, 454, 455, 456, 277, 278, 279, 280, 282, 283, 284, 457, 458, 459, 460, 461, 462, 463, 464, 465, 466, 467, 468, 285, 286, 287, 288, 289, 290, 291, 292, 469, 470, 471, 472, 21, 116, 117, 20, 118, 473, 474, 475, 476, 53, 55, 123, 477, 110, 111, 112, 113, 119, 120, 121, 122, 133, 134, 135, 136, 75, 76, 77, 78, 79, 80, 81, 82, 83, 101, 478, 479, 480, 481, 482, 483, 484, 485, 486, 487, 488, 489, 490, 491, 492, 493, 494, 495, 496, 497, 505, 506, 507, 508, 509, 510, 502, 503, 504, 498, 499, 511, 512, 513, 514, 500, 501] (by decide +kernel) (by decide +kernel)
set_option maxRecDepth 20000 in
theorem gL_corner_L_refused : GoodIn wsL_corner (va_wsS RL 100 yL_refused wsL_refused) := goodIn_app (goodIn_of _ (by decide +kernel)) ggL_corner_L_refused
set_option maxRecDepth 20000 in
theorem ggL_corner_X7_ifPut : GoodIn wsL_corner wsX7_ifPut := goodIn_r _ [460, 13, 114, 225, 209, 99, 210, 226, 212, 213, 297, 298, 299, 31, 300, 92, 301, 302, 303, 304, 305, 85, 86, 87, 38, 88, 89, 90, 91, 461, 462, 463, 12, 464, 93, 94, 95, 96, 34, 97, 98, 100, 174, 146, 147, 148, 149, 150, 151, 152, 153, 154, 155, 32, 156, 157, 158, 159, 160, 161, 162, 163, 164, 165, 166, 167, 168, 169, 109, 39, 465, 466, 467, 468, 216, 217, 218, 219, 492, 493, 494, 495, 496, 497, 505, 506, 507, 508, 509, 510] (by decide +kernel) (by decide +kernel)
set_option maxRecDepth 20000 in
theorem gL_corner_X7_ifPut : GoodIn wsL_corner (wsV RL 66 RX7 yX7_ifPut wsX7_ifPut) := goodIn_app (goodIn_of _ (by decide +kernel)) ggL_corner_X7_ifPut
set_option maxRecDepth 20000 in
theorem ggL_corner_X7_window : GoodIn wsL_corner wsX7_window := goodIn_r _ [418, 419, 420, 421, 13, 114, 225, 209, 99, 210, 422, 423, 424, 425, 8, 9, 426, 427, 428, 429, 430, 431, 432, 31, 433, 92, 305, 85, 86, 87, 38, 88, 89, 90, 91, 434, 435, 436, 437, 438, 197, 198, 199, 200, 201, 202, 203, 204, 439, 206, 207, 440, 194, 195, 441, 12, 442, 443, 152, 153, 154, 155, 32, 156, 157, 158, 159, 160, 161, 34, 162, 163, 164, 165, 166, 167, 168, 169, 109, 39, 444, 445, 446, 447, 448, 449, 450, 451, 452, 453, 454, 455, 456, 212, 213, 216, 217, 218, 219, 97, 98, 100, 511, 512, 513, 514, 492, 493, 494, 495, 496, 497, 505, 506, 507, 508, 509, 510] (by decide +kernel) (by decide +kernel)
set_option maxRecDepth 20000 in
theorem gL_corner_X7_window : GoodIn wsL_corner (wsV RL 59 RX7 yX7_window wsX7_window) := goodIn_app (goodIn_of _ (by decide +kernel)) ggL_corner_X7_window
set_option maxRecDepth 20000 in
theorem ggL_corner_X7_set : GoodIn wsL_corner wsX7_set := goodIn_r _ [340, 13, 114, 17, 142, 143, 124, 125, 126, 16, 127, 70, 47, 128, 129, 130, 131, 132, 102, 103, 31, 104, 38, 105, 106, 107, 108, 39, 92, 109, 40, 41, 492, 493, 494, 495, 496, 497, 505, 506, 507, 508, 509, 510, 498, 499] (by decide +kernel) (by decide +kernel)
set_option maxRecDepth 20000 in
theorem gL_corner_X7_set : GoodIn wsL_corner (wsV RL 24 RX7 yX7_set wsX7_set) := goodIn_app (goodIn_of _ (by decide +kernel)) ggL_corner_X7_set
set_option maxRecDepth 20000 in
theorem ggL_corner_X7_split : GoodIn wsL_corner wsX7_split := goodIn_r _ [369, 13, 114, 141, 17, 235, 236, 99, 237, 250, 163, 164, 31, 165, 166, 167, 168, 169, 109, 39, 124, 125, 126, 16, 127, 70, 47, 128, 129, 130, 131, 132, 102, 103, 104, 38, 105, 106, 107, 108, 92, 40, 41, 370, 371, 372, 373, 374, 375, 376, 377, 145, 146, 147, 12, 148, 149, 150, 151, 152, 153, 154, 155, 32, 156, 157, 158, 159, 160, 161, 34, 162, 492, 493, 494, 495, 496, 497, 505, 506, 507, 508, 509, 510, 498, 499] (by decide +kernel) (by decide +kernel)
set_option maxRecDepth 20000 in
theorem gL_corner_X7_split : GoodIn wsL_corner (wsV RL 39 RX7 yX7_split wsX7_split) := goodIn_app (goodIn_of _ (by decide +kernel)) ggL_corner_X7_split
set_option maxRecDepth 20000 in
theorem ggL_corner_X7_take : GoodIn wsL_corner wsX7_take := goodIn_r _ [344, 13, 114, 17, 318, 89, 90, 31, 91, 92, 124, 125, 126, 16, 127, 70, 47, 128, 129, 130, 131, 132, 102, 103, 104, 38, 105, 106, 107, 108, 39, 109, 40, 41, 345, 346, 347, 12, 348, 32, 84, 85, 86, 87, 88, 93, 94, 95, 96, 34, 97, 98, 99, 100, 349, 350, 351, 352, 145, 146, 147, 148, 149, 150, 151, 152, 153, 154, 155, 156, 157, 158, 159, 160, 161, 162, 163, 164, 165, 166, 167, 168, 169, 492, 493, 494, 495, 496, 497, 505, 506, 507, 508, 509, 510, 498, 499] (by decide +kernel) (by decide +kernel)
set_option maxRecDepth 20000 in
theorem gL_corner_X7_take : GoodIn wsL_corner (wsV RL 32 RX7 yX7_take wsX7_take) := goodIn_app (goodIn_of _ (by decide +kernel)) ggL_corner_X7_take
set_option maxRecDepth 20000 in
theorem ggL_corner_X7_move : GoodIn wsL_corner wsX7_move := goodIn_r _ [356, 13, 114, 17, 318, 89, 90, 31, 91, 92, 225, 209, 99, 210, 226, 212, 213, 357, 302, 303, 304, 305, 85, 86, 87, 38, 88, 124, 125, 126, 16, 127, 70, 47, 128, 129, 130, 131, 132, 102, 103, 104, 105, 106, 107, 108, 39, 109, 40, 41, 358, 359, 360, 12, 361, 32, 84, 93, 94, 95, 96, 34, 97, 98, 100, 362, 363, 364, 365, 145, 146, 147, 148, 149, 150, 151, 152, 153, 154, 155, 156, 157, 158, 159, 160, 161, 162, 163, 164, 165, 166, 167, 168, 169, 492, 493, 494, 495, 496, 497, 505, 506, 507, 508, 509, 510, 498, 499] (by decide +kernel) (by decide +kernel)
set_option maxRecDepth 20000 in
theorem gL_corner_X7_move : GoodIn wsL_corner (wsV RL 35 RX7 yX7_move wsX7_move) := goodIn_app (goodIn_of _ (by decide +kernel)) ggL_corner_X7_move
set_option maxRecDepth 20000 in
theorem ggL_corner_X7_save : GoodIn wsL_corner wsX7_save := goodIn_r _ [472, 21, 13, 114, 115, 116, 117, 20, 118, 473, 474, 475, 476, 53, 55, 123, 477, 102, 103, 31, 104, 38, 105, 106, 107, 108, 39, 92, 109, 40, 41, 492, 493, 494, 495, 496, 497, 505, 506, 507, 508, 509, 510, 500, 501] (by decide +kernel) (by decide +kernel)
set_option maxRecDepth 20000 in
theorem gL_corner_X7_save : GoodIn wsL_corner (wsV RL 72 RX7 yX7_save wsX7_save) := goodIn_app (goodIn_of _ (by decide +kernel)) ggL_corner_X7_save
theorem dL_corner_0 : decode cL_corner 0 = .ok (.new 12, 3) := by decide +kernel
theorem dL_corner_3 : decode cL_corner 3 = .ok (.dup, 1) := by decide +kernel
theorem dL_corner_4 : decode cL_corner 4 = .ok (.invokespecial 96, 3) := by decide +kernel
theorem dL_corner_7 : decode cL_corner 7 = .ok (.astore_n 0, 1) := by decide +kernel
theorem dL_corner_8 : decode cL_corner 8 = .ok (.aload_n 0, 1) := by decide +kernel
theorem dL_corner_9 : decode cL_corner 9 = .ok (.invokevirtual 97, 3) := by decide +kernel
theorem dL_corner_12 : decode cL_corner 12 = .ok (.bipush (-5), 2) := by decide +kernel
theorem dL_corner_14 : decode cL_corner 14 = .ok (.if_icmp .ne 303, 3) := by decide +kernel
theorem dL_corner_17 : decode cL_corner 17 = .ok (.aload_n 0, 1) := by decide +kernel
theorem dL_corner_18 : decode cL_corner 18 = .ok (.iconst 1, 1) := by decide +kernel
theorem dL_corner_19 : decode cL_corner 19 = .ok (.invokevirtual 75, 3) := by decide +kernel
theorem dL_corner_22 : decode cL_corner 22 = .ok (.bipush (-5), 2) := by decide +kernel
theorem dL_corner_24 : decode cL_corner 24 = .ok (.if_icmp .ne 293, 3) := by decide +kernel
theorem dL_corner_27 : decode cL_corner 27 = .ok (.aload_n 0, 1) := by decide +kernel
theorem dL_corner_28 : decode cL_corner 28 = .ok (.iconst 1, 1) := by decide +kernel
theorem dL_corner_29 : decode cL_corner 29 = .ok (.invokevirtual 11, 3) := by decide +kernel
theorem dL_corner_32 : decode cL_corner 32 = .ok (.iconst 1, 1) := by decide +kernel
theorem dL_corner_33 : decode cL_corner 33 = .ok (.if_icmp .ne 284, 3) := by decide +kernel
theorem dL_corner_36 : decode cL_corner 36 = .ok (.aload_n 0, 1) := by decide +kernel
theorem dL_corner_37 : decode cL_corner 37 = .ok (.iconst 2, 1) := by decide +kernel
theorem dL_corner_38 : decode cL_corner 38 = .ok (.invokevirtual 11, 3) := by decide +kernel
theorem dL_corner_41 : decode cL_corner 41 = .ok (.iconst 1, 1) := by decide +kernel
theorem dL_corner_42 : decode cL_corner 42 = .ok (.if_icmp .ne 275, 3) := by decide +kernel
theorem dL_corner_45 : decode cL_corner 45 = .ok (.aload_n 0, 1) := by decide +kernel
theorem dL_corner_46 : decode cL_corner 46 = .ok (.iconst 3, 1) := by decide +kernel
theorem dL_corner_47 : decode cL_corner 47 = .ok (.invokevirtual 11, 3) := by decide +kernel
theorem dL_corner_50 : decode cL_corner 50 = .ok (.ifCond .ne 267, 3) := by decide +kernel
theorem dL_corner_53 : decode cL_corner 53 = .ok (.aload_n 0, 1) := by decide +kernel
theorem dL_corner_54 : decode cL_corner 54 = .ok (.iconst 4, 1) := by decide +kernel
theorem dL_corner_55 : decode cL_corner 55 = .ok (.invokevirtual 11, 3) := by decide +kernel
theorem dL_corner_58 : decode cL_corner 58 = .ok (.iconst 1, 1) := by decide +kernel
theorem dL_corner_59 : decode cL_corner 59 = .ok (.if_icmp .ne 258, 3) := by decide +kernel
theorem dL_corner_62 : decode cL_corner 62 = .ok (.aload_n 0, 1) := by decide +kernel
theorem dL_corner_63 : decode cL_corner 63 = .ok (.bipush 6, 2) := by decide +kernel
theorem dL_corner_65 : decode cL_corner 65 = .ok (.invokevirtual 11, 3) := by decide +kernel
theorem dL_corner_68 : decode cL_corner 68 = .ok (.ifCond .ne 249, 3) := by decide +kernel
theorem dL_corner_71 : decode cL_corner 71 = .ok (.aload_n 0, 1) := by decide +kernel
theorem dL_corner_72 : decode cL_corner 72 = .ok (.bipush 63, 2) := by decide +kernel
theorem dL_corner_74 : decode cL_corner 74 = .ok (.iconst 0, 1) := by decide +kernel
theorem dL_corner_75 : decode cL_corner 75 = .ok (.invokevirtual 47, 3) := by decide +kernel
theorem dL_corner_78 : decode cL_corner 78 = .ok (.iconst 1, 1) := by decide +kernel
theorem dL_corner_79 : decode cL_corner 79 = .ok (.if_icmp .ne 238, 3) := by decide +kernel
theorem dL_corner_82 : decode cL_corner 82 = .ok (.aload_n 0, 1) := by decide +kernel
theorem dL_corner_83 : decode cL_corner 83 = .ok (.iconst 1, 1) := by decide +kernel
theorem dL_corner_84 : decode cL_corner 84 = .ok (.iconst 2, 1) := by decide +kernel
theorem dL_corner_85 : decode cL_corner 85 = .ok (.invokevirtual 21, 3) := by decide +kernel
theorem dL_corner_88 : decode cL_corner 88 = .ok (.bipush 64, 2) := by decide +kernel
theorem dL_corner_90 : decode cL_corner 90 = .ok (.if_icmp .ne 227, 3) := by decide +kernel
theorem dL_corner_93 : decode cL_corner 93 = .ok (.aload_n 0, 1) := by decide +kernel
theorem dL_corner_94 : decode cL_corner 94 = .ok (.iconst 1, 1) := by decide +kernel
theorem dL_corner_95 : decode cL_corner 95 = .ok (.bipush 7, 2) := by decide +kernel
theorem dL_corner_97 : decode cL_corner 97 = .ok (.invokevirtual 21, 3) := by decide +kernel
theorem dL_corner_100 : decode cL_corner 100 = .ok (.iconst 1, 1) := by decide +kernel
theorem dL_corner_101 : decode cL_corner 101 = .ok (.if_icmp .ne 216, 3) := by decide +kernel
theorem dL_corner_104 : decode cL_corner 104 = .ok (.aload_n 0, 1) := by decide +kernel
theorem dL_corner_105 : decode cL_corner 105 = .ok (.iconst 4, 1) := by decide +kernel
theorem dL_corner_106 : decode cL_corner 106 = .ok (.iconst 5, 1) := by decide +kernel
theorem dL_corner_107 : decode cL_corner 107 = .ok (.invokevirtual 21, 3) := by decide +kernel
theorem dL_corner_110 : decode cL_corner 110 = .ok (.ifCond .ne 207, 3) := by decide +kernel
theorem dL_corner_113 : decode cL_corner 113 = .ok (.aload_n 0, 1) := by decide +kernel
theorem dL_corner_114 : decode cL_corner 114 = .ok (.iconst 4, 1) := by decide +kernel
theorem dL_corner_115 : decode cL_corner 115 = .ok (.bipush 7, 2) := by decide +kernel
theorem dL_corner_117 : decode cL_corner 117 = .ok (.invokevirtual 21, 3) := by decide +kernel
theorem dL_corner_120 : decode cL_corner 120 = .ok (.ifCond .ne 197, 3) := by decide +kernel
theorem dL_corner_123 : decode cL_corner 123 = .ok (.aload_n 0, 1) := by decide +kernel
theorem dL_corner_124 : decode cL_corner 124 = .ok (.iconst 1, 1) := by decide +kernel
theorem dL_corner_125 : decode cL_corner 125 = .ok (.iconst 0, 1) := by decide +kernel
theorem dL_corner_126 : decode cL_corner 126 = .ok (.iconst 0, 1) := by decide +kernel
theorem dL_corner_127 : decode cL_corner 127 = .ok (.invokevirtual 53, 3) := by decide +kernel
theorem dL_corner_130 : decode cL_corner 130 = .ok (.bipush (-6), 2) := by decide +kernel
theorem dL_corner_132 : decode cL_corner 132 = .ok (.if_icmp .ne 185, 3) := by decide +kernel
theorem dL_corner_135 : decode cL_corner 135 = .ok (.aload_n 0, 1) := by decide +kernel
theorem dL_corner_136 : decode cL_corner 136 = .ok (.iconst 1, 1) := by decide +kernel
theorem dL_corner_137 : decode cL_corner 137 = .ok (.invokevirtual 56, 3) := by decide +kernel
theorem dL_corner_140 : decode cL_corner 140 = .ok (.ifCond .ne 177, 3) := by decide +kernel
theorem dL_corner_143 : decode cL_corner 143 = .ok (.aload_n 0, 1) := by decide +kernel
theorem dL_corner_144 : decode cL_corner 144 = .ok (.iconst 4, 1) := by decide +kernel
theorem dL_corner_145 : decode cL_corner 145 = .ok (.invokevirtual 56, 3) := by decide +kernel
theorem dL_corner_148 : decode cL_corner 148 = .ok (.bipush (-5), 2) := by decide +kernel
theorem dL_corner_150 : decode cL_corner 150 = .ok (.if_icmp .ne 167, 3) := by decide +kernel
theorem dL_corner_153 : decode cL_corner 153 = .ok (.aload_n 0, 1) := by decide +kernel
theorem dL_corner_154 : decode cL_corner 154 = .ok (.iconst 3, 1) := by decide +kernel
theorem dL_corner_155 : decode cL_corner 155 = .ok (.iconst 3, 1) := by decide +kernel
theorem dL_corner_156 : decode cL_corner 156 = .ok (.iconst 0, 1) := by decide +kernel
theorem dL_corner_157 : decode cL_corner 157 = .ok (.invokevirtual 63, 3) := by decide +kernel
theorem dL_corner_160 : decode cL_corner 160 = .ok (.bipush (-6), 2) := by decide +kernel
theorem dL_corner_162 : decode cL_corner 162 = .ok (.if_icmp .ne 155, 3) := by decide +kernel
theorem dL_corner_165 : decode cL_corner 165 = .ok (.aload_n 0, 1) := by decide +kernel
theorem dL_corner_166 : decode cL_corner 166 = .ok (.iconst 3, 1) := by decide +kernel
theorem dL_corner_167 : decode cL_corner 167 = .ok (.iconst 3, 1) := by decide +kernel
theorem dL_corner_168 : decode cL_corner 168 = .ok (.iconst 1, 1) := by decide +kernel
theorem dL_corner_169 : decode cL_corner 169 = .ok (.invokevirtual 63, 3) := by decide +kernel
theorem dL_corner_172 : decode cL_corner 172 = .ok (.bipush (-6), 2) := by decide +kernel
theorem dL_corner_174 : decode cL_corner 174 = .ok (.if_icmp .ne 143, 3) := by decide +kernel
theorem dL_corner_177 : decode cL_corner 177 = .ok (.aload_n 0, 1) := by decide +kernel
theorem dL_corner_178 : decode cL_corner 178 = .ok (.iconst 1, 1) := by decide +kernel
theorem dL_corner_179 : decode cL_corner 179 = .ok (.invokevirtual 69, 3) := by decide +kernel
theorem dL_corner_182 : decode cL_corner 182 = .ok (.iconst 1, 1) := by decide +kernel
theorem dL_corner_183 : decode cL_corner 183 = .ok (.if_icmp .ne 134, 3) := by decide +kernel
theorem dL_corner_186 : decode cL_corner 186 = .ok (.aload_n 0, 1) := by decide +kernel
theorem dL_corner_187 : decode cL_corner 187 = .ok (.iconst 0, 1) := by decide +kernel
theorem dL_corner_188 : decode cL_corner 188 = .ok (.iconst 0, 1) := by decide +kernel
theorem dL_corner_189 : decode cL_corner 189 = .ok (.invokevirtual 29, 3) := by decide +kernel
theorem dL_corner_192 : decode cL_corner 192 = .ok (.iconst 1, 1) := by decide +kernel
theorem dL_corner_193 : decode cL_corner 193 = .ok (.if_icmp .ne 124, 3) := by decide +kernel
theorem dL_corner_196 : decode cL_corner 196 = .ok (.aload_n 0, 1) := by decide +kernel
theorem dL_corner_197 : decode cL_corner 197 = .ok (.iconst 1, 1) := by decide +kernel
theorem dL_corner_198 : decode cL_corner 198 = .ok (.iconst 0, 1) := by decide +kernel
theorem dL_corner_199 : decode cL_corner 199 = .ok (.invokevirtual 29, 3) := by decide +kernel
theorem dL_corner_202 : decode cL_corner 202 = .ok (.iconst 1, 1) := by decide +kernel
theorem dL_corner_203 : decode cL_corner 203 = .ok (.if_icmp .ne 114, 3) := by decide +kernel
theorem dL_corner_206 : decode cL_corner 206 = .ok (.aload_n 0, 1) := by decide +kernel
theorem dL_corner_207 : decode cL_corner 207 = .ok (.bipush 63, 2) := by decide +kernel
theorem dL_corner_209 : decode cL_corner 209 = .ok (.bipush 63, 2) := by decide +kernel
theorem dL_corner_211 : decode cL_corner 211 = .ok (.invokevirtual 29, 3) := by decide +kernel
theorem dL_corner_214 : decode cL_corner 214 = .ok (.iconst 4, 1) := by decide +kernel
theorem dL_corner_215 : decode cL_corner 215 = .ok (.if_icmp .ne 102, 3) := by decide +kernel
theorem dL_corner_218 : decode cL_corner 218 = .ok (.aload_n 0, 1) := by decide +kernel
