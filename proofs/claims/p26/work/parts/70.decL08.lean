theorem dL_corner_460 : decode cL_corner 460 = .ok (.if_icmp .ne 294, 3) := by decide +kernel
theorem dL_corner_463 : decode cL_corner 463 = .ok (.aload_n 0, 1) := by decide +kernel
theorem dL_corner_464 : decode cL_corner 464 = .ok (.iconst 1, 1) := by decide +kernel
theorem dL_corner_465 : decode cL_corner 465 = .ok (.iconst 1, 1) := by decide +kernel
theorem dL_corner_466 : decode cL_corner 466 = .ok (.iconst 1, 1) := by decide +kernel
theorem dL_corner_467 : decode cL_corner 467 = .ok (.invokevirtual 66, 3) := by decide +kernel
theorem dL_corner_470 : decode cL_corner 470 = .ok (.bipush 6, 2) := by decide +kernel
theorem dL_corner_472 : decode cL_corner 472 = .ok (.if_icmp .ne 282, 3) := by decide +kernel
theorem dL_corner_475 : decode cL_corner 475 = .ok (.aload_n 0, 1) := by decide +kernel
theorem dL_corner_476 : decode cL_corner 476 = .ok (.bipush 40, 2) := by decide +kernel
theorem dL_corner_478 : decode cL_corner 478 = .ok (.bipush 9, 2) := by decide +kernel
theorem dL_corner_480 : decode cL_corner 480 = .ok (.iconst 1, 1) := by decide +kernel
theorem dL_corner_481 : decode cL_corner 481 = .ok (.invokevirtual 66, 3) := by decide +kernel
theorem dL_corner_484 : decode cL_corner 484 = .ok (.iconst 1, 1) := by decide +kernel
theorem dL_corner_485 : decode cL_corner 485 = .ok (.if_icmp .ne 269, 3) := by decide +kernel
theorem dL_corner_488 : decode cL_corner 488 = .ok (.aload_n 0, 1) := by decide +kernel
theorem dL_corner_489 : decode cL_corner 489 = .ok (.iconst 4, 1) := by decide +kernel
theorem dL_corner_490 : decode cL_corner 490 = .ok (.invokevirtual 69, 3) := by decide +kernel
theorem dL_corner_493 : decode cL_corner 493 = .ok (.iconst 3, 1) := by decide +kernel
theorem dL_corner_494 : decode cL_corner 494 = .ok (.if_icmp .ne 260, 3) := by decide +kernel
theorem dL_corner_497 : decode cL_corner 497 = .ok (.aload_n 0, 1) := by decide +kernel
theorem dL_corner_498 : decode cL_corner 498 = .ok (.iconst 1, 1) := by decide +kernel
theorem dL_corner_499 : decode cL_corner 499 = .ok (.invokevirtual 69, 3) := by decide +kernel
theorem dL_corner_502 : decode cL_corner 502 = .ok (.iconst 4, 1) := by decide +kernel
theorem dL_corner_503 : decode cL_corner 503 = .ok (.if_icmp .ne 251, 3) := by decide +kernel
theorem dL_corner_506 : decode cL_corner 506 = .ok (.aload_n 0, 1) := by decide +kernel
theorem dL_corner_507 : decode cL_corner 507 = .ok (.bipush 18, 2) := by decide +kernel
theorem dL_corner_509 : decode cL_corner 509 = .ok (.invokevirtual 69, 3) := by decide +kernel
theorem dL_corner_512 : decode cL_corner 512 = .ok (.iconst 3, 1) := by decide +kernel
theorem dL_corner_513 : decode cL_corner 513 = .ok (.if_icmp .ne 241, 3) := by decide +kernel
theorem dL_corner_516 : decode cL_corner 516 = .ok (.aload_n 0, 1) := by decide +kernel
theorem dL_corner_517 : decode cL_corner 517 = .ok (.bipush 19, 2) := by decide +kernel
theorem dL_corner_519 : decode cL_corner 519 = .ok (.invokevirtual 69, 3) := by decide +kernel
theorem dL_corner_522 : decode cL_corner 522 = .ok (.iconst 1, 1) := by decide +kernel
theorem dL_corner_523 : decode cL_corner 523 = .ok (.if_icmp .ne 231, 3) := by decide +kernel
theorem dL_corner_526 : decode cL_corner 526 = .ok (.aload_n 0, 1) := by decide +kernel
theorem dL_corner_527 : decode cL_corner 527 = .ok (.sipush 4096, 3) := by decide +kernel
theorem dL_corner_530 : decode cL_corner 530 = .ok (.invokevirtual 69, 3) := by decide +kernel
theorem dL_corner_533 : decode cL_corner 533 = .ok (.iconst 1, 1) := by decide +kernel
theorem dL_corner_534 : decode cL_corner 534 = .ok (.if_icmp .ne 220, 3) := by decide +kernel
theorem dL_corner_537 : decode cL_corner 537 = .ok (.aload_n 0, 1) := by decide +kernel
theorem dL_corner_538 : decode cL_corner 538 = .ok (.iconst 0, 1) := by decide +kernel
theorem dL_corner_539 : decode cL_corner 539 = .ok (.iconst 0, 1) := by decide +kernel
theorem dL_corner_540 : decode cL_corner 540 = .ok (.iconst 1, 1) := by decide +kernel
theorem dL_corner_541 : decode cL_corner 541 = .ok (.iconst 1, 1) := by decide +kernel
theorem dL_corner_542 : decode cL_corner 542 = .ok (.iconst 0, 1) := by decide +kernel
theorem dL_corner_543 : decode cL_corner 543 = .ok (.invokevirtual 59, 3) := by decide +kernel
theorem dL_corner_546 : decode cL_corner 546 = .ok (.iconst 3, 1) := by decide +kernel
theorem dL_corner_547 : decode cL_corner 547 = .ok (.if_icmp .ne 207, 3) := by decide +kernel
theorem dL_corner_550 : decode cL_corner 550 = .ok (.aload_n 0, 1) := by decide +kernel
theorem dL_corner_551 : decode cL_corner 551 = .ok (.iconst 0, 1) := by decide +kernel
theorem dL_corner_552 : decode cL_corner 552 = .ok (.iconst 0, 1) := by decide +kernel
theorem dL_corner_553 : decode cL_corner 553 = .ok (.iconst 1, 1) := by decide +kernel
theorem dL_corner_554 : decode cL_corner 554 = .ok (.iconst 1, 1) := by decide +kernel
theorem dL_corner_555 : decode cL_corner 555 = .ok (.iconst 1, 1) := by decide +kernel
theorem dL_corner_556 : decode cL_corner 556 = .ok (.invokevirtual 59, 3) := by decide +kernel
theorem dL_corner_559 : decode cL_corner 559 = .ok (.iconst 4, 1) := by decide +kernel
theorem dL_corner_560 : decode cL_corner 560 = .ok (.if_icmp .ne 194, 3) := by decide +kernel
theorem dL_corner_563 : decode cL_corner 563 = .ok (.aload_n 0, 1) := by decide +kernel
theorem dL_corner_564 : decode cL_corner 564 = .ok (.iconst 0, 1) := by decide +kernel
theorem dL_corner_565 : decode cL_corner 565 = .ok (.iconst 0, 1) := by decide +kernel
theorem dL_corner_566 : decode cL_corner 566 = .ok (.iconst 1, 1) := by decide +kernel
theorem dL_corner_567 : decode cL_corner 567 = .ok (.iconst 1, 1) := by decide +kernel
theorem dL_corner_568 : decode cL_corner 568 = .ok (.iconst 2, 1) := by decide +kernel
theorem dL_corner_569 : decode cL_corner 569 = .ok (.invokevirtual 59, 3) := by decide +kernel
theorem dL_corner_572 : decode cL_corner 572 = .ok (.bipush 10, 2) := by decide +kernel
theorem dL_corner_574 : decode cL_corner 574 = .ok (.if_icmp .ne 180, 3) := by decide +kernel
theorem dL_corner_577 : decode cL_corner 577 = .ok (.aload_n 0, 1) := by decide +kernel
theorem dL_corner_578 : decode cL_corner 578 = .ok (.iconst 0, 1) := by decide +kernel
theorem dL_corner_579 : decode cL_corner 579 = .ok (.iconst 0, 1) := by decide +kernel
theorem dL_corner_580 : decode cL_corner 580 = .ok (.iconst 1, 1) := by decide +kernel
theorem dL_corner_581 : decode cL_corner 581 = .ok (.iconst 1, 1) := by decide +kernel
theorem dL_corner_582 : decode cL_corner 582 = .ok (.iconst 3, 1) := by decide +kernel
theorem dL_corner_583 : decode cL_corner 583 = .ok (.invokevirtual 59, 3) := by decide +kernel
theorem dL_corner_586 : decode cL_corner 586 = .ok (.sipush 1024, 3) := by decide +kernel
theorem dL_corner_589 : decode cL_corner 589 = .ok (.if_icmp .ne 165, 3) := by decide +kernel
theorem dL_corner_592 : decode cL_corner 592 = .ok (.aload_n 0, 1) := by decide +kernel
theorem dL_corner_593 : decode cL_corner 593 = .ok (.iconst 0, 1) := by decide +kernel
theorem dL_corner_594 : decode cL_corner 594 = .ok (.iconst 0, 1) := by decide +kernel
theorem dL_corner_595 : decode cL_corner 595 = .ok (.bipush 63, 2) := by decide +kernel
theorem dL_corner_597 : decode cL_corner 597 = .ok (.bipush 63, 2) := by decide +kernel
theorem dL_corner_599 : decode cL_corner 599 = .ok (.iconst 3, 1) := by decide +kernel
theorem dL_corner_600 : decode cL_corner 600 = .ok (.invokevirtual 59, 3) := by decide +kernel
theorem dL_corner_603 : decode cL_corner 603 = .ok (.iconst 1, 1) := by decide +kernel
theorem dL_corner_604 : decode cL_corner 604 = .ok (.if_icmp .ne 150, 3) := by decide +kernel
theorem dL_corner_607 : decode cL_corner 607 = .ok (.aload_n 0, 1) := by decide +kernel
theorem dL_corner_608 : decode cL_corner 608 = .ok (.iconst 0, 1) := by decide +kernel
theorem dL_corner_609 : decode cL_corner 609 = .ok (.iconst 0, 1) := by decide +kernel
theorem dL_corner_610 : decode cL_corner 610 = .ok (.bipush 63, 2) := by decide +kernel
theorem dL_corner_612 : decode cL_corner 612 = .ok (.bipush 63, 2) := by decide +kernel
theorem dL_corner_614 : decode cL_corner 614 = .ok (.iconst 2, 1) := by decide +kernel
theorem dL_corner_615 : decode cL_corner 615 = .ok (.invokevirtual 59, 3) := by decide +kernel
theorem dL_corner_618 : decode cL_corner 618 = .ok (.bipush 25, 2) := by decide +kernel
theorem dL_corner_620 : decode cL_corner 620 = .ok (.if_icmp .ne 134, 3) := by decide +kernel
theorem dL_corner_623 : decode cL_corner 623 = .ok (.aload_n 0, 1) := by decide +kernel
theorem dL_corner_624 : decode cL_corner 624 = .ok (.iconst 1, 1) := by decide +kernel
theorem dL_corner_625 : decode cL_corner 625 = .ok (.iconst 1, 1) := by decide +kernel
theorem dL_corner_626 : decode cL_corner 626 = .ok (.iconst 2, 1) := by decide +kernel
theorem dL_corner_627 : decode cL_corner 627 = .ok (.iconst 2, 1) := by decide +kernel
theorem dL_corner_628 : decode cL_corner 628 = .ok (.iconst 3, 1) := by decide +kernel
theorem dL_corner_629 : decode cL_corner 629 = .ok (.invokevirtual 59, 3) := by decide +kernel
theorem dL_corner_632 : decode cL_corner 632 = .ok (.sipush 256, 3) := by decide +kernel
theorem dL_corner_635 : decode cL_corner 635 = .ok (.if_icmp .ne 119, 3) := by decide +kernel
theorem dL_corner_638 : decode cL_corner 638 = .ok (.aload_n 0, 1) := by decide +kernel
theorem dL_corner_639 : decode cL_corner 639 = .ok (.iconst 5, 1) := by decide +kernel
theorem dL_corner_640 : decode cL_corner 640 = .ok (.iconst 5, 1) := by decide +kernel
theorem dL_corner_641 : decode cL_corner 641 = .ok (.iconst 5, 1) := by decide +kernel
theorem dL_corner_642 : decode cL_corner 642 = .ok (.iconst 5, 1) := by decide +kernel
theorem dL_corner_643 : decode cL_corner 643 = .ok (.iconst 1, 1) := by decide +kernel
theorem dL_corner_644 : decode cL_corner 644 = .ok (.invokevirtual 59, 3) := by decide +kernel
