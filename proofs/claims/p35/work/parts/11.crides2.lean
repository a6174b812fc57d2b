theorem dL_rides_481 : decode cL_rides 481 = .ok (.bipush 11, 2) := by decide +kernel
theorem dL_rides_483 : decode cL_rides 483 = .ok (.iconst 1, 1) := by decide +kernel
theorem dL_rides_484 : decode cL_rides 484 = .ok (.invokevirtual 96, 3) := by decide +kernel
theorem dL_rides_487 : decode cL_rides 487 = .ok (.ifCond .ne 94, 3) := by decide +kernel
theorem dL_rides_490 : decode cL_rides 490 = .ok (.aload_n 1, 1) := by decide +kernel
theorem dL_rides_491 : decode cL_rides 491 = .ok (.iconst 0, 1) := by decide +kernel
theorem dL_rides_492 : decode cL_rides 492 = .ok (.iconst 0, 1) := by decide +kernel
theorem dL_rides_493 : decode cL_rides 493 = .ok (.invokevirtual 109, 3) := by decide +kernel
theorem dL_rides_496 : decode cL_rides 496 = .ok (.iconst 3, 1) := by decide +kernel
theorem dL_rides_497 : decode cL_rides 497 = .ok (.if_icmp .ne 84, 3) := by decide +kernel
theorem dL_rides_500 : decode cL_rides 500 = .ok (.aload_n 1, 1) := by decide +kernel
theorem dL_rides_501 : decode cL_rides 501 = .ok (.iconst 0, 1) := by decide +kernel
theorem dL_rides_502 : decode cL_rides 502 = .ok (.iconst 1, 1) := by decide +kernel
theorem dL_rides_503 : decode cL_rides 503 = .ok (.invokevirtual 109, 3) := by decide +kernel
theorem dL_rides_506 : decode cL_rides 506 = .ok (.bipush 10, 2) := by decide +kernel
theorem dL_rides_508 : decode cL_rides 508 = .ok (.if_icmp .ne 73, 3) := by decide +kernel
theorem dL_rides_511 : decode cL_rides 511 = .ok (.aload_n 1, 1) := by decide +kernel
theorem dL_rides_512 : decode cL_rides 512 = .ok (.iconst 1, 1) := by decide +kernel
theorem dL_rides_513 : decode cL_rides 513 = .ok (.invokevirtual 81, 3) := by decide +kernel
theorem dL_rides_516 : decode cL_rides 516 = .ok (.ifCond .ne 65, 3) := by decide +kernel
theorem dL_rides_519 : decode cL_rides 519 = .ok (.aload_n 1, 1) := by decide +kernel
theorem dL_rides_520 : decode cL_rides 520 = .ok (.iconst 0, 1) := by decide +kernel
theorem dL_rides_521 : decode cL_rides 521 = .ok (.bipush 8, 2) := by decide +kernel
theorem dL_rides_523 : decode cL_rides 523 = .ok (.invokevirtual 47, 3) := by decide +kernel
theorem dL_rides_526 : decode cL_rides 526 = .ok (.iconst 3, 1) := by decide +kernel
theorem dL_rides_527 : decode cL_rides 527 = .ok (.if_icmp .ne 54, 3) := by decide +kernel
theorem dL_rides_530 : decode cL_rides 530 = .ok (.aload_n 1, 1) := by decide +kernel
theorem dL_rides_531 : decode cL_rides 531 = .ok (.iconst 3, 1) := by decide +kernel
theorem dL_rides_532 : decode cL_rides 532 = .ok (.invokevirtual 81, 3) := by decide +kernel
theorem dL_rides_535 : decode cL_rides 535 = .ok (.ifCond .ne 46, 3) := by decide +kernel
theorem dL_rides_538 : decode cL_rides 538 = .ok (.aload_n 1, 1) := by decide +kernel
theorem dL_rides_539 : decode cL_rides 539 = .ok (.iconst 0, 1) := by decide +kernel
theorem dL_rides_540 : decode cL_rides 540 = .ok (.bipush 6, 2) := by decide +kernel
theorem dL_rides_542 : decode cL_rides 542 = .ok (.invokevirtual 47, 3) := by decide +kernel
theorem dL_rides_545 : decode cL_rides 545 = .ok (.iconst 1, 1) := by decide +kernel
theorem dL_rides_546 : decode cL_rides 546 = .ok (.if_icmp .ne 35, 3) := by decide +kernel
theorem dL_rides_549 : decode cL_rides 549 = .ok (.aload_n 1, 1) := by decide +kernel
theorem dL_rides_550 : decode cL_rides 550 = .ok (.iconst 0, 1) := by decide +kernel
theorem dL_rides_551 : decode cL_rides 551 = .ok (.bipush 7, 2) := by decide +kernel
theorem dL_rides_553 : decode cL_rides 553 = .ok (.invokevirtual 47, 3) := by decide +kernel
theorem dL_rides_556 : decode cL_rides 556 = .ok (.iconst 1, 1) := by decide +kernel
theorem dL_rides_557 : decode cL_rides 557 = .ok (.if_icmp .ne 24, 3) := by decide +kernel
theorem dL_rides_560 : decode cL_rides 560 = .ok (.aload_n 1, 1) := by decide +kernel
theorem dL_rides_561 : decode cL_rides 561 = .ok (.iconst 0, 1) := by decide +kernel
theorem dL_rides_562 : decode cL_rides 562 = .ok (.bipush 8, 2) := by decide +kernel
theorem dL_rides_564 : decode cL_rides 564 = .ok (.invokevirtual 47, 3) := by decide +kernel
theorem dL_rides_567 : decode cL_rides 567 = .ok (.iconst 3, 1) := by decide +kernel
theorem dL_rides_568 : decode cL_rides 568 = .ok (.if_icmp .ne 13, 3) := by decide +kernel
theorem dL_rides_571 : decode cL_rides 571 = .ok (.aload_n 1, 1) := by decide +kernel
theorem dL_rides_572 : decode cL_rides 572 = .ok (.iconst 0, 1) := by decide +kernel
theorem dL_rides_573 : decode cL_rides 573 = .ok (.bipush 10, 2) := by decide +kernel
theorem dL_rides_575 : decode cL_rides 575 = .ok (.invokevirtual 47, 3) := by decide +kernel
theorem dL_rides_578 : decode cL_rides 578 = .ok (.ifCond .eq 5, 3) := by decide +kernel
theorem dL_rides_581 : decode cL_rides 581 = .ok (.iconst 0, 1) := by decide +kernel
theorem dL_rides_582 : decode cL_rides 582 = .ok (.ireturn, 1) := by decide +kernel
theorem dL_rides_583 : decode cL_rides 583 = .ok (.aload_n 1, 1) := by decide +kernel
theorem dL_rides_584 : decode cL_rides 584 = .ok (.iconst 0, 1) := by decide +kernel
theorem dL_rides_585 : decode cL_rides 585 = .ok (.iconst 0, 1) := by decide +kernel
theorem dL_rides_586 : decode cL_rides 586 = .ok (.iconst 0, 1) := by decide +kernel
theorem dL_rides_587 : decode cL_rides 587 = .ok (.bipush 10, 2) := by decide +kernel
theorem dL_rides_589 : decode cL_rides 589 = .ok (.iconst 3, 1) := by decide +kernel
theorem dL_rides_590 : decode cL_rides 590 = .ok (.invokestatic 197, 3) := by decide +kernel
theorem dL_rides_593 : decode cL_rides 593 = .ok (.ifCond .eq 88, 3) := by decide +kernel
theorem dL_rides_596 : decode cL_rides 596 = .ok (.aload_n 1, 1) := by decide +kernel
theorem dL_rides_597 : decode cL_rides 597 = .ok (.iconst 1, 1) := by decide +kernel
theorem dL_rides_598 : decode cL_rides 598 = .ok (.iconst 3, 1) := by decide +kernel
theorem dL_rides_599 : decode cL_rides 599 = .ok (.iconst 0, 1) := by decide +kernel
theorem dL_rides_600 : decode cL_rides 600 = .ok (.iconst 0, 1) := by decide +kernel
theorem dL_rides_601 : decode cL_rides 601 = .ok (.iconst 3, 1) := by decide +kernel
theorem dL_rides_602 : decode cL_rides 602 = .ok (.invokestatic 197, 3) := by decide +kernel
theorem dL_rides_605 : decode cL_rides 605 = .ok (.ifCond .eq 76, 3) := by decide +kernel
theorem dL_rides_608 : decode cL_rides 608 = .ok (.aload_n 1, 1) := by decide +kernel
theorem dL_rides_609 : decode cL_rides 609 = .ok (.bipush 10, 2) := by decide +kernel
theorem dL_rides_611 : decode cL_rides 611 = .ok (.iconst 3, 1) := by decide +kernel
theorem dL_rides_612 : decode cL_rides 612 = .ok (.invokevirtual 19, 3) := by decide +kernel
theorem dL_rides_615 : decode cL_rides 615 = .ok (.iconst 1, 1) := by decide +kernel
theorem dL_rides_616 : decode cL_rides 616 = .ok (.if_icmp .ne 65, 3) := by decide +kernel
theorem dL_rides_619 : decode cL_rides 619 = .ok (.aload_n 1, 1) := by decide +kernel
theorem dL_rides_620 : decode cL_rides 620 = .ok (.iconst 1, 1) := by decide +kernel
theorem dL_rides_621 : decode cL_rides 621 = .ok (.bipush 6, 2) := by decide +kernel
theorem dL_rides_623 : decode cL_rides 623 = .ok (.invokevirtual 13, 3) := by decide +kernel
theorem dL_rides_626 : decode cL_rides 626 = .ok (.ifCond .ne 55, 3) := by decide +kernel
theorem dL_rides_629 : decode cL_rides 629 = .ok (.aload_n 1, 1) := by decide +kernel
theorem dL_rides_630 : decode cL_rides 630 = .ok (.iconst 5, 1) := by decide +kernel
theorem dL_rides_631 : decode cL_rides 631 = .ok (.invokevirtual 81, 3) := by decide +kernel
theorem dL_rides_634 : decode cL_rides 634 = .ok (.ifCond .ne 47, 3) := by decide +kernel
theorem dL_rides_637 : decode cL_rides 637 = .ok (.aload_n 1, 1) := by decide +kernel
theorem dL_rides_638 : decode cL_rides 638 = .ok (.iconst 1, 1) := by decide +kernel
theorem dL_rides_639 : decode cL_rides 639 = .ok (.invokevirtual 81, 3) := by decide +kernel
theorem dL_rides_642 : decode cL_rides 642 = .ok (.iconst 1, 1) := by decide +kernel
theorem dL_rides_643 : decode cL_rides 643 = .ok (.if_icmp .ne 38, 3) := by decide +kernel
theorem dL_rides_646 : decode cL_rides 646 = .ok (.aload_n 1, 1) := by decide +kernel
theorem dL_rides_647 : decode cL_rides 647 = .ok (.iconst 0, 1) := by decide +kernel
theorem dL_rides_648 : decode cL_rides 648 = .ok (.bipush 11, 2) := by decide +kernel
theorem dL_rides_650 : decode cL_rides 650 = .ok (.invokevirtual 47, 3) := by decide +kernel
theorem dL_rides_653 : decode cL_rides 653 = .ok (.bipush 9, 2) := by decide +kernel
theorem dL_rides_655 : decode cL_rides 655 = .ok (.if_icmp .ne 26, 3) := by decide +kernel
theorem dL_rides_658 : decode cL_rides 658 = .ok (.aload_n 1, 1) := by decide +kernel
theorem dL_rides_659 : decode cL_rides 659 = .ok (.iconst 0, 1) := by decide +kernel
theorem dL_rides_660 : decode cL_rides 660 = .ok (.bipush 12, 2) := by decide +kernel
theorem dL_rides_662 : decode cL_rides 662 = .ok (.invokevirtual 47, 3) := by decide +kernel
theorem dL_rides_665 : decode cL_rides 665 = .ok (.bipush 11, 2) := by decide +kernel
theorem dL_rides_667 : decode cL_rides 667 = .ok (.if_icmp .ne 14, 3) := by decide +kernel
theorem dL_rides_670 : decode cL_rides 670 = .ok (.aload_n 1, 1) := by decide +kernel
theorem dL_rides_671 : decode cL_rides 671 = .ok (.bipush 18, 2) := by decide +kernel
theorem dL_rides_673 : decode cL_rides 673 = .ok (.invokevirtual 36, 3) := by decide +kernel
theorem dL_rides_676 : decode cL_rides 676 = .ok (.bipush 9, 2) := by decide +kernel
theorem dL_rides_678 : decode cL_rides 678 = .ok (.if_icmp .eq 5, 3) := by decide +kernel
theorem dL_rides_681 : decode cL_rides 681 = .ok (.iconst 0, 1) := by decide +kernel
theorem dL_rides_682 : decode cL_rides 682 = .ok (.ireturn, 1) := by decide +kernel
theorem dL_rides_683 : decode cL_rides 683 = .ok (.aload_n 1, 1) := by decide +kernel
theorem dL_rides_684 : decode cL_rides 684 = .ok (.iconst 1, 1) := by decide +kernel
theorem dL_rides_685 : decode cL_rides 685 = .ok (.iconst 0, 1) := by decide +kernel
theorem dL_rides_686 : decode cL_rides 686 = .ok (.invokevirtual 93, 3) := by decide +kernel
theorem dL_rides_689 : decode cL_rides 689 = .ok (.iconst 5, 1) := by decide +kernel
theorem dL_rides_690 : decode cL_rides 690 = .ok (.if_icmp .ne 45, 3) := by decide +kernel
theorem dL_rides_693 : decode cL_rides 693 = .ok (.aload_n 1, 1) := by decide +kernel
theorem dL_rides_694 : decode cL_rides 694 = .ok (.iconst 1, 1) := by decide +kernel
theorem dL_rides_695 : decode cL_rides 695 = .ok (.sipush 300, 3) := by decide +kernel
theorem dL_rides_698 : decode cL_rides 698 = .ok (.invokevirtual 93, 3) := by decide +kernel
theorem dL_rides_701 : decode cL_rides 701 = .ok (.iconst 1, 1) := by decide +kernel
theorem dL_rides_702 : decode cL_rides 702 = .ok (.if_icmp .ne 33, 3) := by decide +kernel
theorem dL_rides_705 : decode cL_rides 705 = .ok (.aload_n 1, 1) := by decide +kernel
theorem dL_rides_706 : decode cL_rides 706 = .ok (.bipush 11, 2) := by decide +kernel
theorem dL_rides_708 : decode cL_rides 708 = .ok (.bipush 7, 2) := by decide +kernel
theorem dL_rides_710 : decode cL_rides 710 = .ok (.invokevirtual 93, 3) := by decide +kernel
theorem dL_rides_713 : decode cL_rides 713 = .ok (.iconst 3, 1) := by decide +kernel
theorem dL_rides_714 : decode cL_rides 714 = .ok (.if_icmp .ne 21, 3) := by decide +kernel
theorem dL_rides_717 : decode cL_rides 717 = .ok (.aload_n 0, 1) := by decide +kernel
theorem dL_rides_718 : decode cL_rides 718 = .ok (.invokestatic 201, 3) := by decide +kernel
theorem dL_rides_721 : decode cL_rides 721 = .ok (.ifCond .eq 14, 3) := by decide +kernel
theorem dL_rides_724 : decode cL_rides 724 = .ok (.aload_n 1, 1) := by decide +kernel
theorem dL_rides_725 : decode cL_rides 725 = .ok (.invokestatic 201, 3) := by decide +kernel
theorem dL_rides_728 : decode cL_rides 728 = .ok (.ifCond .eq 7, 3) := by decide +kernel
theorem dL_rides_731 : decode cL_rides 731 = .ok (.iconst 1, 1) := by decide +kernel
theorem dL_rides_732 : decode cL_rides 732 = .ok (.goto 4, 3) := by decide +kernel
theorem dL_rides_735 : decode cL_rides 735 = .ok (.iconst 0, 1) := by decide +kernel
theorem dL_rides_736 : decode cL_rides 736 = .ok (.ireturn, 1) := by decide +kernel
