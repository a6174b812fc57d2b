theorem dL_refused_463 : decode cL_refused 463 = .ok (.iconst (-1), 1) := by decide +kernel
theorem dL_refused_464 : decode cL_refused 464 = .ok (.if_icmp .eq 5, 3) := by decide +kernel
theorem dL_refused_467 : decode cL_refused 467 = .ok (.iconst 0, 1) := by decide +kernel
theorem dL_refused_468 : decode cL_refused 468 = .ok (.ireturn, 1) := by decide +kernel
theorem dL_refused_469 : decode cL_refused 469 = .ok (.iload_n 3, 1) := by decide +kernel
theorem dL_refused_470 : decode cL_refused 470 = .ok (.ifCond .ne 12, 3) := by decide +kernel
theorem dL_refused_473 : decode cL_refused 473 = .ok (.aload_n 0, 1) := by decide +kernel
theorem dL_refused_474 : decode cL_refused 474 = .ok (.bipush 17, 2) := by decide +kernel
theorem dL_refused_476 : decode cL_refused 476 = .ok (.invokevirtual 36, 3) := by decide +kernel
theorem dL_refused_479 : decode cL_refused 479 = .ok (.goto 4, 3) := by decide +kernel
theorem dL_refused_482 : decode cL_refused 482 = .ok (.iconst (-1), 1) := by decide +kernel
theorem dL_refused_483 : decode cL_refused 483 = .ok (.istore 7, 2) := by decide +kernel
theorem dL_refused_485 : decode cL_refused 485 = .ok (.aload_n 0, 1) := by decide +kernel
theorem dL_refused_486 : decode cL_refused 486 = .ok (.iload 7, 2) := by decide +kernel
theorem dL_refused_488 : decode cL_refused 488 = .ok (.invokevirtual 112, 3) := by decide +kernel
theorem dL_refused_491 : decode cL_refused 491 = .ok (.iconst (-1), 1) := by decide +kernel
theorem dL_refused_492 : decode cL_refused 492 = .ok (.if_icmp .ne 75, 3) := by decide +kernel
theorem dL_refused_495 : decode cL_refused 495 = .ok (.aload_n 0, 1) := by decide +kernel
theorem dL_refused_496 : decode cL_refused 496 = .ok (.iload 7, 2) := by decide +kernel
theorem dL_refused_498 : decode cL_refused 498 = .ok (.bipush 7, 2) := by decide +kernel
theorem dL_refused_500 : decode cL_refused 500 = .ok (.invokevirtual 50, 3) := by decide +kernel
theorem dL_refused_503 : decode cL_refused 503 = .ok (.iconst (-1), 1) := by decide +kernel
theorem dL_refused_504 : decode cL_refused 504 = .ok (.if_icmp .ne 63, 3) := by decide +kernel
theorem dL_refused_507 : decode cL_refused 507 = .ok (.aload_n 0, 1) := by decide +kernel
theorem dL_refused_508 : decode cL_refused 508 = .ok (.iconst (-1), 1) := by decide +kernel
theorem dL_refused_509 : decode cL_refused 509 = .ok (.iload_n 3, 1) := by decide +kernel
theorem dL_refused_510 : decode cL_refused 510 = .ok (.isub, 1) := by decide +kernel
theorem dL_refused_511 : decode cL_refused 511 = .ok (.iconst 0, 1) := by decide +kernel
theorem dL_refused_512 : decode cL_refused 512 = .ok (.invokevirtual 53, 3) := by decide +kernel
theorem dL_refused_515 : decode cL_refused 515 = .ok (.bipush (-2), 2) := by decide +kernel
theorem dL_refused_517 : decode cL_refused 517 = .ok (.if_icmp .ne 50, 3) := by decide +kernel
theorem dL_refused_520 : decode cL_refused 520 = .ok (.aload_n 0, 1) := by decide +kernel
theorem dL_refused_521 : decode cL_refused 521 = .ok (.bipush 99, 2) := by decide +kernel
theorem dL_refused_523 : decode cL_refused 523 = .ok (.iconst 5, 1) := by decide +kernel
theorem dL_refused_524 : decode cL_refused 524 = .ok (.bipush 6, 2) := by decide +kernel
theorem dL_refused_526 : decode cL_refused 526 = .ok (.iload_n 3, 1) := by decide +kernel
theorem dL_refused_527 : decode cL_refused 527 = .ok (.imul, 1) := by decide +kernel
theorem dL_refused_528 : decode cL_refused 528 = .ok (.isub, 1) := by decide +kernel
theorem dL_refused_529 : decode cL_refused 529 = .ok (.invokevirtual 53, 3) := by decide +kernel
theorem dL_refused_532 : decode cL_refused 532 = .ok (.bipush (-2), 2) := by decide +kernel
theorem dL_refused_534 : decode cL_refused 534 = .ok (.if_icmp .ne 33, 3) := by decide +kernel
theorem dL_refused_537 : decode cL_refused 537 = .ok (.aload_n 0, 1) := by decide +kernel
theorem dL_refused_538 : decode cL_refused 538 = .ok (.bipush 21, 2) := by decide +kernel
theorem dL_refused_540 : decode cL_refused 540 = .ok (.bipush 22, 2) := by decide +kernel
theorem dL_refused_542 : decode cL_refused 542 = .ok (.iload_n 3, 1) := by decide +kernel
theorem dL_refused_543 : decode cL_refused 543 = .ok (.imul, 1) := by decide +kernel
theorem dL_refused_544 : decode cL_refused 544 = .ok (.isub, 1) := by decide +kernel
theorem dL_refused_545 : decode cL_refused 545 = .ok (.invokevirtual 36, 3) := by decide +kernel
theorem dL_refused_548 : decode cL_refused 548 = .ok (.bipush (-2), 2) := by decide +kernel
theorem dL_refused_550 : decode cL_refused 550 = .ok (.if_icmp .ne 17, 3) := by decide +kernel
theorem dL_refused_553 : decode cL_refused 553 = .ok (.aload_n 0, 1) := by decide +kernel
theorem dL_refused_554 : decode cL_refused 554 = .ok (.bipush 12, 2) := by decide +kernel
theorem dL_refused_556 : decode cL_refused 556 = .ok (.iconst 4, 1) := by decide +kernel
theorem dL_refused_557 : decode cL_refused 557 = .ok (.iload_n 3, 1) := by decide +kernel
theorem dL_refused_558 : decode cL_refused 558 = .ok (.imul, 1) := by decide +kernel
theorem dL_refused_559 : decode cL_refused 559 = .ok (.invokevirtual 53, 3) := by decide +kernel
theorem dL_refused_562 : decode cL_refused 562 = .ok (.bipush (-5), 2) := by decide +kernel
theorem dL_refused_564 : decode cL_refused 564 = .ok (.if_icmp .eq 5, 3) := by decide +kernel
theorem dL_refused_567 : decode cL_refused 567 = .ok (.iconst 0, 1) := by decide +kernel
theorem dL_refused_568 : decode cL_refused 568 = .ok (.ireturn, 1) := by decide +kernel
theorem dL_refused_569 : decode cL_refused 569 = .ok (.aload_n 0, 1) := by decide +kernel
theorem dL_refused_570 : decode cL_refused 570 = .ok (.iconst 1, 1) := by decide +kernel
theorem dL_refused_571 : decode cL_refused 571 = .ok (.invokevirtual 36, 3) := by decide +kernel
theorem dL_refused_574 : decode cL_refused 574 = .ok (.ifCond .le 54, 3) := by decide +kernel
theorem dL_refused_577 : decode cL_refused 577 = .ok (.aload_n 0, 1) := by decide +kernel
theorem dL_refused_578 : decode cL_refused 578 = .ok (.iconst 0, 1) := by decide +kernel
theorem dL_refused_579 : decode cL_refused 579 = .ok (.bipush 51, 2) := by decide +kernel
theorem dL_refused_581 : decode cL_refused 581 = .ok (.bipush 51, 2) := by decide +kernel
theorem dL_refused_583 : decode cL_refused 583 = .ok (.iload_n 3, 1) := by decide +kernel
theorem dL_refused_584 : decode cL_refused 584 = .ok (.imul, 1) := by decide +kernel
theorem dL_refused_585 : decode cL_refused 585 = .ok (.isub, 1) := by decide +kernel
theorem dL_refused_586 : decode cL_refused 586 = .ok (.invokevirtual 106, 3) := by decide +kernel
theorem dL_refused_589 : decode cL_refused 589 = .ok (.bipush (-2), 2) := by decide +kernel
theorem dL_refused_591 : decode cL_refused 591 = .ok (.if_icmp .ne 35, 3) := by decide +kernel
theorem dL_refused_594 : decode cL_refused 594 = .ok (.aload_n 0, 1) := by decide +kernel
theorem dL_refused_595 : decode cL_refused 595 = .ok (.iconst 0, 1) := by decide +kernel
theorem dL_refused_596 : decode cL_refused 596 = .ok (.bipush 14, 2) := by decide +kernel
theorem dL_refused_598 : decode cL_refused 598 = .ok (.bipush 15, 2) := by decide +kernel
theorem dL_refused_600 : decode cL_refused 600 = .ok (.iload_n 3, 1) := by decide +kernel
theorem dL_refused_601 : decode cL_refused 601 = .ok (.imul, 1) := by decide +kernel
theorem dL_refused_602 : decode cL_refused 602 = .ok (.isub, 1) := by decide +kernel
theorem dL_refused_603 : decode cL_refused 603 = .ok (.invokevirtual 47, 3) := by decide +kernel
theorem dL_refused_606 : decode cL_refused 606 = .ok (.bipush (-2), 2) := by decide +kernel
theorem dL_refused_608 : decode cL_refused 608 = .ok (.if_icmp .ne 18, 3) := by decide +kernel
theorem dL_refused_611 : decode cL_refused 611 = .ok (.aload_n 0, 1) := by decide +kernel
theorem dL_refused_612 : decode cL_refused 612 = .ok (.iconst 0, 1) := by decide +kernel
theorem dL_refused_613 : decode cL_refused 613 = .ok (.iconst 4, 1) := by decide +kernel
theorem dL_refused_614 : decode cL_refused 614 = .ok (.iconst 5, 1) := by decide +kernel
theorem dL_refused_615 : decode cL_refused 615 = .ok (.iload_n 3, 1) := by decide +kernel
theorem dL_refused_616 : decode cL_refused 616 = .ok (.imul, 1) := by decide +kernel
theorem dL_refused_617 : decode cL_refused 617 = .ok (.isub, 1) := by decide +kernel
theorem dL_refused_618 : decode cL_refused 618 = .ok (.invokevirtual 109, 3) := by decide +kernel
theorem dL_refused_621 : decode cL_refused 621 = .ok (.bipush (-2), 2) := by decide +kernel
theorem dL_refused_623 : decode cL_refused 623 = .ok (.if_icmp .eq 5, 3) := by decide +kernel
theorem dL_refused_626 : decode cL_refused 626 = .ok (.iconst 0, 1) := by decide +kernel
theorem dL_refused_627 : decode cL_refused 627 = .ok (.ireturn, 1) := by decide +kernel
theorem dL_refused_628 : decode cL_refused 628 = .ok (.aload_n 0, 1) := by decide +kernel
theorem dL_refused_629 : decode cL_refused 629 = .ok (.iconst 0, 1) := by decide +kernel
theorem dL_refused_630 : decode cL_refused 630 = .ok (.iconst 4, 1) := by decide +kernel
theorem dL_refused_631 : decode cL_refused 631 = .ok (.invokevirtual 13, 3) := by decide +kernel
theorem dL_refused_634 : decode cL_refused 634 = .ok (.iconst 1, 1) := by decide +kernel
theorem dL_refused_635 : decode cL_refused 635 = .ok (.if_icmp .le 84, 3) := by decide +kernel
theorem dL_refused_638 : decode cL_refused 638 = .ok (.aload_n 0, 1) := by decide +kernel
theorem dL_refused_639 : decode cL_refused 639 = .ok (.iconst 0, 1) := by decide +kernel
theorem dL_refused_640 : decode cL_refused 640 = .ok (.ldc 115, 2) := by decide +kernel
theorem dL_refused_642 : decode cL_refused 642 = .ok (.ldc 116, 2) := by decide +kernel
theorem dL_refused_644 : decode cL_refused 644 = .ok (.iload_n 3, 1) := by decide +kernel
theorem dL_refused_645 : decode cL_refused 645 = .ok (.imul, 1) := by decide +kernel
theorem dL_refused_646 : decode cL_refused 646 = .ok (.isub, 1) := by decide +kernel
theorem dL_refused_647 : decode cL_refused 647 = .ok (.invokevirtual 87, 3) := by decide +kernel
theorem dL_refused_650 : decode cL_refused 650 = .ok (.bipush (-2), 2) := by decide +kernel
theorem dL_refused_652 : decode cL_refused 652 = .ok (.if_icmp .ne 65, 3) := by decide +kernel
theorem dL_refused_655 : decode cL_refused 655 = .ok (.aload_n 0, 1) := by decide +kernel
theorem dL_refused_656 : decode cL_refused 656 = .ok (.iconst 0, 1) := by decide +kernel
theorem dL_refused_657 : decode cL_refused 657 = .ok (.bipush 9, 2) := by decide +kernel
theorem dL_refused_659 : decode cL_refused 659 = .ok (.bipush 10, 2) := by decide +kernel
theorem dL_refused_661 : decode cL_refused 661 = .ok (.iload_n 3, 1) := by decide +kernel
theorem dL_refused_662 : decode cL_refused 662 = .ok (.imul, 1) := by decide +kernel
theorem dL_refused_663 : decode cL_refused 663 = .ok (.isub, 1) := by decide +kernel
theorem dL_refused_664 : decode cL_refused 664 = .ok (.invokevirtual 19, 3) := by decide +kernel
theorem dL_refused_667 : decode cL_refused 667 = .ok (.bipush (-2), 2) := by decide +kernel
theorem dL_refused_669 : decode cL_refused 669 = .ok (.if_icmp .ne 48, 3) := by decide +kernel
theorem dL_refused_672 : decode cL_refused 672 = .ok (.aload_n 0, 1) := by decide +kernel
theorem dL_refused_673 : decode cL_refused 673 = .ok (.iconst 0, 1) := by decide +kernel
theorem dL_refused_674 : decode cL_refused 674 = .ok (.iconst (-1), 1) := by decide +kernel
theorem dL_refused_675 : decode cL_refused 675 = .ok (.iload_n 3, 1) := by decide +kernel
theorem dL_refused_676 : decode cL_refused 676 = .ok (.isub, 1) := by decide +kernel
theorem dL_refused_677 : decode cL_refused 677 = .ok (.invokevirtual 28, 3) := by decide +kernel
theorem dL_refused_680 : decode cL_refused 680 = .ok (.bipush (-2), 2) := by decide +kernel
