theorem dL_pauses_561 : decode cL_pauses 561 = .ok (.invokevirtual 72, 3) := by decide +kernel
theorem dL_pauses_564 : decode cL_pauses 564 = .ok (.iconst 1, 1) := by decide +kernel
theorem dL_pauses_565 : decode cL_pauses 565 = .ok (.if_icmp .ne 69, 3) := by decide +kernel
theorem dL_pauses_568 : decode cL_pauses 568 = .ok (.aload_n 0, 1) := by decide +kernel
theorem dL_pauses_569 : decode cL_pauses 569 = .ok (.iconst 0, 1) := by decide +kernel
theorem dL_pauses_570 : decode cL_pauses 570 = .ok (.invokevirtual 72, 3) := by decide +kernel
theorem dL_pauses_573 : decode cL_pauses 573 = .ok (.bipush (-5), 2) := by decide +kernel
theorem dL_pauses_575 : decode cL_pauses 575 = .ok (.if_icmp .ne 59, 3) := by decide +kernel
theorem dL_pauses_578 : decode cL_pauses 578 = .ok (.aload_n 0, 1) := by decide +kernel
theorem dL_pauses_579 : decode cL_pauses 579 = .ok (.iconst 3, 1) := by decide +kernel
theorem dL_pauses_580 : decode cL_pauses 580 = .ok (.bipush 6, 2) := by decide +kernel
theorem dL_pauses_582 : decode cL_pauses 582 = .ok (.invokevirtual 47, 3) := by decide +kernel
theorem dL_pauses_585 : decode cL_pauses 585 = .ok (.bipush 7, 2) := by decide +kernel
theorem dL_pauses_587 : decode cL_pauses 587 = .ok (.if_icmp .ne 47, 3) := by decide +kernel
theorem dL_pauses_590 : decode cL_pauses 590 = .ok (.aload_n 0, 1) := by decide +kernel
theorem dL_pauses_591 : decode cL_pauses 591 = .ok (.iconst 3, 1) := by decide +kernel
theorem dL_pauses_592 : decode cL_pauses 592 = .ok (.bipush 12, 2) := by decide +kernel
theorem dL_pauses_594 : decode cL_pauses 594 = .ok (.invokevirtual 47, 3) := by decide +kernel
theorem dL_pauses_597 : decode cL_pauses 597 = .ok (.bipush (-5), 2) := by decide +kernel
theorem dL_pauses_599 : decode cL_pauses 599 = .ok (.if_icmp .ne 35, 3) := by decide +kernel
theorem dL_pauses_602 : decode cL_pauses 602 = .ok (.aload_n 0, 1) := by decide +kernel
theorem dL_pauses_603 : decode cL_pauses 603 = .ok (.iconst 0, 1) := by decide +kernel
theorem dL_pauses_604 : decode cL_pauses 604 = .ok (.iconst 0, 1) := by decide +kernel
theorem dL_pauses_605 : decode cL_pauses 605 = .ok (.invokevirtual 53, 3) := by decide +kernel
theorem dL_pauses_608 : decode cL_pauses 608 = .ok (.bipush 8, 2) := by decide +kernel
theorem dL_pauses_610 : decode cL_pauses 610 = .ok (.if_icmp .ne 24, 3) := by decide +kernel
theorem dL_pauses_613 : decode cL_pauses 613 = .ok (.aload_n 0, 1) := by decide +kernel
theorem dL_pauses_614 : decode cL_pauses 614 = .ok (.bipush 13, 2) := by decide +kernel
theorem dL_pauses_616 : decode cL_pauses 616 = .ok (.invokevirtual 36, 3) := by decide +kernel
theorem dL_pauses_619 : decode cL_pauses 619 = .ok (.sipush 547, 3) := by decide +kernel
theorem dL_pauses_622 : decode cL_pauses 622 = .ok (.if_icmp .ne 12, 3) := by decide +kernel
theorem dL_pauses_625 : decode cL_pauses 625 = .ok (.aload_n 0, 1) := by decide +kernel
theorem dL_pauses_626 : decode cL_pauses 626 = .ok (.bipush 14, 2) := by decide +kernel
theorem dL_pauses_628 : decode cL_pauses 628 = .ok (.invokevirtual 36, 3) := by decide +kernel
theorem dL_pauses_631 : decode cL_pauses 631 = .ok (.ifCond .eq 5, 3) := by decide +kernel
theorem dL_pauses_634 : decode cL_pauses 634 = .ok (.iconst 0, 1) := by decide +kernel
theorem dL_pauses_635 : decode cL_pauses 635 = .ok (.ireturn, 1) := by decide +kernel
theorem dL_pauses_636 : decode cL_pauses 636 = .ok (.invokestatic 193, 3) := by decide +kernel
theorem dL_pauses_639 : decode cL_pauses 639 = .ok (.astore_n 1, 1) := by decide +kernel
theorem dL_pauses_640 : decode cL_pauses 640 = .ok (.aload_n 1, 1) := by decide +kernel
theorem dL_pauses_641 : decode cL_pauses 641 = .ok (.iconst 0, 1) := by decide +kernel
theorem dL_pauses_642 : decode cL_pauses 642 = .ok (.bipush (-10), 2) := by decide +kernel
theorem dL_pauses_644 : decode cL_pauses 644 = .ok (.invokevirtual 69, 3) := by decide +kernel
theorem dL_pauses_647 : decode cL_pauses 647 = .ok (.bipush 10, 2) := by decide +kernel
theorem dL_pauses_649 : decode cL_pauses 649 = .ok (.if_icmp .ne 88, 3) := by decide +kernel
theorem dL_pauses_652 : decode cL_pauses 652 = .ok (.aload_n 1, 1) := by decide +kernel
theorem dL_pauses_653 : decode cL_pauses 653 = .ok (.iconst 0, 1) := by decide +kernel
theorem dL_pauses_654 : decode cL_pauses 654 = .ok (.iconst 0, 1) := by decide +kernel
theorem dL_pauses_655 : decode cL_pauses 655 = .ok (.invokevirtual 69, 3) := by decide +kernel
theorem dL_pauses_658 : decode cL_pauses 658 = .ok (.bipush 10, 2) := by decide +kernel
theorem dL_pauses_660 : decode cL_pauses 660 = .ok (.if_icmp .ne 77, 3) := by decide +kernel
theorem dL_pauses_663 : decode cL_pauses 663 = .ok (.aload_n 1, 1) := by decide +kernel
theorem dL_pauses_664 : decode cL_pauses 664 = .ok (.iconst 0, 1) := by decide +kernel
theorem dL_pauses_665 : decode cL_pauses 665 = .ok (.bipush (-10), 2) := by decide +kernel
theorem dL_pauses_667 : decode cL_pauses 667 = .ok (.invokevirtual 69, 3) := by decide +kernel
theorem dL_pauses_670 : decode cL_pauses 670 = .ok (.bipush 10, 2) := by decide +kernel
theorem dL_pauses_672 : decode cL_pauses 672 = .ok (.if_icmp .ne 65, 3) := by decide +kernel
theorem dL_pauses_675 : decode cL_pauses 675 = .ok (.aload_n 1, 1) := by decide +kernel
theorem dL_pauses_676 : decode cL_pauses 676 = .ok (.iconst 0, 1) := by decide +kernel
theorem dL_pauses_677 : decode cL_pauses 677 = .ok (.iconst 1, 1) := by decide +kernel
theorem dL_pauses_678 : decode cL_pauses 678 = .ok (.invokevirtual 100, 3) := by decide +kernel
theorem dL_pauses_681 : decode cL_pauses 681 = .ok (.bipush (-5), 2) := by decide +kernel
theorem dL_pauses_683 : decode cL_pauses 683 = .ok (.if_icmp .ne 54, 3) := by decide +kernel
theorem dL_pauses_686 : decode cL_pauses 686 = .ok (.aload_n 1, 1) := by decide +kernel
theorem dL_pauses_687 : decode cL_pauses 687 = .ok (.iconst 2, 1) := by decide +kernel
theorem dL_pauses_688 : decode cL_pauses 688 = .ok (.invokevirtual 81, 3) := by decide +kernel
theorem dL_pauses_691 : decode cL_pauses 691 = .ok (.ifCond .ne 46, 3) := by decide +kernel
theorem dL_pauses_694 : decode cL_pauses 694 = .ok (.aload_n 1, 1) := by decide +kernel
theorem dL_pauses_695 : decode cL_pauses 695 = .ok (.iconst 0, 1) := by decide +kernel
theorem dL_pauses_696 : decode cL_pauses 696 = .ok (.iconst 1, 1) := by decide +kernel
theorem dL_pauses_697 : decode cL_pauses 697 = .ok (.invokevirtual 13, 3) := by decide +kernel
theorem dL_pauses_700 : decode cL_pauses 700 = .ok (.iconst 4, 1) := by decide +kernel
theorem dL_pauses_701 : decode cL_pauses 701 = .ok (.if_icmp .ne 36, 3) := by decide +kernel
theorem dL_pauses_704 : decode cL_pauses 704 = .ok (.aload_n 1, 1) := by decide +kernel
theorem dL_pauses_705 : decode cL_pauses 705 = .ok (.iconst 0, 1) := by decide +kernel
theorem dL_pauses_706 : decode cL_pauses 706 = .ok (.bipush 8, 2) := by decide +kernel
theorem dL_pauses_708 : decode cL_pauses 708 = .ok (.invokevirtual 13, 3) := by decide +kernel
theorem dL_pauses_711 : decode cL_pauses 711 = .ok (.iconst 2, 1) := by decide +kernel
theorem dL_pauses_712 : decode cL_pauses 712 = .ok (.if_icmp .ne 25, 3) := by decide +kernel
theorem dL_pauses_715 : decode cL_pauses 715 = .ok (.aload_n 1, 1) := by decide +kernel
theorem dL_pauses_716 : decode cL_pauses 716 = .ok (.iconst 0, 1) := by decide +kernel
theorem dL_pauses_717 : decode cL_pauses 717 = .ok (.iconst 2, 1) := by decide +kernel
theorem dL_pauses_718 : decode cL_pauses 718 = .ok (.invokevirtual 13, 3) := by decide +kernel
theorem dL_pauses_721 : decode cL_pauses 721 = .ok (.bipush 100, 2) := by decide +kernel
theorem dL_pauses_723 : decode cL_pauses 723 = .ok (.if_icmp .ne 14, 3) := by decide +kernel
theorem dL_pauses_726 : decode cL_pauses 726 = .ok (.aload_n 1, 1) := by decide +kernel
theorem dL_pauses_727 : decode cL_pauses 727 = .ok (.iconst 0, 1) := by decide +kernel
theorem dL_pauses_728 : decode cL_pauses 728 = .ok (.iconst 0, 1) := by decide +kernel
theorem dL_pauses_729 : decode cL_pauses 729 = .ok (.invokevirtual 53, 3) := by decide +kernel
theorem dL_pauses_732 : decode cL_pauses 732 = .ok (.bipush 7, 2) := by decide +kernel
theorem dL_pauses_734 : decode cL_pauses 734 = .ok (.if_icmp .eq 5, 3) := by decide +kernel
theorem dL_pauses_737 : decode cL_pauses 737 = .ok (.iconst 0, 1) := by decide +kernel
theorem dL_pauses_738 : decode cL_pauses 738 = .ok (.ireturn, 1) := by decide +kernel
theorem dL_pauses_739 : decode cL_pauses 739 = .ok (.aload_n 1, 1) := by decide +kernel
theorem dL_pauses_740 : decode cL_pauses 740 = .ok (.iconst 0, 1) := by decide +kernel
theorem dL_pauses_741 : decode cL_pauses 741 = .ok (.iconst 4, 1) := by decide +kernel
theorem dL_pauses_742 : decode cL_pauses 742 = .ok (.invokevirtual 69, 3) := by decide +kernel
theorem dL_pauses_745 : decode cL_pauses 745 = .ok (.bipush 14, 2) := by decide +kernel
theorem dL_pauses_747 : decode cL_pauses 747 = .ok (.if_icmp .ne 85, 3) := by decide +kernel
theorem dL_pauses_750 : decode cL_pauses 750 = .ok (.aload_n 1, 1) := by decide +kernel
theorem dL_pauses_751 : decode cL_pauses 751 = .ok (.iconst 2, 1) := by decide +kernel
theorem dL_pauses_752 : decode cL_pauses 752 = .ok (.invokevirtual 81, 3) := by decide +kernel
theorem dL_pauses_755 : decode cL_pauses 755 = .ok (.ifCond .ne 77, 3) := by decide +kernel
theorem dL_pauses_758 : decode cL_pauses 758 = .ok (.aload_n 1, 1) := by decide +kernel
theorem dL_pauses_759 : decode cL_pauses 759 = .ok (.iconst 0, 1) := by decide +kernel
theorem dL_pauses_760 : decode cL_pauses 760 = .ok (.iconst 1, 1) := by decide +kernel
theorem dL_pauses_761 : decode cL_pauses 761 = .ok (.invokevirtual 13, 3) := by decide +kernel
theorem dL_pauses_764 : decode cL_pauses 764 = .ok (.bipush 6, 2) := by decide +kernel
theorem dL_pauses_766 : decode cL_pauses 766 = .ok (.if_icmp .ne 66, 3) := by decide +kernel
theorem dL_pauses_769 : decode cL_pauses 769 = .ok (.aload_n 1, 1) := by decide +kernel
theorem dL_pauses_770 : decode cL_pauses 770 = .ok (.iconst 0, 1) := by decide +kernel
theorem dL_pauses_771 : decode cL_pauses 771 = .ok (.iconst 2, 1) := by decide +kernel
theorem dL_pauses_772 : decode cL_pauses 772 = .ok (.invokevirtual 13, 3) := by decide +kernel
theorem dL_pauses_775 : decode cL_pauses 775 = .ok (.bipush 108, 2) := by decide +kernel
theorem dL_pauses_777 : decode cL_pauses 777 = .ok (.if_icmp .ne 55, 3) := by decide +kernel
theorem dL_pauses_780 : decode cL_pauses 780 = .ok (.aload_n 1, 1) := by decide +kernel
theorem dL_pauses_781 : decode cL_pauses 781 = .ok (.iconst 1, 1) := by decide +kernel
theorem dL_pauses_782 : decode cL_pauses 782 = .ok (.invokevirtual 81, 3) := by decide +kernel
theorem dL_pauses_785 : decode cL_pauses 785 = .ok (.ifCond .ne 47, 3) := by decide +kernel
theorem dL_pauses_788 : decode cL_pauses 788 = .ok (.aload_n 1, 1) := by decide +kernel
theorem dL_pauses_789 : decode cL_pauses 789 = .ok (.iconst 0, 1) := by decide +kernel
theorem dL_pauses_790 : decode cL_pauses 790 = .ok (.iconst 1, 1) := by decide +kernel
theorem dL_pauses_791 : decode cL_pauses 791 = .ok (.invokevirtual 13, 3) := by decide +kernel
theorem dL_pauses_794 : decode cL_pauses 794 = .ok (.bipush 6, 2) := by decide +kernel
theorem dL_pauses_796 : decode cL_pauses 796 = .ok (.if_icmp .ne 36, 3) := by decide +kernel
theorem dL_pauses_799 : decode cL_pauses 799 = .ok (.aload_n 1, 1) := by decide +kernel
theorem dL_pauses_800 : decode cL_pauses 800 = .ok (.iconst 0, 1) := by decide +kernel
theorem dL_pauses_801 : decode cL_pauses 801 = .ok (.iconst 2, 1) := by decide +kernel
theorem dL_pauses_802 : decode cL_pauses 802 = .ok (.invokevirtual 13, 3) := by decide +kernel
theorem dL_pauses_805 : decode cL_pauses 805 = .ok (.bipush 102, 2) := by decide +kernel
theorem dL_pauses_807 : decode cL_pauses 807 = .ok (.if_icmp .ne 25, 3) := by decide +kernel
theorem dL_pauses_810 : decode cL_pauses 810 = .ok (.aload_n 1, 1) := by decide +kernel
theorem dL_pauses_811 : decode cL_pauses 811 = .ok (.iconst 0, 1) := by decide +kernel
theorem dL_pauses_812 : decode cL_pauses 812 = .ok (.iconst 3, 1) := by decide +kernel
theorem dL_pauses_813 : decode cL_pauses 813 = .ok (.invokevirtual 62, 3) := by decide +kernel
theorem dL_pauses_816 : decode cL_pauses 816 = .ok (.bipush (-4), 2) := by decide +kernel
theorem dL_pauses_818 : decode cL_pauses 818 = .ok (.if_icmp .ne 14, 3) := by decide +kernel
theorem dL_pauses_821 : decode cL_pauses 821 = .ok (.aload_n 1, 1) := by decide +kernel
theorem dL_pauses_822 : decode cL_pauses 822 = .ok (.iconst 0, 1) := by decide +kernel
theorem dL_pauses_823 : decode cL_pauses 823 = .ok (.bipush 7, 2) := by decide +kernel
theorem dL_pauses_825 : decode cL_pauses 825 = .ok (.invokevirtual 62, 3) := by decide +kernel
theorem dL_pauses_828 : decode cL_pauses 828 = .ok (.iconst 2, 1) := by decide +kernel
theorem dL_pauses_829 : decode cL_pauses 829 = .ok (.if_icmp .eq 5, 3) := by decide +kernel
theorem dL_pauses_832 : decode cL_pauses 832 = .ok (.iconst 0, 1) := by decide +kernel
theorem dL_pauses_833 : decode cL_pauses 833 = .ok (.ireturn, 1) := by decide +kernel
theorem dL_pauses_834 : decode cL_pauses 834 = .ok (.aload_n 0, 1) := by decide +kernel
theorem dL_pauses_835 : decode cL_pauses 835 = .ok (.invokestatic 201, 3) := by decide +kernel
theorem dL_pauses_838 : decode cL_pauses 838 = .ok (.ifCond .eq 14, 3) := by decide +kernel
theorem dL_pauses_841 : decode cL_pauses 841 = .ok (.aload_n 1, 1) := by decide +kernel
theorem dL_pauses_842 : decode cL_pauses 842 = .ok (.invokestatic 201, 3) := by decide +kernel
theorem dL_pauses_845 : decode cL_pauses 845 = .ok (.ifCond .eq 7, 3) := by decide +kernel
theorem dL_pauses_848 : decode cL_pauses 848 = .ok (.iconst 1, 1) := by decide +kernel
theorem dL_pauses_849 : decode cL_pauses 849 = .ok (.goto 4, 3) := by decide +kernel
theorem dL_pauses_852 : decode cL_pauses 852 = .ok (.iconst 0, 1) := by decide +kernel
theorem dL_pauses_853 : decode cL_pauses 853 = .ok (.ireturn, 1) := by decide +kernel
