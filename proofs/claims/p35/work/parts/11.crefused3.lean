theorem dL_refused_682 : decode cL_refused 682 = .ok (.if_icmp .ne 35, 3) := by decide +kernel
theorem dL_refused_685 : decode cL_refused 685 = .ok (.aload_n 0, 1) := by decide +kernel
theorem dL_refused_686 : decode cL_refused 686 = .ok (.iconst 0, 1) := by decide +kernel
theorem dL_refused_687 : decode cL_refused 687 = .ok (.iconst (-1), 1) := by decide +kernel
theorem dL_refused_688 : decode cL_refused 688 = .ok (.iload_n 3, 1) := by decide +kernel
theorem dL_refused_689 : decode cL_refused 689 = .ok (.isub, 1) := by decide +kernel
theorem dL_refused_690 : decode cL_refused 690 = .ok (.invokevirtual 31, 3) := by decide +kernel
theorem dL_refused_693 : decode cL_refused 693 = .ok (.bipush (-2), 2) := by decide +kernel
theorem dL_refused_695 : decode cL_refused 695 = .ok (.if_icmp .ne 22, 3) := by decide +kernel
theorem dL_refused_698 : decode cL_refused 698 = .ok (.aload_n 0, 1) := by decide +kernel
theorem dL_refused_699 : decode cL_refused 699 = .ok (.iconst 0, 1) := by decide +kernel
theorem dL_refused_700 : decode cL_refused 700 = .ok (.sipush 301, 3) := by decide +kernel
theorem dL_refused_703 : decode cL_refused 703 = .ok (.sipush 302, 3) := by decide +kernel
theorem dL_refused_706 : decode cL_refused 706 = .ok (.iload_n 3, 1) := by decide +kernel
theorem dL_refused_707 : decode cL_refused 707 = .ok (.imul, 1) := by decide +kernel
theorem dL_refused_708 : decode cL_refused 708 = .ok (.isub, 1) := by decide +kernel
theorem dL_refused_709 : decode cL_refused 709 = .ok (.invokevirtual 93, 3) := by decide +kernel
theorem dL_refused_712 : decode cL_refused 712 = .ok (.bipush (-2), 2) := by decide +kernel
theorem dL_refused_714 : decode cL_refused 714 = .ok (.if_icmp .eq 5, 3) := by decide +kernel
theorem dL_refused_717 : decode cL_refused 717 = .ok (.iconst 0, 1) := by decide +kernel
theorem dL_refused_718 : decode cL_refused 718 = .ok (.ireturn, 1) := by decide +kernel
theorem dL_refused_719 : decode cL_refused 719 = .ok (.aload_n 0, 1) := by decide +kernel
theorem dL_refused_720 : decode cL_refused 720 = .ok (.iconst 0, 1) := by decide +kernel
theorem dL_refused_721 : decode cL_refused 721 = .ok (.iconst 4, 1) := by decide +kernel
theorem dL_refused_722 : decode cL_refused 722 = .ok (.invokevirtual 13, 3) := by decide +kernel
theorem dL_refused_725 : decode cL_refused 725 = .ok (.iconst 1, 1) := by decide +kernel
theorem dL_refused_726 : decode cL_refused 726 = .ok (.if_icmp .le 88, 3) := by decide +kernel
theorem dL_refused_729 : decode cL_refused 729 = .ok (.aload_n 0, 1) := by decide +kernel
theorem dL_refused_730 : decode cL_refused 730 = .ok (.ldc 115, 2) := by decide +kernel
theorem dL_refused_732 : decode cL_refused 732 = .ok (.ldc 116, 2) := by decide +kernel
theorem dL_refused_734 : decode cL_refused 734 = .ok (.iload_n 3, 1) := by decide +kernel
theorem dL_refused_735 : decode cL_refused 735 = .ok (.imul, 1) := by decide +kernel
theorem dL_refused_736 : decode cL_refused 736 = .ok (.isub, 1) := by decide +kernel
theorem dL_refused_737 : decode cL_refused 737 = .ok (.iconst 1, 1) := by decide +kernel
theorem dL_refused_738 : decode cL_refused 738 = .ok (.iconst 0, 1) := by decide +kernel
theorem dL_refused_739 : decode cL_refused 739 = .ok (.iconst 1, 1) := by decide +kernel
theorem dL_refused_740 : decode cL_refused 740 = .ok (.iconst 1, 1) := by decide +kernel
theorem dL_refused_741 : decode cL_refused 741 = .ok (.invokevirtual 96, 3) := by decide +kernel
theorem dL_refused_744 : decode cL_refused 744 = .ok (.bipush (-2), 2) := by decide +kernel
theorem dL_refused_746 : decode cL_refused 746 = .ok (.if_icmp .ne 66, 3) := by decide +kernel
theorem dL_refused_749 : decode cL_refused 749 = .ok (.aload_n 0, 1) := by decide +kernel
theorem dL_refused_750 : decode cL_refused 750 = .ok (.iconst 0, 1) := by decide +kernel
theorem dL_refused_751 : decode cL_refused 751 = .ok (.iconst 4, 1) := by decide +kernel
theorem dL_refused_752 : decode cL_refused 752 = .ok (.iconst 4, 1) := by decide +kernel
theorem dL_refused_753 : decode cL_refused 753 = .ok (.iload_n 3, 1) := by decide +kernel
theorem dL_refused_754 : decode cL_refused 754 = .ok (.imul, 1) := by decide +kernel
theorem dL_refused_755 : decode cL_refused 755 = .ok (.isub, 1) := by decide +kernel
theorem dL_refused_756 : decode cL_refused 756 = .ok (.iconst 0, 1) := by decide +kernel
theorem dL_refused_757 : decode cL_refused 757 = .ok (.iconst 1, 1) := by decide +kernel
theorem dL_refused_758 : decode cL_refused 758 = .ok (.iconst 1, 1) := by decide +kernel
theorem dL_refused_759 : decode cL_refused 759 = .ok (.invokevirtual 96, 3) := by decide +kernel
theorem dL_refused_762 : decode cL_refused 762 = .ok (.bipush (-2), 2) := by decide +kernel
theorem dL_refused_764 : decode cL_refused 764 = .ok (.if_icmp .ne 48, 3) := by decide +kernel
theorem dL_refused_767 : decode cL_refused 767 = .ok (.aload_n 0, 1) := by decide +kernel
theorem dL_refused_768 : decode cL_refused 768 = .ok (.iconst 0, 1) := by decide +kernel
theorem dL_refused_769 : decode cL_refused 769 = .ok (.iconst 1, 1) := by decide +kernel
theorem dL_refused_770 : decode cL_refused 770 = .ok (.iconst 0, 1) := by decide +kernel
theorem dL_refused_771 : decode cL_refused 771 = .ok (.iconst 1, 1) := by decide +kernel
theorem dL_refused_772 : decode cL_refused 772 = .ok (.bipush 10, 2) := by decide +kernel
theorem dL_refused_774 : decode cL_refused 774 = .ok (.bipush 10, 2) := by decide +kernel
theorem dL_refused_776 : decode cL_refused 776 = .ok (.iload_n 3, 1) := by decide +kernel
theorem dL_refused_777 : decode cL_refused 777 = .ok (.imul, 1) := by decide +kernel
theorem dL_refused_778 : decode cL_refused 778 = .ok (.isub, 1) := by decide +kernel
theorem dL_refused_779 : decode cL_refused 779 = .ok (.invokevirtual 96, 3) := by decide +kernel
theorem dL_refused_782 : decode cL_refused 782 = .ok (.bipush (-2), 2) := by decide +kernel
theorem dL_refused_784 : decode cL_refused 784 = .ok (.if_icmp .ne 28, 3) := by decide +kernel
theorem dL_refused_787 : decode cL_refused 787 = .ok (.aload_n 0, 1) := by decide +kernel
theorem dL_refused_788 : decode cL_refused 788 = .ok (.iconst 0, 1) := by decide +kernel
theorem dL_refused_789 : decode cL_refused 789 = .ok (.iconst 1, 1) := by decide +kernel
theorem dL_refused_790 : decode cL_refused 790 = .ok (.iload_n 3, 1) := by decide +kernel
theorem dL_refused_791 : decode cL_refused 791 = .ok (.iload_n 3, 1) := by decide +kernel
theorem dL_refused_792 : decode cL_refused 792 = .ok (.iconst 1, 1) := by decide +kernel
theorem dL_refused_793 : decode cL_refused 793 = .ok (.invokevirtual 96, 3) := by decide +kernel
theorem dL_refused_796 : decode cL_refused 796 = .ok (.bipush (-2), 2) := by decide +kernel
theorem dL_refused_798 : decode cL_refused 798 = .ok (.if_icmp .ne 14, 3) := by decide +kernel
theorem dL_refused_801 : decode cL_refused 801 = .ok (.aload_n 0, 1) := by decide +kernel
theorem dL_refused_802 : decode cL_refused 802 = .ok (.iload_n 3, 1) := by decide +kernel
theorem dL_refused_803 : decode cL_refused 803 = .ok (.iload_n 3, 1) := by decide +kernel
theorem dL_refused_804 : decode cL_refused 804 = .ok (.invokevirtual 100, 3) := by decide +kernel
theorem dL_refused_807 : decode cL_refused 807 = .ok (.bipush (-2), 2) := by decide +kernel
theorem dL_refused_809 : decode cL_refused 809 = .ok (.if_icmp .eq 5, 3) := by decide +kernel
theorem dL_refused_812 : decode cL_refused 812 = .ok (.iconst 0, 1) := by decide +kernel
theorem dL_refused_813 : decode cL_refused 813 = .ok (.ireturn, 1) := by decide +kernel
theorem dL_refused_814 : decode cL_refused 814 = .ok (.iinc 3 1, 3) := by decide +kernel
theorem dL_refused_817 : decode cL_refused 817 = .ok (.goto (-790), 3) := by decide +kernel
theorem dL_refused_820 : decode cL_refused 820 = .ok (.aload_n 0, 1) := by decide +kernel
theorem dL_refused_821 : decode cL_refused 821 = .ok (.aload_n 0, 1) := by decide +kernel
theorem dL_refused_822 : decode cL_refused 822 = .ok (.bipush 15, 2) := by decide +kernel
theorem dL_refused_824 : decode cL_refused 824 = .ok (.invokevirtual 36, 3) := by decide +kernel
theorem dL_refused_827 : decode cL_refused 827 = .ok (.invokevirtual 75, 3) := by decide +kernel
theorem dL_refused_830 : decode cL_refused 830 = .ok (.bipush (-5), 2) := by decide +kernel
theorem dL_refused_832 : decode cL_refused 832 = .ok (.if_icmp .ne 70, 3) := by decide +kernel
theorem dL_refused_835 : decode cL_refused 835 = .ok (.aload_n 0, 1) := by decide +kernel
theorem dL_refused_836 : decode cL_refused 836 = .ok (.aload_n 0, 1) := by decide +kernel
theorem dL_refused_837 : decode cL_refused 837 = .ok (.bipush 16, 2) := by decide +kernel
theorem dL_refused_839 : decode cL_refused 839 = .ok (.invokevirtual 36, 3) := by decide +kernel
theorem dL_refused_842 : decode cL_refused 842 = .ok (.invokevirtual 78, 3) := by decide +kernel
theorem dL_refused_845 : decode cL_refused 845 = .ok (.bipush (-5), 2) := by decide +kernel
theorem dL_refused_847 : decode cL_refused 847 = .ok (.if_icmp .ne 55, 3) := by decide +kernel
theorem dL_refused_850 : decode cL_refused 850 = .ok (.aload_n 0, 1) := by decide +kernel
theorem dL_refused_851 : decode cL_refused 851 = .ok (.iconst 0, 1) := by decide +kernel
theorem dL_refused_852 : decode cL_refused 852 = .ok (.aload_n 0, 1) := by decide +kernel
theorem dL_refused_853 : decode cL_refused 853 = .ok (.iconst 0, 1) := by decide +kernel
theorem dL_refused_854 : decode cL_refused 854 = .ok (.iconst 3, 1) := by decide +kernel
theorem dL_refused_855 : decode cL_refused 855 = .ok (.invokevirtual 13, 3) := by decide +kernel
theorem dL_refused_858 : decode cL_refused 858 = .ok (.bipush 100, 2) := by decide +kernel
theorem dL_refused_860 : decode cL_refused 860 = .ok (.isub, 1) := by decide +kernel
theorem dL_refused_861 : decode cL_refused 861 = .ok (.invokevirtual 69, 3) := by decide +kernel
theorem dL_refused_864 : decode cL_refused 864 = .ok (.bipush (-5), 2) := by decide +kernel
theorem dL_refused_866 : decode cL_refused 866 = .ok (.if_icmp .ne 36, 3) := by decide +kernel
theorem dL_refused_869 : decode cL_refused 869 = .ok (.aload_n 0, 1) := by decide +kernel
theorem dL_refused_870 : decode cL_refused 870 = .ok (.invokestatic 65, 3) := by decide +kernel
theorem dL_refused_873 : decode cL_refused 873 = .ok (.aload_n 0, 1) := by decide +kernel
theorem dL_refused_874 : decode cL_refused 874 = .ok (.bipush 19, 2) := by decide +kernel
theorem dL_refused_876 : decode cL_refused 876 = .ok (.invokevirtual 36, 3) := by decide +kernel
theorem dL_refused_879 : decode cL_refused 879 = .ok (.i2l, 1) := by decide +kernel
theorem dL_refused_880 : decode cL_refused 880 = .ok (.invokestatic 22, 3) := by decide +kernel
theorem dL_refused_883 : decode cL_refused 883 = .ok (.aload_n 0, 1) := by decide +kernel
theorem dL_refused_884 : decode cL_refused 884 = .ok (.bipush 20, 2) := by decide +kernel
theorem dL_refused_886 : decode cL_refused 886 = .ok (.invokevirtual 36, 3) := by decide +kernel
theorem dL_refused_889 : decode cL_refused 889 = .ok (.i2l, 1) := by decide +kernel
theorem dL_refused_890 : decode cL_refused 890 = .ok (.invokestatic 22, 3) := by decide +kernel
theorem dL_refused_893 : decode cL_refused 893 = .ok (.lload_n 1, 1) := by decide +kernel
theorem dL_refused_894 : decode cL_refused 894 = .ok (.lcmp, 1) := by decide +kernel
theorem dL_refused_895 : decode cL_refused 895 = .ok (.ifCond .ne 7, 3) := by decide +kernel
theorem dL_refused_898 : decode cL_refused 898 = .ok (.iconst 1, 1) := by decide +kernel
theorem dL_refused_899 : decode cL_refused 899 = .ok (.goto 4, 3) := by decide +kernel
theorem dL_refused_902 : decode cL_refused 902 = .ok (.iconst 0, 1) := by decide +kernel
theorem dL_refused_903 : decode cL_refused 903 = .ok (.ireturn, 1) := by decide +kernel
