theorem dL_corner_647 : decode cL_corner 647 = .ok (.iconst 1, 1) := by decide +kernel
theorem dL_corner_648 : decode cL_corner 648 = .ok (.if_icmp .ne 106, 3) := by decide +kernel
theorem dL_corner_651 : decode cL_corner 651 = .ok (.aload_n 0, 1) := by decide +kernel
theorem dL_corner_652 : decode cL_corner 652 = .ok (.bipush 63, 2) := by decide +kernel
theorem dL_corner_654 : decode cL_corner 654 = .ok (.iconst 0, 1) := by decide +kernel
theorem dL_corner_655 : decode cL_corner 655 = .ok (.iconst 0, 1) := by decide +kernel
theorem dL_corner_656 : decode cL_corner 656 = .ok (.invokevirtual 63, 3) := by decide +kernel
theorem dL_corner_659 : decode cL_corner 659 = .ok (.iconst 1, 1) := by decide +kernel
theorem dL_corner_660 : decode cL_corner 660 = .ok (.if_icmp .ne 94, 3) := by decide +kernel
theorem dL_corner_663 : decode cL_corner 663 = .ok (.aload_n 0, 1) := by decide +kernel
theorem dL_corner_664 : decode cL_corner 664 = .ok (.bipush 63, 2) := by decide +kernel
theorem dL_corner_666 : decode cL_corner 666 = .ok (.iconst 0, 1) := by decide +kernel
theorem dL_corner_667 : decode cL_corner 667 = .ok (.iconst 1, 1) := by decide +kernel
theorem dL_corner_668 : decode cL_corner 668 = .ok (.invokevirtual 63, 3) := by decide +kernel
theorem dL_corner_671 : decode cL_corner 671 = .ok (.sipush 3844, 3) := by decide +kernel
theorem dL_corner_674 : decode cL_corner 674 = .ok (.if_icmp .ne 80, 3) := by decide +kernel
theorem dL_corner_677 : decode cL_corner 677 = .ok (.aload_n 0, 1) := by decide +kernel
theorem dL_corner_678 : decode cL_corner 678 = .ok (.iconst 4, 1) := by decide +kernel
theorem dL_corner_679 : decode cL_corner 679 = .ok (.iconst 0, 1) := by decide +kernel
theorem dL_corner_680 : decode cL_corner 680 = .ok (.iconst 0, 1) := by decide +kernel
theorem dL_corner_681 : decode cL_corner 681 = .ok (.invokevirtual 53, 3) := by decide +kernel
theorem dL_corner_684 : decode cL_corner 684 = .ok (.iconst 5, 1) := by decide +kernel
theorem dL_corner_685 : decode cL_corner 685 = .ok (.if_icmp .ne 69, 3) := by decide +kernel
theorem dL_corner_688 : decode cL_corner 688 = .ok (.aload_n 0, 1) := by decide +kernel
theorem dL_corner_689 : decode cL_corner 689 = .ok (.iconst 4, 1) := by decide +kernel
theorem dL_corner_690 : decode cL_corner 690 = .ok (.iconst 2, 1) := by decide +kernel
theorem dL_corner_691 : decode cL_corner 691 = .ok (.iconst 1, 1) := by decide +kernel
theorem dL_corner_692 : decode cL_corner 692 = .ok (.invokevirtual 53, 3) := by decide +kernel
theorem dL_corner_695 : decode cL_corner 695 = .ok (.bipush 6, 2) := by decide +kernel
theorem dL_corner_697 : decode cL_corner 697 = .ok (.if_icmp .ne 57, 3) := by decide +kernel
theorem dL_corner_700 : decode cL_corner 700 = .ok (.aload_n 0, 1) := by decide +kernel
theorem dL_corner_701 : decode cL_corner 701 = .ok (.iconst 4, 1) := by decide +kernel
theorem dL_corner_702 : decode cL_corner 702 = .ok (.iconst 1, 1) := by decide +kernel
theorem dL_corner_703 : decode cL_corner 703 = .ok (.iconst 0, 1) := by decide +kernel
theorem dL_corner_704 : decode cL_corner 704 = .ok (.invokevirtual 53, 3) := by decide +kernel
theorem dL_corner_707 : decode cL_corner 707 = .ok (.bipush 7, 2) := by decide +kernel
theorem dL_corner_709 : decode cL_corner 709 = .ok (.if_icmp .ne 45, 3) := by decide +kernel
theorem dL_corner_712 : decode cL_corner 712 = .ok (.aload_n 0, 1) := by decide +kernel
theorem dL_corner_713 : decode cL_corner 713 = .ok (.iconst 4, 1) := by decide +kernel
theorem dL_corner_714 : decode cL_corner 714 = .ok (.iconst 4, 1) := by decide +kernel
theorem dL_corner_715 : decode cL_corner 715 = .ok (.iconst 0, 1) := by decide +kernel
theorem dL_corner_716 : decode cL_corner 716 = .ok (.invokevirtual 53, 3) := by decide +kernel
theorem dL_corner_719 : decode cL_corner 719 = .ok (.bipush (-6), 2) := by decide +kernel
theorem dL_corner_721 : decode cL_corner 721 = .ok (.if_icmp .ne 33, 3) := by decide +kernel
theorem dL_corner_724 : decode cL_corner 724 = .ok (.aload_n 0, 1) := by decide +kernel
theorem dL_corner_725 : decode cL_corner 725 = .ok (.sipush 4096, 3) := by decide +kernel
theorem dL_corner_728 : decode cL_corner 728 = .ok (.iconst 0, 1) := by decide +kernel
theorem dL_corner_729 : decode cL_corner 729 = .ok (.iconst 0, 1) := by decide +kernel
theorem dL_corner_730 : decode cL_corner 730 = .ok (.invokevirtual 53, 3) := by decide +kernel
theorem dL_corner_733 : decode cL_corner 733 = .ok (.sipush 4097, 3) := by decide +kernel
theorem dL_corner_736 : decode cL_corner 736 = .ok (.if_icmp .ne 18, 3) := by decide +kernel
theorem dL_corner_739 : decode cL_corner 739 = .ok (.aload_n 0, 1) := by decide +kernel
theorem dL_corner_740 : decode cL_corner 740 = .ok (.sipush 4097, 3) := by decide +kernel
theorem dL_corner_743 : decode cL_corner 743 = .ok (.iconst 0, 1) := by decide +kernel
theorem dL_corner_744 : decode cL_corner 744 = .ok (.iconst 1, 1) := by decide +kernel
theorem dL_corner_745 : decode cL_corner 745 = .ok (.invokevirtual 53, 3) := by decide +kernel
theorem dL_corner_748 : decode cL_corner 748 = .ok (.sipush 1025, 3) := by decide +kernel
theorem dL_corner_751 : decode cL_corner 751 = .ok (.if_icmp .eq 5, 3) := by decide +kernel
theorem dL_corner_754 : decode cL_corner 754 = .ok (.iconst 0, 1) := by decide +kernel
theorem dL_corner_755 : decode cL_corner 755 = .ok (.ireturn, 1) := by decide +kernel
theorem dL_corner_756 : decode cL_corner 756 = .ok (.aload_n 0, 1) := by decide +kernel
theorem dL_corner_757 : decode cL_corner 757 = .ok (.iconst 1, 1) := by decide +kernel
theorem dL_corner_758 : decode cL_corner 758 = .ok (.iconst 3, 1) := by decide +kernel
theorem dL_corner_759 : decode cL_corner 759 = .ok (.invokevirtual 24, 3) := by decide +kernel
theorem dL_corner_762 : decode cL_corner 762 = .ok (.bipush 6, 2) := by decide +kernel
theorem dL_corner_764 : decode cL_corner 764 = .ok (.if_icmp .ne 255, 3) := by decide +kernel
theorem dL_corner_767 : decode cL_corner 767 = .ok (.aload_n 0, 1) := by decide +kernel
theorem dL_corner_768 : decode cL_corner 768 = .ok (.iconst 1, 1) := by decide +kernel
theorem dL_corner_769 : decode cL_corner 769 = .ok (.invokevirtual 11, 3) := by decide +kernel
theorem dL_corner_772 : decode cL_corner 772 = .ok (.bipush 10, 2) := by decide +kernel
theorem dL_corner_774 : decode cL_corner 774 = .ok (.if_icmp .ne 245, 3) := by decide +kernel
theorem dL_corner_777 : decode cL_corner 777 = .ok (.aload_n 0, 1) := by decide +kernel
theorem dL_corner_778 : decode cL_corner 778 = .ok (.iconst 0, 1) := by decide +kernel
theorem dL_corner_779 : decode cL_corner 779 = .ok (.iconst 2, 1) := by decide +kernel
theorem dL_corner_780 : decode cL_corner 780 = .ok (.invokevirtual 17, 3) := by decide +kernel
theorem dL_corner_783 : decode cL_corner 783 = .ok (.bipush 64, 2) := by decide +kernel
theorem dL_corner_785 : decode cL_corner 785 = .ok (.if_icmp .ne 234, 3) := by decide +kernel
theorem dL_corner_788 : decode cL_corner 788 = .ok (.aload_n 0, 1) := by decide +kernel
theorem dL_corner_789 : decode cL_corner 789 = .ok (.sipush 256, 3) := by decide +kernel
theorem dL_corner_792 : decode cL_corner 792 = .ok (.iconst 5, 1) := by decide +kernel
theorem dL_corner_793 : decode cL_corner 793 = .ok (.invokevirtual 21, 3) := by decide +kernel
theorem dL_corner_796 : decode cL_corner 796 = .ok (.ifCond .ne 223, 3) := by decide +kernel
theorem dL_corner_799 : decode cL_corner 799 = .ok (.aload_n 0, 1) := by decide +kernel
theorem dL_corner_800 : decode cL_corner 800 = .ok (.iconst 0, 1) := by decide +kernel
theorem dL_corner_801 : decode cL_corner 801 = .ok (.bipush 8, 2) := by decide +kernel
theorem dL_corner_803 : decode cL_corner 803 = .ok (.invokevirtual 24, 3) := by decide +kernel
theorem dL_corner_806 : decode cL_corner 806 = .ok (.iconst 2, 1) := by decide +kernel
theorem dL_corner_807 : decode cL_corner 807 = .ok (.if_icmp .ne 212, 3) := by decide +kernel
theorem dL_corner_810 : decode cL_corner 810 = .ok (.aload_n 0, 1) := by decide +kernel
theorem dL_corner_811 : decode cL_corner 811 = .ok (.iconst 1, 1) := by decide +kernel
theorem dL_corner_812 : decode cL_corner 812 = .ok (.invokevirtual 11, 3) := by decide +kernel
theorem dL_corner_815 : decode cL_corner 815 = .ok (.iconst 1, 1) := by decide +kernel
theorem dL_corner_816 : decode cL_corner 816 = .ok (.if_icmp .ne 203, 3) := by decide +kernel
theorem dL_corner_819 : decode cL_corner 819 = .ok (.aload_n 0, 1) := by decide +kernel
theorem dL_corner_820 : decode cL_corner 820 = .ok (.iconst 5, 1) := by decide +kernel
theorem dL_corner_821 : decode cL_corner 821 = .ok (.iconst 1, 1) := by decide +kernel
theorem dL_corner_822 : decode cL_corner 822 = .ok (.invokevirtual 39, 3) := by decide +kernel
theorem dL_corner_825 : decode cL_corner 825 = .ok (.iconst 1, 1) := by decide +kernel
theorem dL_corner_826 : decode cL_corner 826 = .ok (.if_icmp .ne 193, 3) := by decide +kernel
theorem dL_corner_829 : decode cL_corner 829 = .ok (.aload_n 0, 1) := by decide +kernel
theorem dL_corner_830 : decode cL_corner 830 = .ok (.iconst 5, 1) := by decide +kernel
theorem dL_corner_831 : decode cL_corner 831 = .ok (.invokevirtual 11, 3) := by decide +kernel
theorem dL_corner_834 : decode cL_corner 834 = .ok (.iconst 1, 1) := by decide +kernel
theorem dL_corner_835 : decode cL_corner 835 = .ok (.if_icmp .ne 184, 3) := by decide +kernel
theorem dL_corner_838 : decode cL_corner 838 = .ok (.aload_n 0, 1) := by decide +kernel
theorem dL_corner_839 : decode cL_corner 839 = .ok (.iconst 5, 1) := by decide +kernel
theorem dL_corner_840 : decode cL_corner 840 = .ok (.iconst 1, 1) := by decide +kernel
theorem dL_corner_841 : decode cL_corner 841 = .ok (.invokevirtual 39, 3) := by decide +kernel
theorem dL_corner_844 : decode cL_corner 844 = .ok (.bipush (-5), 2) := by decide +kernel
theorem dL_corner_846 : decode cL_corner 846 = .ok (.if_icmp .ne 173, 3) := by decide +kernel
