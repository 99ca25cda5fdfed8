/-! the law's instructions, by place -/
theorem dL_law_645 : decode (mC iL_law) 645 = .ok (.aload_n 0, 1) := by decide +kernel
theorem dL_law_646 : decode (mC iL_law) 646 = .ok (.iload_n 3, 1) := by decide +kernel
theorem dL_law_647 : decode (mC iL_law) 647 = .ok (.iconst 2, 1) := by decide +kernel
theorem dL_law_648 : decode (mC iL_law) 648 = .ok (.iadd, 1) := by decide +kernel
theorem dL_law_649 : decode (mC iL_law) 649 = .ok (.iaload, 1) := by decide +kernel
theorem dL_law_650 : decode (mC iL_law) 650 = .ok (.aload_n 0, 1) := by decide +kernel
theorem dL_law_651 : decode (mC iL_law) 651 = .ok (.iload_n 3, 1) := by decide +kernel
theorem dL_law_652 : decode (mC iL_law) 652 = .ok (.iconst 3, 1) := by decide +kernel
theorem dL_law_653 : decode (mC iL_law) 653 = .ok (.iadd, 1) := by decide +kernel
theorem dL_law_654 : decode (mC iL_law) 654 = .ok (.iaload, 1) := by decide +kernel
theorem dL_law_655 : decode (mC iL_law) 655 = .ok (.invokevirtual 85, 3) := by decide +kernel
theorem dL_law_658 : decode (mC iL_law) 658 = .ok (.aload_n 2, 1) := by decide +kernel
theorem dL_law_659 : decode (mC iL_law) 659 = .ok (.aload_n 0, 1) := by decide +kernel
theorem dL_law_660 : decode (mC iL_law) 660 = .ok (.iload_n 3, 1) := by decide +kernel
theorem dL_law_661 : decode (mC iL_law) 661 = .ok (.iconst 1, 1) := by decide +kernel
theorem dL_law_662 : decode (mC iL_law) 662 = .ok (.iadd, 1) := by decide +kernel
theorem dL_law_663 : decode (mC iL_law) 663 = .ok (.iaload, 1) := by decide +kernel
theorem dL_law_664 : decode (mC iL_law) 664 = .ok (.aload_n 0, 1) := by decide +kernel
theorem dL_law_665 : decode (mC iL_law) 665 = .ok (.iload_n 3, 1) := by decide +kernel
theorem dL_law_666 : decode (mC iL_law) 666 = .ok (.iconst 2, 1) := by decide +kernel
theorem dL_law_667 : decode (mC iL_law) 667 = .ok (.iadd, 1) := by decide +kernel
theorem dL_law_668 : decode (mC iL_law) 668 = .ok (.iaload, 1) := by decide +kernel
theorem dL_law_669 : decode (mC iL_law) 669 = .ok (.aload_n 0, 1) := by decide +kernel
theorem dL_law_670 : decode (mC iL_law) 670 = .ok (.iload_n 3, 1) := by decide +kernel
theorem dL_law_671 : decode (mC iL_law) 671 = .ok (.iconst 3, 1) := by decide +kernel
theorem dL_law_672 : decode (mC iL_law) 672 = .ok (.iadd, 1) := by decide +kernel
theorem dL_law_673 : decode (mC iL_law) 673 = .ok (.iaload, 1) := by decide +kernel
theorem dL_law_674 : decode (mC iL_law) 674 = .ok (.invokevirtual 89, 3) := by decide +kernel
theorem dL_law_677 : decode (mC iL_law) 677 = .ok (.if_icmp .eq 156, 3) := by decide +kernel
theorem dL_law_680 : decode (mC iL_law) 680 = .ok (.iconst 0, 1) := by decide +kernel
theorem dL_law_681 : decode (mC iL_law) 681 = .ok (.ireturn, 1) := by decide +kernel
theorem dL_law_682 : decode (mC iL_law) 682 = .ok (.aload_n 1, 1) := by decide +kernel
theorem dL_law_683 : decode (mC iL_law) 683 = .ok (.invokevirtual 90, 3) := by decide +kernel
theorem dL_law_686 : decode (mC iL_law) 686 = .ok (.aload_n 2, 1) := by decide +kernel
theorem dL_law_687 : decode (mC iL_law) 687 = .ok (.invokevirtual 93, 3) := by decide +kernel
theorem dL_law_690 : decode (mC iL_law) 690 = .ok (.if_icmp .eq 143, 3) := by decide +kernel
theorem dL_law_693 : decode (mC iL_law) 693 = .ok (.iconst 0, 1) := by decide +kernel
theorem dL_law_694 : decode (mC iL_law) 694 = .ok (.ireturn, 1) := by decide +kernel
theorem dL_law_695 : decode (mC iL_law) 695 = .ok (.aload_n 1, 1) := by decide +kernel
theorem dL_law_696 : decode (mC iL_law) 696 = .ok (.aload_n 0, 1) := by decide +kernel
theorem dL_law_697 : decode (mC iL_law) 697 = .ok (.iload_n 3, 1) := by decide +kernel
theorem dL_law_698 : decode (mC iL_law) 698 = .ok (.iconst 1, 1) := by decide +kernel
theorem dL_law_699 : decode (mC iL_law) 699 = .ok (.iadd, 1) := by decide +kernel
theorem dL_law_700 : decode (mC iL_law) 700 = .ok (.iaload, 1) := by decide +kernel
theorem dL_law_701 : decode (mC iL_law) 701 = .ok (.i2l, 1) := by decide +kernel
theorem dL_law_702 : decode (mC iL_law) 702 = .ok (.bipush 32, 2) := by decide +kernel
theorem dL_law_704 : decode (mC iL_law) 704 = .ok (.lshl, 1) := by decide +kernel
theorem dL_law_705 : decode (mC iL_law) 705 = .ok (.aload_n 0, 1) := by decide +kernel
theorem dL_law_706 : decode (mC iL_law) 706 = .ok (.iload_n 3, 1) := by decide +kernel
theorem dL_law_707 : decode (mC iL_law) 707 = .ok (.iconst 2, 1) := by decide +kernel
theorem dL_law_708 : decode (mC iL_law) 708 = .ok (.iadd, 1) := by decide +kernel
theorem dL_law_709 : decode (mC iL_law) 709 = .ok (.iaload, 1) := by decide +kernel
theorem dL_law_710 : decode (mC iL_law) 710 = .ok (.i2l, 1) := by decide +kernel
theorem dL_law_711 : decode (mC iL_law) 711 = .ok (.ldc2_w 94, 3) := by decide +kernel
theorem dL_law_714 : decode (mC iL_law) 714 = .ok (.land, 1) := by decide +kernel
theorem dL_law_715 : decode (mC iL_law) 715 = .ok (.lor, 1) := by decide +kernel
theorem dL_law_716 : decode (mC iL_law) 716 = .ok (.invokevirtual 96, 3) := by decide +kernel
theorem dL_law_719 : decode (mC iL_law) 719 = .ok (.aload_n 2, 1) := by decide +kernel
theorem dL_law_720 : decode (mC iL_law) 720 = .ok (.aload_n 0, 1) := by decide +kernel
theorem dL_law_721 : decode (mC iL_law) 721 = .ok (.iload_n 3, 1) := by decide +kernel
theorem dL_law_722 : decode (mC iL_law) 722 = .ok (.iconst 1, 1) := by decide +kernel
theorem dL_law_723 : decode (mC iL_law) 723 = .ok (.iadd, 1) := by decide +kernel
theorem dL_law_724 : decode (mC iL_law) 724 = .ok (.iaload, 1) := by decide +kernel
theorem dL_law_725 : decode (mC iL_law) 725 = .ok (.i2l, 1) := by decide +kernel
theorem dL_law_726 : decode (mC iL_law) 726 = .ok (.bipush 32, 2) := by decide +kernel
theorem dL_law_728 : decode (mC iL_law) 728 = .ok (.lshl, 1) := by decide +kernel
theorem dL_law_729 : decode (mC iL_law) 729 = .ok (.aload_n 0, 1) := by decide +kernel
theorem dL_law_730 : decode (mC iL_law) 730 = .ok (.iload_n 3, 1) := by decide +kernel
theorem dL_law_731 : decode (mC iL_law) 731 = .ok (.iconst 2, 1) := by decide +kernel
theorem dL_law_732 : decode (mC iL_law) 732 = .ok (.iadd, 1) := by decide +kernel
theorem dL_law_733 : decode (mC iL_law) 733 = .ok (.iaload, 1) := by decide +kernel
theorem dL_law_734 : decode (mC iL_law) 734 = .ok (.i2l, 1) := by decide +kernel
theorem dL_law_735 : decode (mC iL_law) 735 = .ok (.ldc2_w 94, 3) := by decide +kernel
theorem dL_law_738 : decode (mC iL_law) 738 = .ok (.land, 1) := by decide +kernel
theorem dL_law_739 : decode (mC iL_law) 739 = .ok (.lor, 1) := by decide +kernel
theorem dL_law_740 : decode (mC iL_law) 740 = .ok (.invokevirtual 100, 3) := by decide +kernel
theorem dL_law_743 : decode (mC iL_law) 743 = .ok (.if_icmp .eq 90, 3) := by decide +kernel
theorem dL_law_746 : decode (mC iL_law) 746 = .ok (.iconst 0, 1) := by decide +kernel
theorem dL_law_747 : decode (mC iL_law) 747 = .ok (.ireturn, 1) := by decide +kernel
theorem dL_law_748 : decode (mC iL_law) 748 = .ok (.aload_n 1, 1) := by decide +kernel
theorem dL_law_749 : decode (mC iL_law) 749 = .ok (.invokevirtual 101, 3) := by decide +kernel
theorem dL_law_752 : decode (mC iL_law) 752 = .ok (.aload_n 2, 1) := by decide +kernel
theorem dL_law_753 : decode (mC iL_law) 753 = .ok (.invokevirtual 104, 3) := by decide +kernel
theorem dL_law_756 : decode (mC iL_law) 756 = .ok (.if_icmp .eq 77, 3) := by decide +kernel
theorem dL_law_759 : decode (mC iL_law) 759 = .ok (.iconst 0, 1) := by decide +kernel
theorem dL_law_760 : decode (mC iL_law) 760 = .ok (.ireturn, 1) := by decide +kernel
theorem dL_law_761 : decode (mC iL_law) 761 = .ok (.aload_n 1, 1) := by decide +kernel
theorem dL_law_762 : decode (mC iL_law) 762 = .ok (.invokevirtual 105, 3) := by decide +kernel
theorem dL_law_765 : decode (mC iL_law) 765 = .ok (.aload_n 2, 1) := by decide +kernel
theorem dL_law_766 : decode (mC iL_law) 766 = .ok (.invokevirtual 108, 3) := by decide +kernel
theorem dL_law_769 : decode (mC iL_law) 769 = .ok (.if_icmp .eq 64, 3) := by decide +kernel
theorem dL_law_772 : decode (mC iL_law) 772 = .ok (.iconst 0, 1) := by decide +kernel
theorem dL_law_773 : decode (mC iL_law) 773 = .ok (.ireturn, 1) := by decide +kernel
theorem dL_law_774 : decode (mC iL_law) 774 = .ok (.aload_n 1, 1) := by decide +kernel
theorem dL_law_775 : decode (mC iL_law) 775 = .ok (.invokevirtual 109, 3) := by decide +kernel
theorem dL_law_778 : decode (mC iL_law) 778 = .ok (.aload_n 2, 1) := by decide +kernel
theorem dL_law_779 : decode (mC iL_law) 779 = .ok (.invokevirtual 112, 3) := by decide +kernel
theorem dL_law_782 : decode (mC iL_law) 782 = .ok (.if_icmp .eq 51, 3) := by decide +kernel
theorem dL_law_785 : decode (mC iL_law) 785 = .ok (.iconst 0, 1) := by decide +kernel
theorem dL_law_786 : decode (mC iL_law) 786 = .ok (.ireturn, 1) := by decide +kernel
theorem dL_law_787 : decode (mC iL_law) 787 = .ok (.aload_n 1, 1) := by decide +kernel
theorem dL_law_788 : decode (mC iL_law) 788 = .ok (.aload_n 0, 1) := by decide +kernel
theorem dL_law_789 : decode (mC iL_law) 789 = .ok (.iload_n 3, 1) := by decide +kernel
theorem dL_law_790 : decode (mC iL_law) 790 = .ok (.iconst 1, 1) := by decide +kernel
theorem dL_law_791 : decode (mC iL_law) 791 = .ok (.iadd, 1) := by decide +kernel
theorem dL_law_792 : decode (mC iL_law) 792 = .ok (.iaload, 1) := by decide +kernel
theorem dL_law_793 : decode (mC iL_law) 793 = .ok (.invokevirtual 113, 3) := by decide +kernel
theorem dL_law_796 : decode (mC iL_law) 796 = .ok (.aload_n 2, 1) := by decide +kernel
theorem dL_law_797 : decode (mC iL_law) 797 = .ok (.aload_n 0, 1) := by decide +kernel
theorem dL_law_798 : decode (mC iL_law) 798 = .ok (.iload_n 3, 1) := by decide +kernel
theorem dL_law_799 : decode (mC iL_law) 799 = .ok (.iconst 1, 1) := by decide +kernel
theorem dL_law_800 : decode (mC iL_law) 800 = .ok (.iadd, 1) := by decide +kernel
theorem dL_law_801 : decode (mC iL_law) 801 = .ok (.iaload, 1) := by decide +kernel
theorem dL_law_802 : decode (mC iL_law) 802 = .ok (.invokevirtual 116, 3) := by decide +kernel
theorem dL_law_805 : decode (mC iL_law) 805 = .ok (.if_icmp .eq 28, 3) := by decide +kernel
theorem dL_law_808 : decode (mC iL_law) 808 = .ok (.iconst 0, 1) := by decide +kernel
theorem dL_law_809 : decode (mC iL_law) 809 = .ok (.ireturn, 1) := by decide +kernel
theorem dL_law_810 : decode (mC iL_law) 810 = .ok (.aload_n 1, 1) := by decide +kernel
theorem dL_law_811 : decode (mC iL_law) 811 = .ok (.aload_n 0, 1) := by decide +kernel
theorem dL_law_812 : decode (mC iL_law) 812 = .ok (.iload_n 3, 1) := by decide +kernel
theorem dL_law_813 : decode (mC iL_law) 813 = .ok (.iconst 1, 1) := by decide +kernel
theorem dL_law_814 : decode (mC iL_law) 814 = .ok (.iadd, 1) := by decide +kernel
theorem dL_law_815 : decode (mC iL_law) 815 = .ok (.iaload, 1) := by decide +kernel
theorem dL_law_816 : decode (mC iL_law) 816 = .ok (.invokevirtual 117, 3) := by decide +kernel
theorem dL_law_819 : decode (mC iL_law) 819 = .ok (.aload_n 2, 1) := by decide +kernel
theorem dL_law_820 : decode (mC iL_law) 820 = .ok (.aload_n 0, 1) := by decide +kernel
theorem dL_law_821 : decode (mC iL_law) 821 = .ok (.iload_n 3, 1) := by decide +kernel
theorem dL_law_822 : decode (mC iL_law) 822 = .ok (.iconst 1, 1) := by decide +kernel
theorem dL_law_823 : decode (mC iL_law) 823 = .ok (.iadd, 1) := by decide +kernel
theorem dL_law_824 : decode (mC iL_law) 824 = .ok (.iaload, 1) := by decide +kernel
theorem dL_law_825 : decode (mC iL_law) 825 = .ok (.invokevirtual 120, 3) := by decide +kernel
theorem dL_law_828 : decode (mC iL_law) 828 = .ok (.if_icmp .eq 5, 3) := by decide +kernel
theorem dL_law_831 : decode (mC iL_law) 831 = .ok (.iconst 0, 1) := by decide +kernel
theorem dL_law_832 : decode (mC iL_law) 832 = .ok (.ireturn, 1) := by decide +kernel
theorem dL_law_833 : decode (mC iL_law) 833 = .ok (.iinc 3 5, 3) := by decide +kernel
theorem dL_law_836 : decode (mC iL_law) 836 = .ok (.goto (-818), 3) := by decide +kernel
theorem dL_law_839 : decode (mC iL_law) 839 = .ok (.iconst 1, 1) := by decide +kernel
theorem dL_law_840 : decode (mC iL_law) 840 = .ok (.ireturn, 1) := by decide +kernel
