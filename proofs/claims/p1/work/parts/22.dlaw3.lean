theorem wd_K_law_670 : decode code 670 = .ok (.iaload, 1) := by decide +kernel
theorem wd_K_law_671 : decode code 671 = .ok (.invokevirtual 110, 3) := by decide +kernel
theorem wd_K_law_674 : decode code 674 = .ok (.istore 6, 2) := by decide +kernel
theorem wd_K_law_676 : decode code 676 = .ok (.aload_n 2, 1) := by decide +kernel
theorem wd_K_law_677 : decode code 677 = .ok (.invokevirtual 78, 3) := by decide +kernel
theorem wd_K_law_680 : decode code 680 = .ok (.iload 5, 2) := by decide +kernel
theorem wd_K_law_682 : decode code 682 = .ok (.if_icmp .eq 5, 3) := by decide +kernel
theorem wd_K_law_685 : decode code 685 = .ok (.iconst 0, 1) := by decide +kernel
theorem wd_K_law_686 : decode code 686 = .ok (.ireturn, 1) := by decide +kernel
theorem wd_K_law_687 : decode code 687 = .ok (.iload 5, 2) := by decide +kernel
theorem wd_K_law_689 : decode code 689 = .ok (.ifCond .ne 15, 3) := by decide +kernel
theorem wd_K_law_692 : decode code 692 = .ok (.aload_n 3, 1) := by decide +kernel
theorem wd_K_law_693 : decode code 693 = .ok (.iconst 0, 1) := by decide +kernel
theorem wd_K_law_694 : decode code 694 = .ok (.laload, 1) := by decide +kernel
theorem wd_K_law_695 : decode code 695 = .ok (.iload 6, 2) := by decide +kernel
theorem wd_K_law_697 : decode code 697 = .ok (.i2l, 1) := by decide +kernel
theorem wd_K_law_698 : decode code 698 = .ok (.lcmp, 1) := by decide +kernel
theorem wd_K_law_699 : decode code 699 = .ok (.ifCond .eq 5, 3) := by decide +kernel
theorem wd_K_law_702 : decode code 702 = .ok (.iconst 0, 1) := by decide +kernel
theorem wd_K_law_703 : decode code 703 = .ok (.ireturn, 1) := by decide +kernel
theorem wd_K_law_704 : decode code 704 = .ok (.goto 327, 3) := by decide +kernel
theorem wd_K_law_707 : decode code 707 = .ok (.aload_n 1, 1) := by decide +kernel
theorem wd_K_law_708 : decode code 708 = .ok (.aload_n 0, 1) := by decide +kernel
theorem wd_K_law_709 : decode code 709 = .ok (.iload 4, 2) := by decide +kernel
theorem wd_K_law_711 : decode code 711 = .ok (.iconst 1, 1) := by decide +kernel
theorem wd_K_law_712 : decode code 712 = .ok (.iadd, 1) := by decide +kernel
theorem wd_K_law_713 : decode code 713 = .ok (.iaload, 1) := by decide +kernel
theorem wd_K_law_714 : decode code 714 = .ok (.aload_n 3, 1) := by decide +kernel
theorem wd_K_law_715 : decode code 715 = .ok (.invokestatic 111, 3) := by decide +kernel
theorem wd_K_law_718 : decode code 718 = .ok (.istore 5, 2) := by decide +kernel
theorem wd_K_law_720 : decode code 720 = .ok (.aload_n 2, 1) := by decide +kernel
theorem wd_K_law_721 : decode code 721 = .ok (.aload_n 0, 1) := by decide +kernel
theorem wd_K_law_722 : decode code 722 = .ok (.iload 4, 2) := by decide +kernel
theorem wd_K_law_724 : decode code 724 = .ok (.iconst 1, 1) := by decide +kernel
theorem wd_K_law_725 : decode code 725 = .ok (.iadd, 1) := by decide +kernel
theorem wd_K_law_726 : decode code 726 = .ok (.iaload, 1) := by decide +kernel
theorem wd_K_law_727 : decode code 727 = .ok (.invokevirtual 113, 3) := by decide +kernel
theorem wd_K_law_730 : decode code 730 = .ok (.istore 6, 2) := by decide +kernel
theorem wd_K_law_732 : decode code 732 = .ok (.aload_n 2, 1) := by decide +kernel
theorem wd_K_law_733 : decode code 733 = .ok (.invokevirtual 78, 3) := by decide +kernel
theorem wd_K_law_736 : decode code 736 = .ok (.iload 5, 2) := by decide +kernel
theorem wd_K_law_738 : decode code 738 = .ok (.if_icmp .eq 5, 3) := by decide +kernel
theorem wd_K_law_741 : decode code 741 = .ok (.iconst 0, 1) := by decide +kernel
theorem wd_K_law_742 : decode code 742 = .ok (.ireturn, 1) := by decide +kernel
theorem wd_K_law_743 : decode code 743 = .ok (.iload 5, 2) := by decide +kernel
theorem wd_K_law_745 : decode code 745 = .ok (.ifCond .ne 15, 3) := by decide +kernel
theorem wd_K_law_748 : decode code 748 = .ok (.aload_n 3, 1) := by decide +kernel
theorem wd_K_law_749 : decode code 749 = .ok (.iconst 0, 1) := by decide +kernel
theorem wd_K_law_750 : decode code 750 = .ok (.laload, 1) := by decide +kernel
theorem wd_K_law_751 : decode code 751 = .ok (.iload 6, 2) := by decide +kernel
theorem wd_K_law_753 : decode code 753 = .ok (.i2l, 1) := by decide +kernel
theorem wd_K_law_754 : decode code 754 = .ok (.lcmp, 1) := by decide +kernel
theorem wd_K_law_755 : decode code 755 = .ok (.ifCond .eq 5, 3) := by decide +kernel
theorem wd_K_law_758 : decode code 758 = .ok (.iconst 0, 1) := by decide +kernel
theorem wd_K_law_759 : decode code 759 = .ok (.ireturn, 1) := by decide +kernel
theorem wd_K_law_760 : decode code 760 = .ok (.goto 271, 3) := by decide +kernel
theorem wd_K_law_763 : decode code 763 = .ok (.aload_n 1, 1) := by decide +kernel
theorem wd_K_law_764 : decode code 764 = .ok (.aload_n 0, 1) := by decide +kernel
theorem wd_K_law_765 : decode code 765 = .ok (.iload 4, 2) := by decide +kernel
theorem wd_K_law_767 : decode code 767 = .ok (.iconst 1, 1) := by decide +kernel
theorem wd_K_law_768 : decode code 768 = .ok (.iadd, 1) := by decide +kernel
theorem wd_K_law_769 : decode code 769 = .ok (.iaload, 1) := by decide +kernel
theorem wd_K_law_770 : decode code 770 = .ok (.aload_n 3, 1) := by decide +kernel
theorem wd_K_law_771 : decode code 771 = .ok (.invokestatic 114, 3) := by decide +kernel
theorem wd_K_law_774 : decode code 774 = .ok (.istore 5, 2) := by decide +kernel
theorem wd_K_law_776 : decode code 776 = .ok (.aload_n 2, 1) := by decide +kernel
theorem wd_K_law_777 : decode code 777 = .ok (.aload_n 0, 1) := by decide +kernel
theorem wd_K_law_778 : decode code 778 = .ok (.iload 4, 2) := by decide +kernel
theorem wd_K_law_780 : decode code 780 = .ok (.iconst 1, 1) := by decide +kernel
theorem wd_K_law_781 : decode code 781 = .ok (.iadd, 1) := by decide +kernel
theorem wd_K_law_782 : decode code 782 = .ok (.iaload, 1) := by decide +kernel
theorem wd_K_law_783 : decode code 783 = .ok (.invokevirtual 116, 3) := by decide +kernel
theorem wd_K_law_786 : decode code 786 = .ok (.istore 6, 2) := by decide +kernel
theorem wd_K_law_788 : decode code 788 = .ok (.aload_n 2, 1) := by decide +kernel
theorem wd_K_law_789 : decode code 789 = .ok (.invokevirtual 78, 3) := by decide +kernel
theorem wd_K_law_792 : decode code 792 = .ok (.iload 5, 2) := by decide +kernel
theorem wd_K_law_794 : decode code 794 = .ok (.if_icmp .eq 5, 3) := by decide +kernel
theorem wd_K_law_797 : decode code 797 = .ok (.iconst 0, 1) := by decide +kernel
theorem wd_K_law_798 : decode code 798 = .ok (.ireturn, 1) := by decide +kernel
theorem wd_K_law_799 : decode code 799 = .ok (.iload 5, 2) := by decide +kernel
theorem wd_K_law_801 : decode code 801 = .ok (.ifCond .ne 22, 3) := by decide +kernel
theorem wd_K_law_804 : decode code 804 = .ok (.aload_n 3, 1) := by decide +kernel
theorem wd_K_law_805 : decode code 805 = .ok (.iconst 0, 1) := by decide +kernel
theorem wd_K_law_806 : decode code 806 = .ok (.laload, 1) := by decide +kernel
theorem wd_K_law_807 : decode code 807 = .ok (.iload 6, 2) := by decide +kernel
theorem wd_K_law_809 : decode code 809 = .ok (.ifCond .eq 7, 3) := by decide +kernel
theorem wd_K_law_812 : decode code 812 = .ok (.lconst 1, 1) := by decide +kernel
theorem wd_K_law_813 : decode code 813 = .ok (.goto 4, 3) := by decide +kernel
theorem wd_K_law_816 : decode code 816 = .ok (.lconst 0, 1) := by decide +kernel
theorem wd_K_law_817 : decode code 817 = .ok (.lcmp, 1) := by decide +kernel
theorem wd_K_law_818 : decode code 818 = .ok (.ifCond .eq 5, 3) := by decide +kernel
theorem wd_K_law_821 : decode code 821 = .ok (.iconst 0, 1) := by decide +kernel
theorem wd_K_law_822 : decode code 822 = .ok (.ireturn, 1) := by decide +kernel
theorem wd_K_law_823 : decode code 823 = .ok (.goto 208, 3) := by decide +kernel
theorem wd_K_law_826 : decode code 826 = .ok (.aload_n 1, 1) := by decide +kernel
theorem wd_K_law_827 : decode code 827 = .ok (.aload_n 0, 1) := by decide +kernel
theorem wd_K_law_828 : decode code 828 = .ok (.iload 4, 2) := by decide +kernel
theorem wd_K_law_830 : decode code 830 = .ok (.iconst 1, 1) := by decide +kernel
theorem wd_K_law_831 : decode code 831 = .ok (.iadd, 1) := by decide +kernel
theorem wd_K_law_832 : decode code 832 = .ok (.iaload, 1) := by decide +kernel
theorem wd_K_law_833 : decode code 833 = .ok (.aload_n 0, 1) := by decide +kernel
theorem wd_K_law_834 : decode code 834 = .ok (.iload 4, 2) := by decide +kernel
theorem wd_K_law_836 : decode code 836 = .ok (.iconst 2, 1) := by decide +kernel
theorem wd_K_law_837 : decode code 837 = .ok (.iadd, 1) := by decide +kernel
theorem wd_K_law_838 : decode code 838 = .ok (.iaload, 1) := by decide +kernel
theorem wd_K_law_839 : decode code 839 = .ok (.aload_n 3, 1) := by decide +kernel
theorem wd_K_law_840 : decode code 840 = .ok (.invokestatic 117, 3) := by decide +kernel
theorem wd_K_law_843 : decode code 843 = .ok (.istore 5, 2) := by decide +kernel
theorem wd_K_law_845 : decode code 845 = .ok (.aload_n 2, 1) := by decide +kernel
theorem wd_K_law_846 : decode code 846 = .ok (.aload_n 0, 1) := by decide +kernel
theorem wd_K_law_847 : decode code 847 = .ok (.iload 4, 2) := by decide +kernel
theorem wd_K_law_849 : decode code 849 = .ok (.iconst 1, 1) := by decide +kernel
theorem wd_K_law_850 : decode code 850 = .ok (.iadd, 1) := by decide +kernel
theorem wd_K_law_851 : decode code 851 = .ok (.iaload, 1) := by decide +kernel
theorem wd_K_law_852 : decode code 852 = .ok (.aload_n 0, 1) := by decide +kernel
theorem wd_K_law_853 : decode code 853 = .ok (.iload 4, 2) := by decide +kernel
theorem wd_K_law_855 : decode code 855 = .ok (.iconst 2, 1) := by decide +kernel
theorem wd_K_law_856 : decode code 856 = .ok (.iadd, 1) := by decide +kernel
theorem wd_K_law_857 : decode code 857 = .ok (.iaload, 1) := by decide +kernel
theorem wd_K_law_858 : decode code 858 = .ok (.invokevirtual 120, 3) := by decide +kernel
theorem wd_K_law_861 : decode code 861 = .ok (.istore 6, 2) := by decide +kernel
theorem wd_K_law_863 : decode code 863 = .ok (.aload_n 2, 1) := by decide +kernel
theorem wd_K_law_864 : decode code 864 = .ok (.invokevirtual 78, 3) := by decide +kernel
theorem wd_K_law_867 : decode code 867 = .ok (.iload 5, 2) := by decide +kernel
theorem wd_K_law_869 : decode code 869 = .ok (.if_icmp .eq 5, 3) := by decide +kernel
theorem wd_K_law_872 : decode code 872 = .ok (.iconst 0, 1) := by decide +kernel
theorem wd_K_law_873 : decode code 873 = .ok (.ireturn, 1) := by decide +kernel
theorem wd_K_law_874 : decode code 874 = .ok (.iload 5, 2) := by decide +kernel
theorem wd_K_law_876 : decode code 876 = .ok (.ifCond .ne 15, 3) := by decide +kernel
theorem wd_K_law_879 : decode code 879 = .ok (.aload_n 3, 1) := by decide +kernel
