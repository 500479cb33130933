theorem wd_K_law_653 : decode code 653 = .ok (.i2l, 1) := by decide +kernel
theorem wd_K_law_654 : decode code 654 = .ok (.ldc2_w 125, 3) := by decide +kernel
theorem wd_K_law_657 : decode code 657 = .ok (.land, 1) := by decide +kernel
theorem wd_K_law_658 : decode code 658 = .ok (.lor, 1) := by decide +kernel
theorem wd_K_law_659 : decode code 659 = .ok (.invokestatic 127, 3) := by decide +kernel
theorem wd_K_law_662 : decode code 662 = .ok (.istore 5, 2) := by decide +kernel
theorem wd_K_law_664 : decode code 664 = .ok (.aload_n 2, 1) := by decide +kernel
theorem wd_K_law_665 : decode code 665 = .ok (.aload_n 0, 1) := by decide +kernel
theorem wd_K_law_666 : decode code 666 = .ok (.iload 4, 2) := by decide +kernel
theorem wd_K_law_668 : decode code 668 = .ok (.iconst 1, 1) := by decide +kernel
theorem wd_K_law_669 : decode code 669 = .ok (.iadd, 1) := by decide +kernel
theorem wd_K_law_670 : decode code 670 = .ok (.iaload, 1) := by decide +kernel
theorem wd_K_law_671 : decode code 671 = .ok (.i2l, 1) := by decide +kernel
theorem wd_K_law_672 : decode code 672 = .ok (.bipush 32, 2) := by decide +kernel
theorem wd_K_law_674 : decode code 674 = .ok (.lshl, 1) := by decide +kernel
theorem wd_K_law_675 : decode code 675 = .ok (.aload_n 0, 1) := by decide +kernel
theorem wd_K_law_676 : decode code 676 = .ok (.iload 4, 2) := by decide +kernel
theorem wd_K_law_678 : decode code 678 = .ok (.iconst 2, 1) := by decide +kernel
theorem wd_K_law_679 : decode code 679 = .ok (.iadd, 1) := by decide +kernel
theorem wd_K_law_680 : decode code 680 = .ok (.iaload, 1) := by decide +kernel
theorem wd_K_law_681 : decode code 681 = .ok (.i2l, 1) := by decide +kernel
theorem wd_K_law_682 : decode code 682 = .ok (.ldc2_w 125, 3) := by decide +kernel
theorem wd_K_law_685 : decode code 685 = .ok (.land, 1) := by decide +kernel
theorem wd_K_law_686 : decode code 686 = .ok (.lor, 1) := by decide +kernel
theorem wd_K_law_687 : decode code 687 = .ok (.invokevirtual 130, 3) := by decide +kernel
theorem wd_K_law_690 : decode code 690 = .ok (.goto 31, 3) := by decide +kernel
theorem wd_K_law_693 : decode code 693 = .ok (.aload_n 1, 1) := by decide +kernel
theorem wd_K_law_694 : decode code 694 = .ok (.aload_n 0, 1) := by decide +kernel
theorem wd_K_law_695 : decode code 695 = .ok (.iload 4, 2) := by decide +kernel
theorem wd_K_law_697 : decode code 697 = .ok (.iconst 1, 1) := by decide +kernel
theorem wd_K_law_698 : decode code 698 = .ok (.iadd, 1) := by decide +kernel
theorem wd_K_law_699 : decode code 699 = .ok (.iaload, 1) := by decide +kernel
theorem wd_K_law_700 : decode code 700 = .ok (.aload_n 3, 1) := by decide +kernel
theorem wd_K_law_701 : decode code 701 = .ok (.invokestatic 131, 3) := by decide +kernel
theorem wd_K_law_704 : decode code 704 = .ok (.istore 5, 2) := by decide +kernel
theorem wd_K_law_706 : decode code 706 = .ok (.aload_n 2, 1) := by decide +kernel
theorem wd_K_law_707 : decode code 707 = .ok (.aload_n 0, 1) := by decide +kernel
theorem wd_K_law_708 : decode code 708 = .ok (.iload 4, 2) := by decide +kernel
theorem wd_K_law_710 : decode code 710 = .ok (.iconst 1, 1) := by decide +kernel
theorem wd_K_law_711 : decode code 711 = .ok (.iadd, 1) := by decide +kernel
theorem wd_K_law_712 : decode code 712 = .ok (.iaload, 1) := by decide +kernel
theorem wd_K_law_713 : decode code 713 = .ok (.invokevirtual 133, 3) := by decide +kernel
theorem wd_K_law_716 : decode code 716 = .ok (.istore 6, 2) := by decide +kernel
theorem wd_K_law_718 : decode code 718 = .ok (.goto 3, 3) := by decide +kernel
theorem wd_K_law_721 : decode code 721 = .ok (.iinc 4 5, 3) := by decide +kernel
theorem wd_K_law_724 : decode code 724 = .ok (.goto (-701), 3) := by decide +kernel
theorem wd_K_law_727 : decode code 727 = .ok (.iconst 1, 1) := by decide +kernel
theorem wd_K_law_728 : decode code 728 = .ok (.ireturn, 1) := by decide +kernel
