theorem wd_K_law_653 : decode code 653 = .ok (.iaload, 1) := by decide +kernel
theorem wd_K_law_654 : decode code 654 = .ok (.i2l, 1) := by decide +kernel
theorem wd_K_law_655 : decode code 655 = .ok (.bipush 32, 2) := by decide +kernel
theorem wd_K_law_657 : decode code 657 = .ok (.lshl, 1) := by decide +kernel
theorem wd_K_law_658 : decode code 658 = .ok (.aload_n 0, 1) := by decide +kernel
theorem wd_K_law_659 : decode code 659 = .ok (.iload 4, 2) := by decide +kernel
theorem wd_K_law_661 : decode code 661 = .ok (.iconst 2, 1) := by decide +kernel
theorem wd_K_law_662 : decode code 662 = .ok (.iadd, 1) := by decide +kernel
theorem wd_K_law_663 : decode code 663 = .ok (.iaload, 1) := by decide +kernel
theorem wd_K_law_664 : decode code 664 = .ok (.i2l, 1) := by decide +kernel
theorem wd_K_law_665 : decode code 665 = .ok (.ldc2_w 125, 3) := by decide +kernel
theorem wd_K_law_668 : decode code 668 = .ok (.land, 1) := by decide +kernel
theorem wd_K_law_669 : decode code 669 = .ok (.lor, 1) := by decide +kernel
theorem wd_K_law_670 : decode code 670 = .ok (.invokevirtual 130, 3) := by decide +kernel
theorem wd_K_law_673 : decode code 673 = .ok (.goto 31, 3) := by decide +kernel
theorem wd_K_law_676 : decode code 676 = .ok (.aload_n 1, 1) := by decide +kernel
theorem wd_K_law_677 : decode code 677 = .ok (.aload_n 0, 1) := by decide +kernel
theorem wd_K_law_678 : decode code 678 = .ok (.iload 4, 2) := by decide +kernel
theorem wd_K_law_680 : decode code 680 = .ok (.iconst 1, 1) := by decide +kernel
theorem wd_K_law_681 : decode code 681 = .ok (.iadd, 1) := by decide +kernel
theorem wd_K_law_682 : decode code 682 = .ok (.iaload, 1) := by decide +kernel
theorem wd_K_law_683 : decode code 683 = .ok (.aload_n 3, 1) := by decide +kernel
theorem wd_K_law_684 : decode code 684 = .ok (.invokestatic 131, 3) := by decide +kernel
theorem wd_K_law_687 : decode code 687 = .ok (.istore 5, 2) := by decide +kernel
theorem wd_K_law_689 : decode code 689 = .ok (.aload_n 2, 1) := by decide +kernel
theorem wd_K_law_690 : decode code 690 = .ok (.aload_n 0, 1) := by decide +kernel
theorem wd_K_law_691 : decode code 691 = .ok (.iload 4, 2) := by decide +kernel
theorem wd_K_law_693 : decode code 693 = .ok (.iconst 1, 1) := by decide +kernel
theorem wd_K_law_694 : decode code 694 = .ok (.iadd, 1) := by decide +kernel
theorem wd_K_law_695 : decode code 695 = .ok (.iaload, 1) := by decide +kernel
theorem wd_K_law_696 : decode code 696 = .ok (.invokevirtual 133, 3) := by decide +kernel
theorem wd_K_law_699 : decode code 699 = .ok (.istore 6, 2) := by decide +kernel
theorem wd_K_law_701 : decode code 701 = .ok (.goto 3, 3) := by decide +kernel
theorem wd_K_law_704 : decode code 704 = .ok (.iinc 4 5, 3) := by decide +kernel
theorem wd_K_law_707 : decode code 707 = .ok (.goto (-684), 3) := by decide +kernel
theorem wd_K_law_710 : decode code 710 = .ok (.iconst 1, 1) := by decide +kernel
theorem wd_K_law_711 : decode code 711 = .ok (.ireturn, 1) := by decide +kernel
