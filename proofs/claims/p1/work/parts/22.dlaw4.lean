theorem wd_K_law_880 : decode code 880 = .ok (.iconst 0, 1) := by decide +kernel
theorem wd_K_law_881 : decode code 881 = .ok (.laload, 1) := by decide +kernel
theorem wd_K_law_882 : decode code 882 = .ok (.iload 6, 2) := by decide +kernel
theorem wd_K_law_884 : decode code 884 = .ok (.i2l, 1) := by decide +kernel
theorem wd_K_law_885 : decode code 885 = .ok (.lcmp, 1) := by decide +kernel
theorem wd_K_law_886 : decode code 886 = .ok (.ifCond .eq 5, 3) := by decide +kernel
theorem wd_K_law_889 : decode code 889 = .ok (.iconst 0, 1) := by decide +kernel
theorem wd_K_law_890 : decode code 890 = .ok (.ireturn, 1) := by decide +kernel
theorem wd_K_law_891 : decode code 891 = .ok (.goto 140, 3) := by decide +kernel
theorem wd_K_law_894 : decode code 894 = .ok (.aload_n 1, 1) := by decide +kernel
theorem wd_K_law_895 : decode code 895 = .ok (.invokevirtual 121, 3) := by decide +kernel
theorem wd_K_law_898 : decode code 898 = .ok (.aload_n 2, 1) := by decide +kernel
theorem wd_K_law_899 : decode code 899 = .ok (.invokevirtual 124, 3) := by decide +kernel
theorem wd_K_law_902 : decode code 902 = .ok (.if_icmp .eq 129, 3) := by decide +kernel
theorem wd_K_law_905 : decode code 905 = .ok (.iconst 0, 1) := by decide +kernel
theorem wd_K_law_906 : decode code 906 = .ok (.ireturn, 1) := by decide +kernel
theorem wd_K_law_907 : decode code 907 = .ok (.aload_n 1, 1) := by decide +kernel
theorem wd_K_law_908 : decode code 908 = .ok (.aload_n 0, 1) := by decide +kernel
theorem wd_K_law_909 : decode code 909 = .ok (.iload 4, 2) := by decide +kernel
theorem wd_K_law_911 : decode code 911 = .ok (.iconst 1, 1) := by decide +kernel
theorem wd_K_law_912 : decode code 912 = .ok (.iadd, 1) := by decide +kernel
theorem wd_K_law_913 : decode code 913 = .ok (.iaload, 1) := by decide +kernel
theorem wd_K_law_914 : decode code 914 = .ok (.i2l, 1) := by decide +kernel
theorem wd_K_law_915 : decode code 915 = .ok (.bipush 32, 2) := by decide +kernel
theorem wd_K_law_917 : decode code 917 = .ok (.lshl, 1) := by decide +kernel
theorem wd_K_law_918 : decode code 918 = .ok (.aload_n 0, 1) := by decide +kernel
theorem wd_K_law_919 : decode code 919 = .ok (.iload 4, 2) := by decide +kernel
theorem wd_K_law_921 : decode code 921 = .ok (.iconst 2, 1) := by decide +kernel
theorem wd_K_law_922 : decode code 922 = .ok (.iadd, 1) := by decide +kernel
theorem wd_K_law_923 : decode code 923 = .ok (.iaload, 1) := by decide +kernel
theorem wd_K_law_924 : decode code 924 = .ok (.i2l, 1) := by decide +kernel
theorem wd_K_law_925 : decode code 925 = .ok (.ldc2_w 125, 3) := by decide +kernel
theorem wd_K_law_928 : decode code 928 = .ok (.land, 1) := by decide +kernel
theorem wd_K_law_929 : decode code 929 = .ok (.lor, 1) := by decide +kernel
theorem wd_K_law_930 : decode code 930 = .ok (.invokestatic 127, 3) := by decide +kernel
theorem wd_K_law_933 : decode code 933 = .ok (.istore 5, 2) := by decide +kernel
theorem wd_K_law_935 : decode code 935 = .ok (.aload_n 2, 1) := by decide +kernel
theorem wd_K_law_936 : decode code 936 = .ok (.aload_n 0, 1) := by decide +kernel
theorem wd_K_law_937 : decode code 937 = .ok (.iload 4, 2) := by decide +kernel
theorem wd_K_law_939 : decode code 939 = .ok (.iconst 1, 1) := by decide +kernel
theorem wd_K_law_940 : decode code 940 = .ok (.iadd, 1) := by decide +kernel
theorem wd_K_law_941 : decode code 941 = .ok (.iaload, 1) := by decide +kernel
theorem wd_K_law_942 : decode code 942 = .ok (.i2l, 1) := by decide +kernel
theorem wd_K_law_943 : decode code 943 = .ok (.bipush 32, 2) := by decide +kernel
theorem wd_K_law_945 : decode code 945 = .ok (.lshl, 1) := by decide +kernel
theorem wd_K_law_946 : decode code 946 = .ok (.aload_n 0, 1) := by decide +kernel
theorem wd_K_law_947 : decode code 947 = .ok (.iload 4, 2) := by decide +kernel
theorem wd_K_law_949 : decode code 949 = .ok (.iconst 2, 1) := by decide +kernel
theorem wd_K_law_950 : decode code 950 = .ok (.iadd, 1) := by decide +kernel
theorem wd_K_law_951 : decode code 951 = .ok (.iaload, 1) := by decide +kernel
theorem wd_K_law_952 : decode code 952 = .ok (.i2l, 1) := by decide +kernel
theorem wd_K_law_953 : decode code 953 = .ok (.ldc2_w 125, 3) := by decide +kernel
theorem wd_K_law_956 : decode code 956 = .ok (.land, 1) := by decide +kernel
theorem wd_K_law_957 : decode code 957 = .ok (.lor, 1) := by decide +kernel
theorem wd_K_law_958 : decode code 958 = .ok (.invokevirtual 130, 3) := by decide +kernel
theorem wd_K_law_961 : decode code 961 = .ok (.aload_n 2, 1) := by decide +kernel
theorem wd_K_law_962 : decode code 962 = .ok (.invokevirtual 78, 3) := by decide +kernel
theorem wd_K_law_965 : decode code 965 = .ok (.iload 5, 2) := by decide +kernel
theorem wd_K_law_967 : decode code 967 = .ok (.if_icmp .eq 5, 3) := by decide +kernel
theorem wd_K_law_970 : decode code 970 = .ok (.iconst 0, 1) := by decide +kernel
theorem wd_K_law_971 : decode code 971 = .ok (.ireturn, 1) := by decide +kernel
theorem wd_K_law_972 : decode code 972 = .ok (.goto 59, 3) := by decide +kernel
theorem wd_K_law_975 : decode code 975 = .ok (.aload_n 1, 1) := by decide +kernel
theorem wd_K_law_976 : decode code 976 = .ok (.aload_n 0, 1) := by decide +kernel
theorem wd_K_law_977 : decode code 977 = .ok (.iload 4, 2) := by decide +kernel
theorem wd_K_law_979 : decode code 979 = .ok (.iconst 1, 1) := by decide +kernel
theorem wd_K_law_980 : decode code 980 = .ok (.iadd, 1) := by decide +kernel
theorem wd_K_law_981 : decode code 981 = .ok (.iaload, 1) := by decide +kernel
theorem wd_K_law_982 : decode code 982 = .ok (.aload_n 3, 1) := by decide +kernel
theorem wd_K_law_983 : decode code 983 = .ok (.invokestatic 131, 3) := by decide +kernel
theorem wd_K_law_986 : decode code 986 = .ok (.istore 5, 2) := by decide +kernel
theorem wd_K_law_988 : decode code 988 = .ok (.aload_n 2, 1) := by decide +kernel
theorem wd_K_law_989 : decode code 989 = .ok (.aload_n 0, 1) := by decide +kernel
theorem wd_K_law_990 : decode code 990 = .ok (.iload 4, 2) := by decide +kernel
theorem wd_K_law_992 : decode code 992 = .ok (.iconst 1, 1) := by decide +kernel
theorem wd_K_law_993 : decode code 993 = .ok (.iadd, 1) := by decide +kernel
theorem wd_K_law_994 : decode code 994 = .ok (.iaload, 1) := by decide +kernel
theorem wd_K_law_995 : decode code 995 = .ok (.invokevirtual 133, 3) := by decide +kernel
theorem wd_K_law_998 : decode code 998 = .ok (.istore 6, 2) := by decide +kernel
theorem wd_K_law_1000 : decode code 1000 = .ok (.aload_n 2, 1) := by decide +kernel
theorem wd_K_law_1001 : decode code 1001 = .ok (.invokevirtual 78, 3) := by decide +kernel
theorem wd_K_law_1004 : decode code 1004 = .ok (.iload 5, 2) := by decide +kernel
theorem wd_K_law_1006 : decode code 1006 = .ok (.if_icmp .eq 5, 3) := by decide +kernel
theorem wd_K_law_1009 : decode code 1009 = .ok (.iconst 0, 1) := by decide +kernel
theorem wd_K_law_1010 : decode code 1010 = .ok (.ireturn, 1) := by decide +kernel
theorem wd_K_law_1011 : decode code 1011 = .ok (.iload 5, 2) := by decide +kernel
theorem wd_K_law_1013 : decode code 1013 = .ok (.ifCond .ne 15, 3) := by decide +kernel
theorem wd_K_law_1016 : decode code 1016 = .ok (.aload_n 3, 1) := by decide +kernel
theorem wd_K_law_1017 : decode code 1017 = .ok (.iconst 0, 1) := by decide +kernel
theorem wd_K_law_1018 : decode code 1018 = .ok (.laload, 1) := by decide +kernel
theorem wd_K_law_1019 : decode code 1019 = .ok (.iload 6, 2) := by decide +kernel
theorem wd_K_law_1021 : decode code 1021 = .ok (.i2l, 1) := by decide +kernel
theorem wd_K_law_1022 : decode code 1022 = .ok (.lcmp, 1) := by decide +kernel
theorem wd_K_law_1023 : decode code 1023 = .ok (.ifCond .eq 5, 3) := by decide +kernel
theorem wd_K_law_1026 : decode code 1026 = .ok (.iconst 0, 1) := by decide +kernel
theorem wd_K_law_1027 : decode code 1027 = .ok (.ireturn, 1) := by decide +kernel
theorem wd_K_law_1028 : decode code 1028 = .ok (.goto 3, 3) := by decide +kernel
theorem wd_K_law_1031 : decode code 1031 = .ok (.iinc 4 5, 3) := by decide +kernel
theorem wd_K_law_1034 : decode code 1034 = .ok (.goto (-1011), 3) := by decide +kernel
theorem wd_K_law_1037 : decode code 1037 = .ok (.iconst 1, 1) := by decide +kernel
theorem wd_K_law_1038 : decode code 1038 = .ok (.ireturn, 1) := by decide +kernel
