section

theorem wd_M_bound_0 : decode prog_8_method_25_code 0 = .ok (.aload_n 0, 1) := by decide +kernel
theorem wd_M_bound_1 : decode prog_8_method_25_code 1 = .ok (.iconst 0, 1) := by decide +kernel
theorem wd_M_bound_2 : decode prog_8_method_25_code 2 = .ok (.putfield 69, 3) := by decide +kernel
theorem wd_M_bound_5 : decode prog_8_method_25_code 5 = .ok (.iconst 0, 1) := by decide +kernel
theorem wd_M_bound_6 : decode prog_8_method_25_code 6 = .ok (.istore_n 1, 1) := by decide +kernel
theorem wd_M_bound_7 : decode prog_8_method_25_code 7 = .ok (.iconst 0, 1) := by decide +kernel
theorem wd_M_bound_8 : decode prog_8_method_25_code 8 = .ok (.istore_n 2, 1) := by decide +kernel
theorem wd_M_bound_9 : decode prog_8_method_25_code 9 = .ok (.iconst 0, 1) := by decide +kernel
theorem wd_M_bound_10 : decode prog_8_method_25_code 10 = .ok (.istore_n 3, 1) := by decide +kernel
theorem wd_M_bound_11 : decode prog_8_method_25_code 11 = .ok (.iload_n 3, 1) := by decide +kernel
theorem wd_M_bound_12 : decode prog_8_method_25_code 12 = .ok (.aload_n 0, 1) := by decide +kernel
theorem wd_M_bound_13 : decode prog_8_method_25_code 13 = .ok (.getfield 79, 3) := by decide +kernel
theorem wd_M_bound_16 : decode prog_8_method_25_code 16 = .ok (.if_icmp .ge 91, 3) := by decide +kernel
theorem wd_M_bound_19 : decode prog_8_method_25_code 19 = .ok (.iconst (-1), 1) := by decide +kernel
theorem wd_M_bound_20 : decode prog_8_method_25_code 20 = .ok (.istore 4, 2) := by decide +kernel
theorem wd_M_bound_22 : decode prog_8_method_25_code 22 = .ok (.iconst 0, 1) := by decide +kernel
theorem wd_M_bound_23 : decode prog_8_method_25_code 23 = .ok (.istore 5, 2) := by decide +kernel
theorem wd_M_bound_25 : decode prog_8_method_25_code 25 = .ok (.iload 5, 2) := by decide +kernel
theorem wd_M_bound_27 : decode prog_8_method_25_code 27 = .ok (.aload_n 0, 1) := by decide +kernel
theorem wd_M_bound_28 : decode prog_8_method_25_code 28 = .ok (.getfield 79, 3) := by decide +kernel
theorem wd_M_bound_31 : decode prog_8_method_25_code 31 = .ok (.if_icmp .ge 48, 3) := by decide +kernel
theorem wd_M_bound_34 : decode prog_8_method_25_code 34 = .ok (.iload 5, 2) := by decide +kernel
theorem wd_M_bound_36 : decode prog_8_method_25_code 36 = .ok (.iload_n 3, 1) := by decide +kernel
theorem wd_M_bound_37 : decode prog_8_method_25_code 37 = .ok (.if_icmp .ne 6, 3) := by decide +kernel
theorem wd_M_bound_40 : decode prog_8_method_25_code 40 = .ok (.goto 33, 3) := by decide +kernel
theorem wd_M_bound_43 : decode prog_8_method_25_code 43 = .ok (.aload_n 0, 1) := by decide +kernel
theorem wd_M_bound_44 : decode prog_8_method_25_code 44 = .ok (.iload 5, 2) := by decide +kernel
theorem wd_M_bound_46 : decode prog_8_method_25_code 46 = .ok (.iload_n 3, 1) := by decide +kernel
theorem wd_M_bound_47 : decode prog_8_method_25_code 47 = .ok (.invokevirtual 107, 3) := by decide +kernel
theorem wd_M_bound_50 : decode prog_8_method_25_code 50 = .ok (.istore 6, 2) := by decide +kernel
theorem wd_M_bound_52 : decode prog_8_method_25_code 52 = .ok (.iload 6, 2) := by decide +kernel
theorem wd_M_bound_54 : decode prog_8_method_25_code 54 = .ok (.ifCond .lt 19, 3) := by decide +kernel
theorem wd_M_bound_57 : decode prog_8_method_25_code 57 = .ok (.iload 4, 2) := by decide +kernel
theorem wd_M_bound_59 : decode prog_8_method_25_code 59 = .ok (.ifCond .lt 10, 3) := by decide +kernel
theorem wd_M_bound_62 : decode prog_8_method_25_code 62 = .ok (.iload 6, 2) := by decide +kernel
theorem wd_M_bound_64 : decode prog_8_method_25_code 64 = .ok (.iload 4, 2) := by decide +kernel
theorem wd_M_bound_66 : decode prog_8_method_25_code 66 = .ok (.if_icmp .ge 7, 3) := by decide +kernel
theorem wd_M_bound_69 : decode prog_8_method_25_code 69 = .ok (.iload 6, 2) := by decide +kernel
theorem wd_M_bound_71 : decode prog_8_method_25_code 71 = .ok (.istore 4, 2) := by decide +kernel
theorem wd_M_bound_73 : decode prog_8_method_25_code 73 = .ok (.iinc 5 1, 3) := by decide +kernel
theorem wd_M_bound_76 : decode prog_8_method_25_code 76 = .ok (.goto (-51), 3) := by decide +kernel
theorem wd_M_bound_79 : decode prog_8_method_25_code 79 = .ok (.iload 4, 2) := by decide +kernel
theorem wd_M_bound_81 : decode prog_8_method_25_code 81 = .ok (.ifCond .ge 6, 3) := by decide +kernel
theorem wd_M_bound_84 : decode prog_8_method_25_code 84 = .ok (.iconst 0, 1) := by decide +kernel
theorem wd_M_bound_85 : decode prog_8_method_25_code 85 = .ok (.istore 4, 2) := by decide +kernel
theorem wd_M_bound_87 : decode prog_8_method_25_code 87 = .ok (.iload_n 1, 1) := by decide +kernel
theorem wd_M_bound_88 : decode prog_8_method_25_code 88 = .ok (.iload 4, 2) := by decide +kernel
theorem wd_M_bound_90 : decode prog_8_method_25_code 90 = .ok (.iadd, 1) := by decide +kernel
theorem wd_M_bound_91 : decode prog_8_method_25_code 91 = .ok (.istore_n 1, 1) := by decide +kernel
theorem wd_M_bound_92 : decode prog_8_method_25_code 92 = .ok (.iload 4, 2) := by decide +kernel
theorem wd_M_bound_94 : decode prog_8_method_25_code 94 = .ok (.iload_n 2, 1) := by decide +kernel
theorem wd_M_bound_95 : decode prog_8_method_25_code 95 = .ok (.if_icmp .le 6, 3) := by decide +kernel
theorem wd_M_bound_98 : decode prog_8_method_25_code 98 = .ok (.iload 4, 2) := by decide +kernel
theorem wd_M_bound_100 : decode prog_8_method_25_code 100 = .ok (.istore_n 2, 1) := by decide +kernel
theorem wd_M_bound_101 : decode prog_8_method_25_code 101 = .ok (.iinc 3 1, 3) := by decide +kernel
theorem wd_M_bound_104 : decode prog_8_method_25_code 104 = .ok (.goto (-93), 3) := by decide +kernel
theorem wd_M_bound_107 : decode prog_8_method_25_code 107 = .ok (.iload_n 1, 1) := by decide +kernel
theorem wd_M_bound_108 : decode prog_8_method_25_code 108 = .ok (.iload_n 2, 1) := by decide +kernel
theorem wd_M_bound_109 : decode prog_8_method_25_code 109 = .ok (.isub, 1) := by decide +kernel
theorem wd_M_bound_110 : decode prog_8_method_25_code 110 = .ok (.ireturn, 1) := by decide +kernel
end
section

theorem wd_M_isGood_0 : decode prog_8_method_26_code 0 = .ok (.iconst 0, 1) := by decide +kernel
theorem wd_M_isGood_1 : decode prog_8_method_26_code 1 = .ok (.istore_n 2, 1) := by decide +kernel
theorem wd_M_isGood_2 : decode prog_8_method_26_code 2 = .ok (.iload_n 2, 1) := by decide +kernel
theorem wd_M_isGood_3 : decode prog_8_method_26_code 3 = .ok (.aload_n 0, 1) := by decide +kernel
theorem wd_M_isGood_4 : decode prog_8_method_26_code 4 = .ok (.getfield 79, 3) := by decide +kernel
theorem wd_M_isGood_7 : decode prog_8_method_26_code 7 = .ok (.if_icmp .ge 20, 3) := by decide +kernel
theorem wd_M_isGood_10 : decode prog_8_method_26_code 10 = .ok (.aload_n 0, 1) := by decide +kernel
theorem wd_M_isGood_11 : decode prog_8_method_26_code 11 = .ok (.aload_n 1, 1) := by decide +kernel
theorem wd_M_isGood_12 : decode prog_8_method_26_code 12 = .ok (.iload_n 2, 1) := by decide +kernel
theorem wd_M_isGood_13 : decode prog_8_method_26_code 13 = .ok (.invokevirtual 131, 3) := by decide +kernel
theorem wd_M_isGood_16 : decode prog_8_method_26_code 16 = .ok (.ifCond .ne 5, 3) := by decide +kernel
theorem wd_M_isGood_19 : decode prog_8_method_26_code 19 = .ok (.iconst 0, 1) := by decide +kernel
theorem wd_M_isGood_20 : decode prog_8_method_26_code 20 = .ok (.ireturn, 1) := by decide +kernel
theorem wd_M_isGood_21 : decode prog_8_method_26_code 21 = .ok (.iinc 2 1, 3) := by decide +kernel
theorem wd_M_isGood_24 : decode prog_8_method_26_code 24 = .ok (.goto (-22), 3) := by decide +kernel
theorem wd_M_isGood_27 : decode prog_8_method_26_code 27 = .ok (.iconst 1, 1) := by decide +kernel
theorem wd_M_isGood_28 : decode prog_8_method_26_code 28 = .ok (.ireturn, 1) := by decide +kernel
end
section

theorem wd_M_tell_0 : decode prog_8_method_27_code 0 = .ok (.iconst 1, 1) := by decide +kernel
theorem wd_M_tell_1 : decode prog_8_method_27_code 1 = .ok (.istore_n 3, 1) := by decide +kernel
theorem wd_M_tell_2 : decode prog_8_method_27_code 2 = .ok (.iconst 0, 1) := by decide +kernel
theorem wd_M_tell_3 : decode prog_8_method_27_code 3 = .ok (.istore 4, 2) := by decide +kernel
theorem wd_M_tell_5 : decode prog_8_method_27_code 5 = .ok (.iload 4, 2) := by decide +kernel
theorem wd_M_tell_7 : decode prog_8_method_27_code 7 = .ok (.aload_n 0, 1) := by decide +kernel
theorem wd_M_tell_8 : decode prog_8_method_27_code 8 = .ok (.getfield 79, 3) := by decide +kernel
theorem wd_M_tell_11 : decode prog_8_method_27_code 11 = .ok (.if_icmp .ge 59, 3) := by decide +kernel
theorem wd_M_tell_14 : decode prog_8_method_27_code 14 = .ok (.aload_n 0, 1) := by decide +kernel
theorem wd_M_tell_15 : decode prog_8_method_27_code 15 = .ok (.getfield 62, 3) := by decide +kernel
theorem wd_M_tell_18 : decode prog_8_method_27_code 18 = .ok (.iload 4, 2) := by decide +kernel
theorem wd_M_tell_20 : decode prog_8_method_27_code 20 = .ok (.lload_n 1, 1) := by decide +kernel
theorem wd_M_tell_21 : decode prog_8_method_27_code 21 = .ok (.iconst 4, 1) := by decide +kernel
theorem wd_M_tell_22 : decode prog_8_method_27_code 22 = .ok (.iload 4, 2) := by decide +kernel
theorem wd_M_tell_24 : decode prog_8_method_27_code 24 = .ok (.imul, 1) := by decide +kernel
theorem wd_M_tell_25 : decode prog_8_method_27_code 25 = .ok (.lshr, 1) := by decide +kernel
theorem wd_M_tell_26 : decode prog_8_method_27_code 26 = .ok (.ldc2_w 139, 3) := by decide +kernel
theorem wd_M_tell_29 : decode prog_8_method_27_code 29 = .ok (.land, 1) := by decide +kernel
theorem wd_M_tell_30 : decode prog_8_method_27_code 30 = .ok (.l2i, 1) := by decide +kernel
theorem wd_M_tell_31 : decode prog_8_method_27_code 31 = .ok (.iastore, 1) := by decide +kernel
theorem wd_M_tell_32 : decode prog_8_method_27_code 32 = .ok (.aload_n 0, 1) := by decide +kernel
theorem wd_M_tell_33 : decode prog_8_method_27_code 33 = .ok (.getfield 62, 3) := by decide +kernel
theorem wd_M_tell_36 : decode prog_8_method_27_code 36 = .ok (.iload 4, 2) := by decide +kernel
theorem wd_M_tell_38 : decode prog_8_method_27_code 38 = .ok (.iaload, 1) := by decide +kernel
theorem wd_M_tell_39 : decode prog_8_method_27_code 39 = .ok (.aload_n 0, 1) := by decide +kernel
theorem wd_M_tell_40 : decode prog_8_method_27_code 40 = .ok (.getfield 79, 3) := by decide +kernel
theorem wd_M_tell_43 : decode prog_8_method_27_code 43 = .ok (.if_icmp .ge 19, 3) := by decide +kernel
theorem wd_M_tell_46 : decode prog_8_method_27_code 46 = .ok (.aload_n 0, 1) := by decide +kernel
theorem wd_M_tell_47 : decode prog_8_method_27_code 47 = .ok (.aload_n 0, 1) := by decide +kernel
theorem wd_M_tell_48 : decode prog_8_method_27_code 48 = .ok (.getfield 62, 3) := by decide +kernel
theorem wd_M_tell_51 : decode prog_8_method_27_code 51 = .ok (.iload 4, 2) := by decide +kernel
theorem wd_M_tell_53 : decode prog_8_method_27_code 53 = .ok (.iaload, 1) := by decide +kernel
theorem wd_M_tell_54 : decode prog_8_method_27_code 54 = .ok (.iload 4, 2) := by decide +kernel
theorem wd_M_tell_56 : decode prog_8_method_27_code 56 = .ok (.invokevirtual 127, 3) := by decide +kernel
theorem wd_M_tell_59 : decode prog_8_method_27_code 59 = .ok (.ifCond .eq 5, 3) := by decide +kernel
theorem wd_M_tell_62 : decode prog_8_method_27_code 62 = .ok (.iconst 0, 1) := by decide +kernel
theorem wd_M_tell_63 : decode prog_8_method_27_code 63 = .ok (.istore_n 3, 1) := by decide +kernel
theorem wd_M_tell_64 : decode prog_8_method_27_code 64 = .ok (.iinc 4 1, 3) := by decide +kernel
theorem wd_M_tell_67 : decode prog_8_method_27_code 67 = .ok (.goto (-62), 3) := by decide +kernel
theorem wd_M_tell_70 : decode prog_8_method_27_code 70 = .ok (.aload_n 0, 1) := by decide +kernel
theorem wd_M_tell_71 : decode prog_8_method_27_code 71 = .ok (.iload_n 3, 1) := by decide +kernel
theorem wd_M_tell_72 : decode prog_8_method_27_code 72 = .ok (.iload_n 3, 1) := by decide +kernel
theorem wd_M_tell_73 : decode prog_8_method_27_code 73 = .ok (.ifCond .eq 18, 3) := by decide +kernel
theorem wd_M_tell_76 : decode prog_8_method_27_code 76 = .ok (.aload_n 0, 1) := by decide +kernel
theorem wd_M_tell_77 : decode prog_8_method_27_code 77 = .ok (.aload_n 0, 1) := by decide +kernel
theorem wd_M_tell_78 : decode prog_8_method_27_code 78 = .ok (.getfield 62, 3) := by decide +kernel
theorem wd_M_tell_81 : decode prog_8_method_27_code 81 = .ok (.invokevirtual 141, 3) := by decide +kernel
theorem wd_M_tell_84 : decode prog_8_method_27_code 84 = .ok (.ifCond .eq 7, 3) := by decide +kernel
theorem wd_M_tell_87 : decode prog_8_method_27_code 87 = .ok (.iconst 1, 1) := by decide +kernel
theorem wd_M_tell_88 : decode prog_8_method_27_code 88 = .ok (.goto 4, 3) := by decide +kernel
theorem wd_M_tell_91 : decode prog_8_method_27_code 91 = .ok (.iconst 0, 1) := by decide +kernel
theorem wd_M_tell_92 : decode prog_8_method_27_code 92 = .ok (.iconst 1, 1) := by decide +kernel
theorem wd_M_tell_93 : decode prog_8_method_27_code 93 = .ok (.invokevirtual 86, 3) := by decide +kernel
theorem wd_M_tell_96 : decode prog_8_method_27_code 96 = .ok (.ifCond .ne 4, 3) := by decide +kernel
theorem wd_M_tell_99 : decode prog_8_method_27_code 99 = .ok (.return_, 1) := by decide +kernel
theorem wd_M_tell_100 : decode prog_8_method_27_code 100 = .ok (.aload_n 0, 1) := by decide +kernel
theorem wd_M_tell_101 : decode prog_8_method_27_code 101 = .ok (.iconst 1, 1) := by decide +kernel
theorem wd_M_tell_102 : decode prog_8_method_27_code 102 = .ok (.putfield 76, 3) := by decide +kernel
theorem wd_M_tell_105 : decode prog_8_method_27_code 105 = .ok (.iconst 0, 1) := by decide +kernel
theorem wd_M_tell_106 : decode prog_8_method_27_code 106 = .ok (.istore 4, 2) := by decide +kernel
theorem wd_M_tell_108 : decode prog_8_method_27_code 108 = .ok (.iload 4, 2) := by decide +kernel
theorem wd_M_tell_110 : decode prog_8_method_27_code 110 = .ok (.aload_n 0, 1) := by decide +kernel
theorem wd_M_tell_111 : decode prog_8_method_27_code 111 = .ok (.getfield 79, 3) := by decide +kernel
theorem wd_M_tell_114 : decode prog_8_method_27_code 114 = .ok (.if_icmp .ge 23, 3) := by decide +kernel
theorem wd_M_tell_117 : decode prog_8_method_27_code 117 = .ok (.aload_n 0, 1) := by decide +kernel
theorem wd_M_tell_118 : decode prog_8_method_27_code 118 = .ok (.getfield 59, 3) := by decide +kernel
theorem wd_M_tell_121 : decode prog_8_method_27_code 121 = .ok (.iload 4, 2) := by decide +kernel
theorem wd_M_tell_123 : decode prog_8_method_27_code 123 = .ok (.aload_n 0, 1) := by decide +kernel
theorem wd_M_tell_124 : decode prog_8_method_27_code 124 = .ok (.getfield 62, 3) := by decide +kernel
theorem wd_M_tell_127 : decode prog_8_method_27_code 127 = .ok (.iload 4, 2) := by decide +kernel
theorem wd_M_tell_129 : decode prog_8_method_27_code 129 = .ok (.iaload, 1) := by decide +kernel
theorem wd_M_tell_130 : decode prog_8_method_27_code 130 = .ok (.iastore, 1) := by decide +kernel
theorem wd_M_tell_131 : decode prog_8_method_27_code 131 = .ok (.iinc 4 1, 3) := by decide +kernel
theorem wd_M_tell_134 : decode prog_8_method_27_code 134 = .ok (.goto (-26), 3) := by decide +kernel
theorem wd_M_tell_137 : decode prog_8_method_27_code 137 = .ok (.return_, 1) := by decide +kernel
end
section

theorem wd_M_swaps_0 : decode prog_8_method_28_code 0 = .ok (.aload_n 0, 1) := by decide +kernel
theorem wd_M_swaps_1 : decode prog_8_method_28_code 1 = .ok (.aload_n 0, 1) := by decide +kernel
theorem wd_M_swaps_2 : decode prog_8_method_28_code 2 = .ok (.getfield 59, 3) := by decide +kernel
theorem wd_M_swaps_5 : decode prog_8_method_28_code 5 = .ok (.aload_n 0, 1) := by decide +kernel
theorem wd_M_swaps_6 : decode prog_8_method_28_code 6 = .ok (.getfield 79, 3) := by decide +kernel
theorem wd_M_swaps_9 : decode prog_8_method_28_code 9 = .ok (.invokevirtual 135, 3) := by decide +kernel
theorem wd_M_swaps_12 : decode prog_8_method_28_code 12 = .ok (.aload_n 0, 1) := by decide +kernel
theorem wd_M_swaps_13 : decode prog_8_method_28_code 13 = .ok (.getfield 110, 3) := by decide +kernel
theorem wd_M_swaps_16 : decode prog_8_method_28_code 16 = .ok (.istore_n 3, 1) := by decide +kernel
theorem wd_M_swaps_17 : decode prog_8_method_28_code 17 = .ok (.iconst 0, 1) := by decide +kernel
theorem wd_M_swaps_18 : decode prog_8_method_28_code 18 = .ok (.istore 4, 2) := by decide +kernel
theorem wd_M_swaps_20 : decode prog_8_method_28_code 20 = .ok (.iload 4, 2) := by decide +kernel
theorem wd_M_swaps_22 : decode prog_8_method_28_code 22 = .ok (.aload_n 0, 1) := by decide +kernel
theorem wd_M_swaps_23 : decode prog_8_method_28_code 23 = .ok (.getfield 79, 3) := by decide +kernel
theorem wd_M_swaps_26 : decode prog_8_method_28_code 26 = .ok (.if_icmp .ge 23, 3) := by decide +kernel
theorem wd_M_swaps_29 : decode prog_8_method_28_code 29 = .ok (.aload_n 0, 1) := by decide +kernel
theorem wd_M_swaps_30 : decode prog_8_method_28_code 30 = .ok (.getfield 62, 3) := by decide +kernel
theorem wd_M_swaps_33 : decode prog_8_method_28_code 33 = .ok (.iload 4, 2) := by decide +kernel
theorem wd_M_swaps_35 : decode prog_8_method_28_code 35 = .ok (.aload_n 0, 1) := by decide +kernel
theorem wd_M_swaps_36 : decode prog_8_method_28_code 36 = .ok (.getfield 59, 3) := by decide +kernel
theorem wd_M_swaps_39 : decode prog_8_method_28_code 39 = .ok (.iload 4, 2) := by decide +kernel
theorem wd_M_swaps_41 : decode prog_8_method_28_code 41 = .ok (.iaload, 1) := by decide +kernel
theorem wd_M_swaps_42 : decode prog_8_method_28_code 42 = .ok (.iastore, 1) := by decide +kernel
theorem wd_M_swaps_43 : decode prog_8_method_28_code 43 = .ok (.iinc 4 1, 3) := by decide +kernel
theorem wd_M_swaps_46 : decode prog_8_method_28_code 46 = .ok (.goto (-26), 3) := by decide +kernel
theorem wd_M_swaps_49 : decode prog_8_method_28_code 49 = .ok (.aload_n 0, 1) := by decide +kernel
theorem wd_M_swaps_50 : decode prog_8_method_28_code 50 = .ok (.getfield 62, 3) := by decide +kernel
theorem wd_M_swaps_53 : decode prog_8_method_28_code 53 = .ok (.iload_n 1, 1) := by decide +kernel
theorem wd_M_swaps_54 : decode prog_8_method_28_code 54 = .ok (.aload_n 0, 1) := by decide +kernel
theorem wd_M_swaps_55 : decode prog_8_method_28_code 55 = .ok (.getfield 59, 3) := by decide +kernel
theorem wd_M_swaps_58 : decode prog_8_method_28_code 58 = .ok (.iload_n 2, 1) := by decide +kernel
theorem wd_M_swaps_59 : decode prog_8_method_28_code 59 = .ok (.iaload, 1) := by decide +kernel
theorem wd_M_swaps_60 : decode prog_8_method_28_code 60 = .ok (.iastore, 1) := by decide +kernel
theorem wd_M_swaps_61 : decode prog_8_method_28_code 61 = .ok (.aload_n 0, 1) := by decide +kernel
theorem wd_M_swaps_62 : decode prog_8_method_28_code 62 = .ok (.getfield 62, 3) := by decide +kernel
theorem wd_M_swaps_65 : decode prog_8_method_28_code 65 = .ok (.iload_n 2, 1) := by decide +kernel
theorem wd_M_swaps_66 : decode prog_8_method_28_code 66 = .ok (.aload_n 0, 1) := by decide +kernel
theorem wd_M_swaps_67 : decode prog_8_method_28_code 67 = .ok (.getfield 59, 3) := by decide +kernel
theorem wd_M_swaps_70 : decode prog_8_method_28_code 70 = .ok (.iload_n 1, 1) := by decide +kernel
theorem wd_M_swaps_71 : decode prog_8_method_28_code 71 = .ok (.iaload, 1) := by decide +kernel
theorem wd_M_swaps_72 : decode prog_8_method_28_code 72 = .ok (.iastore, 1) := by decide +kernel
theorem wd_M_swaps_73 : decode prog_8_method_28_code 73 = .ok (.aload_n 0, 1) := by decide +kernel
theorem wd_M_swaps_74 : decode prog_8_method_28_code 74 = .ok (.aload_n 0, 1) := by decide +kernel
theorem wd_M_swaps_75 : decode prog_8_method_28_code 75 = .ok (.getfield 62, 3) := by decide +kernel
theorem wd_M_swaps_78 : decode prog_8_method_28_code 78 = .ok (.invokevirtual 141, 3) := by decide +kernel
theorem wd_M_swaps_81 : decode prog_8_method_28_code 81 = .ok (.ifCond .ne 5, 3) := by decide +kernel
theorem wd_M_swaps_84 : decode prog_8_method_28_code 84 = .ok (.iconst 0, 1) := by decide +kernel
theorem wd_M_swaps_85 : decode prog_8_method_28_code 85 = .ok (.ireturn, 1) := by decide +kernel
theorem wd_M_swaps_86 : decode prog_8_method_28_code 86 = .ok (.aload_n 0, 1) := by decide +kernel
theorem wd_M_swaps_87 : decode prog_8_method_28_code 87 = .ok (.aload_n 0, 1) := by decide +kernel
theorem wd_M_swaps_88 : decode prog_8_method_28_code 88 = .ok (.getfield 62, 3) := by decide +kernel
theorem wd_M_swaps_91 : decode prog_8_method_28_code 91 = .ok (.aload_n 0, 1) := by decide +kernel
theorem wd_M_swaps_92 : decode prog_8_method_28_code 92 = .ok (.getfield 79, 3) := by decide +kernel
theorem wd_M_swaps_95 : decode prog_8_method_28_code 95 = .ok (.invokevirtual 135, 3) := by decide +kernel
theorem wd_M_swaps_98 : decode prog_8_method_28_code 98 = .ok (.aload_n 0, 1) := by decide +kernel
theorem wd_M_swaps_99 : decode prog_8_method_28_code 99 = .ok (.getfield 110, 3) := by decide +kernel
theorem wd_M_swaps_102 : decode prog_8_method_28_code 102 = .ok (.iload_n 3, 1) := by decide +kernel
theorem wd_M_swaps_103 : decode prog_8_method_28_code 103 = .ok (.if_icmp .lt 5, 3) := by decide +kernel
theorem wd_M_swaps_106 : decode prog_8_method_28_code 106 = .ok (.iconst 0, 1) := by decide +kernel
theorem wd_M_swaps_107 : decode prog_8_method_28_code 107 = .ok (.ireturn, 1) := by decide +kernel
theorem wd_M_swaps_108 : decode prog_8_method_28_code 108 = .ok (.iconst 0, 1) := by decide +kernel
theorem wd_M_swaps_109 : decode prog_8_method_28_code 109 = .ok (.istore 4, 2) := by decide +kernel
theorem wd_M_swaps_111 : decode prog_8_method_28_code 111 = .ok (.iload 4, 2) := by decide +kernel
theorem wd_M_swaps_113 : decode prog_8_method_28_code 113 = .ok (.aload_n 0, 1) := by decide +kernel
theorem wd_M_swaps_114 : decode prog_8_method_28_code 114 = .ok (.getfield 79, 3) := by decide +kernel
theorem wd_M_swaps_117 : decode prog_8_method_28_code 117 = .ok (.if_icmp .ge 23, 3) := by decide +kernel
theorem wd_M_swaps_120 : decode prog_8_method_28_code 120 = .ok (.aload_n 0, 1) := by decide +kernel
theorem wd_M_swaps_121 : decode prog_8_method_28_code 121 = .ok (.getfield 59, 3) := by decide +kernel
theorem wd_M_swaps_124 : decode prog_8_method_28_code 124 = .ok (.iload 4, 2) := by decide +kernel
theorem wd_M_swaps_126 : decode prog_8_method_28_code 126 = .ok (.aload_n 0, 1) := by decide +kernel
theorem wd_M_swaps_127 : decode prog_8_method_28_code 127 = .ok (.getfield 62, 3) := by decide +kernel
theorem wd_M_swaps_130 : decode prog_8_method_28_code 130 = .ok (.iload 4, 2) := by decide +kernel
theorem wd_M_swaps_132 : decode prog_8_method_28_code 132 = .ok (.iaload, 1) := by decide +kernel
theorem wd_M_swaps_133 : decode prog_8_method_28_code 133 = .ok (.iastore, 1) := by decide +kernel
theorem wd_M_swaps_134 : decode prog_8_method_28_code 134 = .ok (.iinc 4 1, 3) := by decide +kernel
theorem wd_M_swaps_137 : decode prog_8_method_28_code 137 = .ok (.goto (-26), 3) := by decide +kernel
theorem wd_M_swaps_140 : decode prog_8_method_28_code 140 = .ok (.iconst 1, 1) := by decide +kernel
theorem wd_M_swaps_141 : decode prog_8_method_28_code 141 = .ok (.ireturn, 1) := by decide +kernel
end
section

theorem wd_M_better_0 : decode prog_8_method_29_code 0 = .ok (.iconst 0, 1) := by decide +kernel
theorem wd_M_better_1 : decode prog_8_method_29_code 1 = .ok (.istore_n 1, 1) := by decide +kernel
theorem wd_M_better_2 : decode prog_8_method_29_code 2 = .ok (.iload_n 1, 1) := by decide +kernel
theorem wd_M_better_3 : decode prog_8_method_29_code 3 = .ok (.aload_n 0, 1) := by decide +kernel
theorem wd_M_better_4 : decode prog_8_method_29_code 4 = .ok (.getfield 79, 3) := by decide +kernel
theorem wd_M_better_7 : decode prog_8_method_29_code 7 = .ok (.if_icmp .ge 38, 3) := by decide +kernel
theorem wd_M_better_10 : decode prog_8_method_29_code 10 = .ok (.iload_n 1, 1) := by decide +kernel
theorem wd_M_better_11 : decode prog_8_method_29_code 11 = .ok (.iconst 1, 1) := by decide +kernel
theorem wd_M_better_12 : decode prog_8_method_29_code 12 = .ok (.iadd, 1) := by decide +kernel
theorem wd_M_better_13 : decode prog_8_method_29_code 13 = .ok (.istore_n 2, 1) := by decide +kernel
theorem wd_M_better_14 : decode prog_8_method_29_code 14 = .ok (.iload_n 2, 1) := by decide +kernel
theorem wd_M_better_15 : decode prog_8_method_29_code 15 = .ok (.aload_n 0, 1) := by decide +kernel
theorem wd_M_better_16 : decode prog_8_method_29_code 16 = .ok (.getfield 79, 3) := by decide +kernel
theorem wd_M_better_19 : decode prog_8_method_29_code 19 = .ok (.if_icmp .ge 20, 3) := by decide +kernel
theorem wd_M_better_22 : decode prog_8_method_29_code 22 = .ok (.aload_n 0, 1) := by decide +kernel
theorem wd_M_better_23 : decode prog_8_method_29_code 23 = .ok (.iload_n 1, 1) := by decide +kernel
theorem wd_M_better_24 : decode prog_8_method_29_code 24 = .ok (.iload_n 2, 1) := by decide +kernel
theorem wd_M_better_25 : decode prog_8_method_29_code 25 = .ok (.invokevirtual 145, 3) := by decide +kernel
theorem wd_M_better_28 : decode prog_8_method_29_code 28 = .ok (.ifCond .eq 5, 3) := by decide +kernel
theorem wd_M_better_31 : decode prog_8_method_29_code 31 = .ok (.iconst 1, 1) := by decide +kernel
theorem wd_M_better_32 : decode prog_8_method_29_code 32 = .ok (.ireturn, 1) := by decide +kernel
theorem wd_M_better_33 : decode prog_8_method_29_code 33 = .ok (.iinc 2 1, 3) := by decide +kernel
theorem wd_M_better_36 : decode prog_8_method_29_code 36 = .ok (.goto (-22), 3) := by decide +kernel
theorem wd_M_better_39 : decode prog_8_method_29_code 39 = .ok (.iinc 1 1, 3) := by decide +kernel
theorem wd_M_better_42 : decode prog_8_method_29_code 42 = .ok (.goto (-40), 3) := by decide +kernel
theorem wd_M_better_45 : decode prog_8_method_29_code 45 = .ok (.iconst 0, 1) := by decide +kernel
theorem wd_M_better_46 : decode prog_8_method_29_code 46 = .ok (.ireturn, 1) := by decide +kernel
end
section

theorem wd_M_improve_0 : decode prog_8_method_30_code 0 = .ok (.aload_n 0, 1) := by decide +kernel
theorem wd_M_improve_1 : decode prog_8_method_30_code 1 = .ok (.aload_n 0, 1) := by decide +kernel
theorem wd_M_improve_2 : decode prog_8_method_30_code 2 = .ok (.getfield 76, 3) := by decide +kernel
theorem wd_M_improve_5 : decode prog_8_method_30_code 5 = .ok (.iload_n 1, 1) := by decide +kernel
theorem wd_M_improve_6 : decode prog_8_method_30_code 6 = .ok (.iconst 0, 1) := by decide +kernel
theorem wd_M_improve_7 : decode prog_8_method_30_code 7 = .ok (.bipush 100, 2) := by decide +kernel
theorem wd_M_improve_9 : decode prog_8_method_30_code 9 = .ok (.invokestatic 82, 3) := by decide +kernel
theorem wd_M_improve_12 : decode prog_8_method_30_code 12 = .ok (.iconst 1, 1) := by decide +kernel
theorem wd_M_improve_13 : decode prog_8_method_30_code 13 = .ok (.invokevirtual 86, 3) := by decide +kernel
theorem wd_M_improve_16 : decode prog_8_method_30_code 16 = .ok (.ifCond .ne 5, 3) := by decide +kernel
theorem wd_M_improve_19 : decode prog_8_method_30_code 19 = .ok (.iconst 0, 1) := by decide +kernel
theorem wd_M_improve_20 : decode prog_8_method_30_code 20 = .ok (.ireturn, 1) := by decide +kernel
theorem wd_M_improve_21 : decode prog_8_method_30_code 21 = .ok (.iconst 0, 1) := by decide +kernel
theorem wd_M_improve_22 : decode prog_8_method_30_code 22 = .ok (.istore_n 2, 1) := by decide +kernel
theorem wd_M_improve_23 : decode prog_8_method_30_code 23 = .ok (.iload_n 2, 1) := by decide +kernel
theorem wd_M_improve_24 : decode prog_8_method_30_code 24 = .ok (.iload_n 1, 1) := by decide +kernel
theorem wd_M_improve_25 : decode prog_8_method_30_code 25 = .ok (.if_icmp .ge 16, 3) := by decide +kernel
theorem wd_M_improve_28 : decode prog_8_method_30_code 28 = .ok (.aload_n 0, 1) := by decide +kernel
theorem wd_M_improve_29 : decode prog_8_method_30_code 29 = .ok (.invokevirtual 148, 3) := by decide +kernel
theorem wd_M_improve_32 : decode prog_8_method_30_code 32 = .ok (.ifCond .eq 9, 3) := by decide +kernel
theorem wd_M_improve_35 : decode prog_8_method_30_code 35 = .ok (.iinc 2 1, 3) := by decide +kernel
theorem wd_M_improve_38 : decode prog_8_method_30_code 38 = .ok (.goto (-15), 3) := by decide +kernel
theorem wd_M_improve_41 : decode prog_8_method_30_code 41 = .ok (.iload_n 2, 1) := by decide +kernel
theorem wd_M_improve_42 : decode prog_8_method_30_code 42 = .ok (.ireturn, 1) := by decide +kernel
end
section

theorem wd_K_coil_0 : decode method_3_code 0 = .ok (.aload 5, 2) := by decide +kernel
theorem wd_K_coil_2 : decode method_3_code 2 = .ok (.iconst 0, 1) := by decide +kernel
theorem wd_K_coil_3 : decode method_3_code 3 = .ok (.aload_n 0, 1) := by decide +kernel
theorem wd_K_coil_4 : decode method_3_code 4 = .ok (.iload_n 1, 1) := by decide +kernel
theorem wd_K_coil_5 : decode method_3_code 5 = .ok (.iload_n 2, 1) := by decide +kernel
theorem wd_K_coil_6 : decode method_3_code 6 = .ok (.iload_n 3, 1) := by decide +kernel
theorem wd_K_coil_7 : decode method_3_code 7 = .ok (.iload 4, 2) := by decide +kernel
theorem wd_K_coil_9 : decode method_3_code 9 = .ok (.invokevirtual 7, 3) := by decide +kernel
theorem wd_K_coil_12 : decode method_3_code 12 = .ok (.i2l, 1) := by decide +kernel
theorem wd_K_coil_13 : decode method_3_code 13 = .ok (.lastore, 1) := by decide +kernel
theorem wd_K_coil_14 : decode method_3_code 14 = .ok (.goto 11, 3) := by decide +kernel
theorem wd_K_coil_17 : decode method_3_code 17 = .ok (.astore 6, 2) := by decide +kernel
theorem wd_K_coil_19 : decode method_3_code 19 = .ok (.iconst 1, 1) := by decide +kernel
theorem wd_K_coil_20 : decode method_3_code 20 = .ok (.ireturn, 1) := by decide +kernel
theorem wd_K_coil_21 : decode method_3_code 21 = .ok (.astore 6, 2) := by decide +kernel
theorem wd_K_coil_23 : decode method_3_code 23 = .ok (.iconst 2, 1) := by decide +kernel
theorem wd_K_coil_24 : decode method_3_code 24 = .ok (.ireturn, 1) := by decide +kernel
theorem wd_K_coil_25 : decode method_3_code 25 = .ok (.iconst 0, 1) := by decide +kernel
theorem wd_K_coil_26 : decode method_3_code 26 = .ok (.ireturn, 1) := by decide +kernel
end
section

theorem wd_K_table_0 : decode method_4_code 0 = .ok (.aload 5, 2) := by decide +kernel
theorem wd_K_table_2 : decode method_4_code 2 = .ok (.iconst 0, 1) := by decide +kernel
theorem wd_K_table_3 : decode method_4_code 3 = .ok (.aload_n 0, 1) := by decide +kernel
theorem wd_K_table_4 : decode method_4_code 4 = .ok (.iload_n 1, 1) := by decide +kernel
theorem wd_K_table_5 : decode method_4_code 5 = .ok (.iload_n 2, 1) := by decide +kernel
theorem wd_K_table_6 : decode method_4_code 6 = .ok (.iload_n 3, 1) := by decide +kernel
theorem wd_K_table_7 : decode method_4_code 7 = .ok (.iload 4, 2) := by decide +kernel
theorem wd_K_table_9 : decode method_4_code 9 = .ok (.invokevirtual 17, 3) := by decide +kernel
theorem wd_K_table_12 : decode method_4_code 12 = .ok (.i2l, 1) := by decide +kernel
theorem wd_K_table_13 : decode method_4_code 13 = .ok (.lastore, 1) := by decide +kernel
theorem wd_K_table_14 : decode method_4_code 14 = .ok (.goto 15, 3) := by decide +kernel
theorem wd_K_table_17 : decode method_4_code 17 = .ok (.astore 6, 2) := by decide +kernel
theorem wd_K_table_19 : decode method_4_code 19 = .ok (.iconst 1, 1) := by decide +kernel
theorem wd_K_table_20 : decode method_4_code 20 = .ok (.ireturn, 1) := by decide +kernel
theorem wd_K_table_21 : decode method_4_code 21 = .ok (.astore 6, 2) := by decide +kernel
theorem wd_K_table_23 : decode method_4_code 23 = .ok (.iconst 2, 1) := by decide +kernel
theorem wd_K_table_24 : decode method_4_code 24 = .ok (.ireturn, 1) := by decide +kernel
theorem wd_K_table_25 : decode method_4_code 25 = .ok (.astore 6, 2) := by decide +kernel
theorem wd_K_table_27 : decode method_4_code 27 = .ok (.iconst 3, 1) := by decide +kernel
theorem wd_K_table_28 : decode method_4_code 28 = .ok (.ireturn, 1) := by decide +kernel
theorem wd_K_table_29 : decode method_4_code 29 = .ok (.iconst 0, 1) := by decide +kernel
theorem wd_K_table_30 : decode method_4_code 30 = .ok (.ireturn, 1) := by decide +kernel
end
