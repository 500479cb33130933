section

theorem wd_M_table_0 : decode prog_8_method_8_code 0 = .ok (.iload_n 1, 1) := by decide +kernel
theorem wd_M_table_1 : decode prog_8_method_8_code 1 = .ok (.iconst 0, 1) := by decide +kernel
theorem wd_M_table_2 : decode prog_8_method_8_code 2 = .ok (.iconst 1, 1) := by decide +kernel
theorem wd_M_table_3 : decode prog_8_method_8_code 3 = .ok (.invokestatic 82, 3) := by decide +kernel
theorem wd_M_table_6 : decode prog_8_method_8_code 6 = .ok (.istore 5, 2) := by decide +kernel
theorem wd_M_table_8 : decode prog_8_method_8_code 8 = .ok (.aload_n 0, 1) := by decide +kernel
theorem wd_M_table_9 : decode prog_8_method_8_code 9 = .ok (.iload 5, 2) := by decide +kernel
theorem wd_M_table_11 : decode prog_8_method_8_code 11 = .ok (.iload_n 2, 1) := by decide +kernel
theorem wd_M_table_12 : decode prog_8_method_8_code 12 = .ok (.iconst 0, 1) := by decide +kernel
theorem wd_M_table_13 : decode prog_8_method_8_code 13 = .ok (.sipush 1000, 3) := by decide +kernel
theorem wd_M_table_16 : decode prog_8_method_8_code 16 = .ok (.invokestatic 82, 3) := by decide +kernel
theorem wd_M_table_19 : decode prog_8_method_8_code 19 = .ok (.ifCond .eq 30, 3) := by decide +kernel
theorem wd_M_table_22 : decode prog_8_method_8_code 22 = .ok (.iload_n 3, 1) := by decide +kernel
theorem wd_M_table_23 : decode prog_8_method_8_code 23 = .ok (.iload_n 2, 1) := by decide +kernel
theorem wd_M_table_24 : decode prog_8_method_8_code 24 = .ok (.sipush 1000, 3) := by decide +kernel
theorem wd_M_table_27 : decode prog_8_method_8_code 27 = .ok (.invokestatic 82, 3) := by decide +kernel
theorem wd_M_table_30 : decode prog_8_method_8_code 30 = .ok (.ifCond .eq 19, 3) := by decide +kernel
theorem wd_M_table_33 : decode prog_8_method_8_code 33 = .ok (.iload 4, 2) := by decide +kernel
theorem wd_M_table_35 : decode prog_8_method_8_code 35 = .ok (.iconst 0, 1) := by decide +kernel
theorem wd_M_table_36 : decode prog_8_method_8_code 36 = .ok (.sipush 10000, 3) := by decide +kernel
theorem wd_M_table_39 : decode prog_8_method_8_code 39 = .ok (.invokestatic 82, 3) := by decide +kernel
theorem wd_M_table_42 : decode prog_8_method_8_code 42 = .ok (.ifCond .eq 7, 3) := by decide +kernel
theorem wd_M_table_45 : decode prog_8_method_8_code 45 = .ok (.iconst 1, 1) := by decide +kernel
theorem wd_M_table_46 : decode prog_8_method_8_code 46 = .ok (.goto 4, 3) := by decide +kernel
theorem wd_M_table_49 : decode prog_8_method_8_code 49 = .ok (.iconst 0, 1) := by decide +kernel
theorem wd_M_table_50 : decode prog_8_method_8_code 50 = .ok (.iload 5, 2) := by decide +kernel
theorem wd_M_table_52 : decode prog_8_method_8_code 52 = .ok (.ifCond .eq 18, 3) := by decide +kernel
theorem wd_M_table_55 : decode prog_8_method_8_code 55 = .ok (.aload_n 0, 1) := by decide +kernel
theorem wd_M_table_56 : decode prog_8_method_8_code 56 = .ok (.getfield 28, 3) := by decide +kernel
theorem wd_M_table_59 : decode prog_8_method_8_code 59 = .ok (.iload_n 1, 1) := by decide +kernel
theorem wd_M_table_60 : decode prog_8_method_8_code 60 = .ok (.iaload, 1) := by decide +kernel
theorem wd_M_table_61 : decode prog_8_method_8_code 61 = .ok (.bipush 8, 2) := by decide +kernel
theorem wd_M_table_63 : decode prog_8_method_8_code 63 = .ok (.if_icmp .ge 7, 3) := by decide +kernel
theorem wd_M_table_66 : decode prog_8_method_8_code 66 = .ok (.iconst 1, 1) := by decide +kernel
theorem wd_M_table_67 : decode prog_8_method_8_code 67 = .ok (.goto 4, 3) := by decide +kernel
theorem wd_M_table_70 : decode prog_8_method_8_code 70 = .ok (.iconst 0, 1) := by decide +kernel
theorem wd_M_table_71 : decode prog_8_method_8_code 71 = .ok (.invokevirtual 86, 3) := by decide +kernel
theorem wd_M_table_74 : decode prog_8_method_8_code 74 = .ok (.ifCond .ne 5, 3) := by decide +kernel
theorem wd_M_table_77 : decode prog_8_method_8_code 77 = .ok (.iconst 0, 1) := by decide +kernel
theorem wd_M_table_78 : decode prog_8_method_8_code 78 = .ok (.ireturn, 1) := by decide +kernel
theorem wd_M_table_79 : decode prog_8_method_8_code 79 = .ok (.bipush 8, 2) := by decide +kernel
theorem wd_M_table_81 : decode prog_8_method_8_code 81 = .ok (.iload_n 1, 1) := by decide +kernel
theorem wd_M_table_82 : decode prog_8_method_8_code 82 = .ok (.imul, 1) := by decide +kernel
theorem wd_M_table_83 : decode prog_8_method_8_code 83 = .ok (.aload_n 0, 1) := by decide +kernel
theorem wd_M_table_84 : decode prog_8_method_8_code 84 = .ok (.getfield 28, 3) := by decide +kernel
theorem wd_M_table_87 : decode prog_8_method_8_code 87 = .ok (.iload_n 1, 1) := by decide +kernel
theorem wd_M_table_88 : decode prog_8_method_8_code 88 = .ok (.iaload, 1) := by decide +kernel
theorem wd_M_table_89 : decode prog_8_method_8_code 89 = .ok (.iadd, 1) := by decide +kernel
theorem wd_M_table_90 : decode prog_8_method_8_code 90 = .ok (.istore 6, 2) := by decide +kernel
theorem wd_M_table_92 : decode prog_8_method_8_code 92 = .ok (.aload_n 0, 1) := by decide +kernel
theorem wd_M_table_93 : decode prog_8_method_8_code 93 = .ok (.getfield 31, 3) := by decide +kernel
theorem wd_M_table_96 : decode prog_8_method_8_code 96 = .ok (.iload 6, 2) := by decide +kernel
theorem wd_M_table_98 : decode prog_8_method_8_code 98 = .ok (.iload_n 2, 1) := by decide +kernel
theorem wd_M_table_99 : decode prog_8_method_8_code 99 = .ok (.iastore, 1) := by decide +kernel
theorem wd_M_table_100 : decode prog_8_method_8_code 100 = .ok (.aload_n 0, 1) := by decide +kernel
theorem wd_M_table_101 : decode prog_8_method_8_code 101 = .ok (.getfield 34, 3) := by decide +kernel
theorem wd_M_table_104 : decode prog_8_method_8_code 104 = .ok (.iload 6, 2) := by decide +kernel
theorem wd_M_table_106 : decode prog_8_method_8_code 106 = .ok (.iload_n 3, 1) := by decide +kernel
theorem wd_M_table_107 : decode prog_8_method_8_code 107 = .ok (.iastore, 1) := by decide +kernel
theorem wd_M_table_108 : decode prog_8_method_8_code 108 = .ok (.aload_n 0, 1) := by decide +kernel
theorem wd_M_table_109 : decode prog_8_method_8_code 109 = .ok (.getfield 37, 3) := by decide +kernel
theorem wd_M_table_112 : decode prog_8_method_8_code 112 = .ok (.iload 6, 2) := by decide +kernel
theorem wd_M_table_114 : decode prog_8_method_8_code 114 = .ok (.iload 4, 2) := by decide +kernel
theorem wd_M_table_116 : decode prog_8_method_8_code 116 = .ok (.iastore, 1) := by decide +kernel
theorem wd_M_table_117 : decode prog_8_method_8_code 117 = .ok (.aload_n 0, 1) := by decide +kernel
theorem wd_M_table_118 : decode prog_8_method_8_code 118 = .ok (.getfield 28, 3) := by decide +kernel
theorem wd_M_table_121 : decode prog_8_method_8_code 121 = .ok (.iload_n 1, 1) := by decide +kernel
theorem wd_M_table_122 : decode prog_8_method_8_code 122 = .ok (.dup2, 1) := by decide +kernel
theorem wd_M_table_123 : decode prog_8_method_8_code 123 = .ok (.iaload, 1) := by decide +kernel
theorem wd_M_table_124 : decode prog_8_method_8_code 124 = .ok (.iconst 1, 1) := by decide +kernel
theorem wd_M_table_125 : decode prog_8_method_8_code 125 = .ok (.iadd, 1) := by decide +kernel
theorem wd_M_table_126 : decode prog_8_method_8_code 126 = .ok (.iastore, 1) := by decide +kernel
theorem wd_M_table_127 : decode prog_8_method_8_code 127 = .ok (.aload_n 0, 1) := by decide +kernel
theorem wd_M_table_128 : decode prog_8_method_8_code 128 = .ok (.invokevirtual 90, 3) := by decide +kernel
theorem wd_M_table_131 : decode prog_8_method_8_code 131 = .ok (.aload_n 0, 1) := by decide +kernel
theorem wd_M_table_132 : decode prog_8_method_8_code 132 = .ok (.getfield 28, 3) := by decide +kernel
theorem wd_M_table_135 : decode prog_8_method_8_code 135 = .ok (.iload_n 1, 1) := by decide +kernel
theorem wd_M_table_136 : decode prog_8_method_8_code 136 = .ok (.iaload, 1) := by decide +kernel
theorem wd_M_table_137 : decode prog_8_method_8_code 137 = .ok (.ireturn, 1) := by decide +kernel
end
section

theorem wd_M_group_0 : decode prog_8_method_9_code 0 = .ok (.aload_n 0, 1) := by decide +kernel
theorem wd_M_group_1 : decode prog_8_method_9_code 1 = .ok (.iload_n 1, 1) := by decide +kernel
theorem wd_M_group_2 : decode prog_8_method_9_code 2 = .ok (.iconst 1, 1) := by decide +kernel
theorem wd_M_group_3 : decode prog_8_method_9_code 3 = .ok (.sipush 2000, 3) := by decide +kernel
theorem wd_M_group_6 : decode prog_8_method_9_code 6 = .ok (.invokestatic 82, 3) := by decide +kernel
theorem wd_M_group_9 : decode prog_8_method_9_code 9 = .ok (.ifCond .eq 29, 3) := by decide +kernel
theorem wd_M_group_12 : decode prog_8_method_9_code 12 = .ok (.iload_n 2, 1) := by decide +kernel
theorem wd_M_group_13 : decode prog_8_method_9_code 13 = .ok (.iload_n 1, 1) := by decide +kernel
theorem wd_M_group_14 : decode prog_8_method_9_code 14 = .ok (.sipush 2000, 3) := by decide +kernel
theorem wd_M_group_17 : decode prog_8_method_9_code 17 = .ok (.invokestatic 82, 3) := by decide +kernel
theorem wd_M_group_20 : decode prog_8_method_9_code 20 = .ok (.ifCond .eq 18, 3) := by decide +kernel
theorem wd_M_group_23 : decode prog_8_method_9_code 23 = .ok (.iload_n 3, 1) := by decide +kernel
theorem wd_M_group_24 : decode prog_8_method_9_code 24 = .ok (.iconst 1, 1) := by decide +kernel
theorem wd_M_group_25 : decode prog_8_method_9_code 25 = .ok (.sipush 1000, 3) := by decide +kernel
theorem wd_M_group_28 : decode prog_8_method_9_code 28 = .ok (.invokestatic 82, 3) := by decide +kernel
theorem wd_M_group_31 : decode prog_8_method_9_code 31 = .ok (.ifCond .eq 7, 3) := by decide +kernel
theorem wd_M_group_34 : decode prog_8_method_9_code 34 = .ok (.iconst 1, 1) := by decide +kernel
theorem wd_M_group_35 : decode prog_8_method_9_code 35 = .ok (.goto 4, 3) := by decide +kernel
theorem wd_M_group_38 : decode prog_8_method_9_code 38 = .ok (.iconst 0, 1) := by decide +kernel
theorem wd_M_group_39 : decode prog_8_method_9_code 39 = .ok (.aload_n 0, 1) := by decide +kernel
theorem wd_M_group_40 : decode prog_8_method_9_code 40 = .ok (.getfield 93, 3) := by decide +kernel
theorem wd_M_group_43 : decode prog_8_method_9_code 43 = .ok (.iconst 4, 1) := by decide +kernel
theorem wd_M_group_44 : decode prog_8_method_9_code 44 = .ok (.if_icmp .ge 7, 3) := by decide +kernel
theorem wd_M_group_47 : decode prog_8_method_9_code 47 = .ok (.iconst 1, 1) := by decide +kernel
theorem wd_M_group_48 : decode prog_8_method_9_code 48 = .ok (.goto 4, 3) := by decide +kernel
theorem wd_M_group_51 : decode prog_8_method_9_code 51 = .ok (.iconst 0, 1) := by decide +kernel
theorem wd_M_group_52 : decode prog_8_method_9_code 52 = .ok (.iconst 1, 1) := by decide +kernel
theorem wd_M_group_53 : decode prog_8_method_9_code 53 = .ok (.invokevirtual 86, 3) := by decide +kernel
theorem wd_M_group_56 : decode prog_8_method_9_code 56 = .ok (.ifCond .ne 5, 3) := by decide +kernel
theorem wd_M_group_59 : decode prog_8_method_9_code 59 = .ok (.iconst 0, 1) := by decide +kernel
theorem wd_M_group_60 : decode prog_8_method_9_code 60 = .ok (.ireturn, 1) := by decide +kernel
theorem wd_M_group_61 : decode prog_8_method_9_code 61 = .ok (.aload_n 0, 1) := by decide +kernel
theorem wd_M_group_62 : decode prog_8_method_9_code 62 = .ok (.getfield 40, 3) := by decide +kernel
theorem wd_M_group_65 : decode prog_8_method_9_code 65 = .ok (.aload_n 0, 1) := by decide +kernel
theorem wd_M_group_66 : decode prog_8_method_9_code 66 = .ok (.getfield 93, 3) := by decide +kernel
theorem wd_M_group_69 : decode prog_8_method_9_code 69 = .ok (.iload_n 1, 1) := by decide +kernel
theorem wd_M_group_70 : decode prog_8_method_9_code 70 = .ok (.iastore, 1) := by decide +kernel
theorem wd_M_group_71 : decode prog_8_method_9_code 71 = .ok (.aload_n 0, 1) := by decide +kernel
theorem wd_M_group_72 : decode prog_8_method_9_code 72 = .ok (.getfield 43, 3) := by decide +kernel
theorem wd_M_group_75 : decode prog_8_method_9_code 75 = .ok (.aload_n 0, 1) := by decide +kernel
theorem wd_M_group_76 : decode prog_8_method_9_code 76 = .ok (.getfield 93, 3) := by decide +kernel
theorem wd_M_group_79 : decode prog_8_method_9_code 79 = .ok (.iload_n 2, 1) := by decide +kernel
theorem wd_M_group_80 : decode prog_8_method_9_code 80 = .ok (.iastore, 1) := by decide +kernel
theorem wd_M_group_81 : decode prog_8_method_9_code 81 = .ok (.aload_n 0, 1) := by decide +kernel
theorem wd_M_group_82 : decode prog_8_method_9_code 82 = .ok (.getfield 46, 3) := by decide +kernel
theorem wd_M_group_85 : decode prog_8_method_9_code 85 = .ok (.aload_n 0, 1) := by decide +kernel
theorem wd_M_group_86 : decode prog_8_method_9_code 86 = .ok (.getfield 93, 3) := by decide +kernel
theorem wd_M_group_89 : decode prog_8_method_9_code 89 = .ok (.iload_n 3, 1) := by decide +kernel
theorem wd_M_group_90 : decode prog_8_method_9_code 90 = .ok (.iastore, 1) := by decide +kernel
theorem wd_M_group_91 : decode prog_8_method_9_code 91 = .ok (.aload_n 0, 1) := by decide +kernel
theorem wd_M_group_92 : decode prog_8_method_9_code 92 = .ok (.dup, 1) := by decide +kernel
theorem wd_M_group_93 : decode prog_8_method_9_code 93 = .ok (.getfield 93, 3) := by decide +kernel
theorem wd_M_group_96 : decode prog_8_method_9_code 96 = .ok (.iconst 1, 1) := by decide +kernel
theorem wd_M_group_97 : decode prog_8_method_9_code 97 = .ok (.iadd, 1) := by decide +kernel
theorem wd_M_group_98 : decode prog_8_method_9_code 98 = .ok (.putfield 93, 3) := by decide +kernel
theorem wd_M_group_101 : decode prog_8_method_9_code 101 = .ok (.aload_n 0, 1) := by decide +kernel
theorem wd_M_group_102 : decode prog_8_method_9_code 102 = .ok (.invokevirtual 90, 3) := by decide +kernel
theorem wd_M_group_105 : decode prog_8_method_9_code 105 = .ok (.aload_n 0, 1) := by decide +kernel
theorem wd_M_group_106 : decode prog_8_method_9_code 106 = .ok (.getfield 93, 3) := by decide +kernel
theorem wd_M_group_109 : decode prog_8_method_9_code 109 = .ok (.ireturn, 1) := by decide +kernel
end
section

theorem wd_M_urgent_0 : decode prog_8_method_10_code 0 = .ok (.aload_n 0, 1) := by decide +kernel
theorem wd_M_urgent_1 : decode prog_8_method_10_code 1 = .ok (.aload_n 0, 1) := by decide +kernel
theorem wd_M_urgent_2 : decode prog_8_method_10_code 2 = .ok (.iload_n 1, 1) := by decide +kernel
theorem wd_M_urgent_3 : decode prog_8_method_10_code 3 = .ok (.invokevirtual 96, 3) := by decide +kernel
theorem wd_M_urgent_6 : decode prog_8_method_10_code 6 = .ok (.iload_n 2, 1) := by decide +kernel
theorem wd_M_urgent_7 : decode prog_8_method_10_code 7 = .ok (.iconst 0, 1) := by decide +kernel
theorem wd_M_urgent_8 : decode prog_8_method_10_code 8 = .ok (.bipush 8, 2) := by decide +kernel
theorem wd_M_urgent_10 : decode prog_8_method_10_code 10 = .ok (.invokestatic 82, 3) := by decide +kernel
theorem wd_M_urgent_13 : decode prog_8_method_10_code 13 = .ok (.iconst 1, 1) := by decide +kernel
theorem wd_M_urgent_14 : decode prog_8_method_10_code 14 = .ok (.invokevirtual 86, 3) := by decide +kernel
theorem wd_M_urgent_17 : decode prog_8_method_10_code 17 = .ok (.ifCond .ne 4, 3) := by decide +kernel
theorem wd_M_urgent_20 : decode prog_8_method_10_code 20 = .ok (.return_, 1) := by decide +kernel
theorem wd_M_urgent_21 : decode prog_8_method_10_code 21 = .ok (.aload_n 0, 1) := by decide +kernel
theorem wd_M_urgent_22 : decode prog_8_method_10_code 22 = .ok (.getfield 22, 3) := by decide +kernel
theorem wd_M_urgent_25 : decode prog_8_method_10_code 25 = .ok (.iload_n 1, 1) := by decide +kernel
theorem wd_M_urgent_26 : decode prog_8_method_10_code 26 = .ok (.iload_n 2, 1) := by decide +kernel
theorem wd_M_urgent_27 : decode prog_8_method_10_code 27 = .ok (.iastore, 1) := by decide +kernel
theorem wd_M_urgent_28 : decode prog_8_method_10_code 28 = .ok (.aload_n 0, 1) := by decide +kernel
theorem wd_M_urgent_29 : decode prog_8_method_10_code 29 = .ok (.invokevirtual 90, 3) := by decide +kernel
theorem wd_M_urgent_32 : decode prog_8_method_10_code 32 = .ok (.return_, 1) := by decide +kernel
end
section

theorem wd_M_old_0 : decode prog_8_method_11_code 0 = .ok (.aload_n 0, 1) := by decide +kernel
theorem wd_M_old_1 : decode prog_8_method_11_code 1 = .ok (.aload_n 0, 1) := by decide +kernel
theorem wd_M_old_2 : decode prog_8_method_11_code 2 = .ok (.iload_n 1, 1) := by decide +kernel
theorem wd_M_old_3 : decode prog_8_method_11_code 3 = .ok (.invokevirtual 96, 3) := by decide +kernel
theorem wd_M_old_6 : decode prog_8_method_11_code 6 = .ok (.iload_n 2, 1) := by decide +kernel
theorem wd_M_old_7 : decode prog_8_method_11_code 7 = .ok (.iconst (-1), 1) := by decide +kernel
theorem wd_M_old_8 : decode prog_8_method_11_code 8 = .ok (.bipush 8, 2) := by decide +kernel
theorem wd_M_old_10 : decode prog_8_method_11_code 10 = .ok (.invokestatic 82, 3) := by decide +kernel
theorem wd_M_old_13 : decode prog_8_method_11_code 13 = .ok (.iconst 1, 1) := by decide +kernel
theorem wd_M_old_14 : decode prog_8_method_11_code 14 = .ok (.invokevirtual 86, 3) := by decide +kernel
theorem wd_M_old_17 : decode prog_8_method_11_code 17 = .ok (.ifCond .ne 4, 3) := by decide +kernel
theorem wd_M_old_20 : decode prog_8_method_11_code 20 = .ok (.return_, 1) := by decide +kernel
theorem wd_M_old_21 : decode prog_8_method_11_code 21 = .ok (.aload_n 0, 1) := by decide +kernel
theorem wd_M_old_22 : decode prog_8_method_11_code 22 = .ok (.getfield 25, 3) := by decide +kernel
theorem wd_M_old_25 : decode prog_8_method_11_code 25 = .ok (.iload_n 1, 1) := by decide +kernel
theorem wd_M_old_26 : decode prog_8_method_11_code 26 = .ok (.iload_n 2, 1) := by decide +kernel
theorem wd_M_old_27 : decode prog_8_method_11_code 27 = .ok (.iastore, 1) := by decide +kernel
theorem wd_M_old_28 : decode prog_8_method_11_code 28 = .ok (.aload_n 0, 1) := by decide +kernel
theorem wd_M_old_29 : decode prog_8_method_11_code 29 = .ok (.invokevirtual 90, 3) := by decide +kernel
theorem wd_M_old_32 : decode prog_8_method_11_code 32 = .ok (.return_, 1) := by decide +kernel
end
section

theorem wd_M_rules_0 : decode prog_8_method_12_code 0 = .ok (.aload_n 0, 1) := by decide +kernel
theorem wd_M_rules_1 : decode prog_8_method_12_code 1 = .ok (.iload_n 1, 1) := by decide +kernel
theorem wd_M_rules_2 : decode prog_8_method_12_code 2 = .ok (.iconst 0, 1) := by decide +kernel
theorem wd_M_rules_3 : decode prog_8_method_12_code 3 = .ok (.bipush 9, 2) := by decide +kernel
theorem wd_M_rules_5 : decode prog_8_method_12_code 5 = .ok (.invokestatic 82, 3) := by decide +kernel
theorem wd_M_rules_8 : decode prog_8_method_12_code 8 = .ok (.ifCond .eq 41, 3) := by decide +kernel
theorem wd_M_rules_11 : decode prog_8_method_12_code 11 = .ok (.iload_n 2, 1) := by decide +kernel
theorem wd_M_rules_12 : decode prog_8_method_12_code 12 = .ok (.iconst 1, 1) := by decide +kernel
theorem wd_M_rules_13 : decode prog_8_method_12_code 13 = .ok (.sipush 1000, 3) := by decide +kernel
theorem wd_M_rules_16 : decode prog_8_method_12_code 16 = .ok (.invokestatic 82, 3) := by decide +kernel
theorem wd_M_rules_19 : decode prog_8_method_12_code 19 = .ok (.ifCond .eq 30, 3) := by decide +kernel
theorem wd_M_rules_22 : decode prog_8_method_12_code 22 = .ok (.iload_n 3, 1) := by decide +kernel
theorem wd_M_rules_23 : decode prog_8_method_12_code 23 = .ok (.iconst 0, 1) := by decide +kernel
theorem wd_M_rules_24 : decode prog_8_method_12_code 24 = .ok (.sipush 10000, 3) := by decide +kernel
theorem wd_M_rules_27 : decode prog_8_method_12_code 27 = .ok (.invokestatic 82, 3) := by decide +kernel
theorem wd_M_rules_30 : decode prog_8_method_12_code 30 = .ok (.ifCond .eq 19, 3) := by decide +kernel
theorem wd_M_rules_33 : decode prog_8_method_12_code 33 = .ok (.iload 4, 2) := by decide +kernel
theorem wd_M_rules_35 : decode prog_8_method_12_code 35 = .ok (.iconst 0, 1) := by decide +kernel
theorem wd_M_rules_36 : decode prog_8_method_12_code 36 = .ok (.sipush 10000, 3) := by decide +kernel
theorem wd_M_rules_39 : decode prog_8_method_12_code 39 = .ok (.invokestatic 82, 3) := by decide +kernel
theorem wd_M_rules_42 : decode prog_8_method_12_code 42 = .ok (.ifCond .eq 7, 3) := by decide +kernel
theorem wd_M_rules_45 : decode prog_8_method_12_code 45 = .ok (.iconst 1, 1) := by decide +kernel
theorem wd_M_rules_46 : decode prog_8_method_12_code 46 = .ok (.goto 4, 3) := by decide +kernel
theorem wd_M_rules_49 : decode prog_8_method_12_code 49 = .ok (.iconst 0, 1) := by decide +kernel
theorem wd_M_rules_50 : decode prog_8_method_12_code 50 = .ok (.iconst 1, 1) := by decide +kernel
theorem wd_M_rules_51 : decode prog_8_method_12_code 51 = .ok (.iconst 1, 1) := by decide +kernel
theorem wd_M_rules_52 : decode prog_8_method_12_code 52 = .ok (.invokevirtual 86, 3) := by decide +kernel
theorem wd_M_rules_55 : decode prog_8_method_12_code 55 = .ok (.ifCond .ne 4, 3) := by decide +kernel
theorem wd_M_rules_58 : decode prog_8_method_12_code 58 = .ok (.return_, 1) := by decide +kernel
theorem wd_M_rules_59 : decode prog_8_method_12_code 59 = .ok (.aload_n 0, 1) := by decide +kernel
theorem wd_M_rules_60 : decode prog_8_method_12_code 60 = .ok (.iload_n 1, 1) := by decide +kernel
theorem wd_M_rules_61 : decode prog_8_method_12_code 61 = .ok (.putfield 49, 3) := by decide +kernel
theorem wd_M_rules_64 : decode prog_8_method_12_code 64 = .ok (.aload_n 0, 1) := by decide +kernel
theorem wd_M_rules_65 : decode prog_8_method_12_code 65 = .ok (.iload_n 2, 1) := by decide +kernel
theorem wd_M_rules_66 : decode prog_8_method_12_code 66 = .ok (.putfield 53, 3) := by decide +kernel
theorem wd_M_rules_69 : decode prog_8_method_12_code 69 = .ok (.aload_n 0, 1) := by decide +kernel
theorem wd_M_rules_70 : decode prog_8_method_12_code 70 = .ok (.iload_n 3, 1) := by decide +kernel
theorem wd_M_rules_71 : decode prog_8_method_12_code 71 = .ok (.putfield 56, 3) := by decide +kernel
theorem wd_M_rules_74 : decode prog_8_method_12_code 74 = .ok (.aload_n 0, 1) := by decide +kernel
theorem wd_M_rules_75 : decode prog_8_method_12_code 75 = .ok (.iload 4, 2) := by decide +kernel
theorem wd_M_rules_77 : decode prog_8_method_12_code 77 = .ok (.putfield 100, 3) := by decide +kernel
theorem wd_M_rules_80 : decode prog_8_method_12_code 80 = .ok (.aload_n 0, 1) := by decide +kernel
theorem wd_M_rules_81 : decode prog_8_method_12_code 81 = .ok (.invokevirtual 90, 3) := by decide +kernel
theorem wd_M_rules_84 : decode prog_8_method_12_code 84 = .ok (.return_, 1) := by decide +kernel
end
section

theorem wd_M_costOf_0 : decode prog_8_method_13_code 0 = .ok (.iload_n 2, 1) := by decide +kernel
theorem wd_M_costOf_1 : decode prog_8_method_13_code 1 = .ok (.ifCond .ge 8, 3) := by decide +kernel
theorem wd_M_costOf_4 : decode prog_8_method_13_code 4 = .ok (.iload_n 2, 1) := by decide +kernel
theorem wd_M_costOf_5 : decode prog_8_method_13_code 5 = .ok (.ineg, 1) := by decide +kernel
theorem wd_M_costOf_6 : decode prog_8_method_13_code 6 = .ok (.goto 4, 3) := by decide +kernel
theorem wd_M_costOf_9 : decode prog_8_method_13_code 9 = .ok (.iload_n 2, 1) := by decide +kernel
theorem wd_M_costOf_10 : decode prog_8_method_13_code 10 = .ok (.istore_n 3, 1) := by decide +kernel
theorem wd_M_costOf_11 : decode prog_8_method_13_code 11 = .ok (.bipush 8, 2) := by decide +kernel
theorem wd_M_costOf_13 : decode prog_8_method_13_code 13 = .ok (.iload_n 1, 1) := by decide +kernel
theorem wd_M_costOf_14 : decode prog_8_method_13_code 14 = .ok (.imul, 1) := by decide +kernel
theorem wd_M_costOf_15 : decode prog_8_method_13_code 15 = .ok (.istore 4, 2) := by decide +kernel
theorem wd_M_costOf_17 : decode prog_8_method_13_code 17 = .ok (.iload 4, 2) := by decide +kernel
theorem wd_M_costOf_19 : decode prog_8_method_13_code 19 = .ok (.bipush 8, 2) := by decide +kernel
theorem wd_M_costOf_21 : decode prog_8_method_13_code 21 = .ok (.iload_n 1, 1) := by decide +kernel
theorem wd_M_costOf_22 : decode prog_8_method_13_code 22 = .ok (.imul, 1) := by decide +kernel
theorem wd_M_costOf_23 : decode prog_8_method_13_code 23 = .ok (.aload_n 0, 1) := by decide +kernel
theorem wd_M_costOf_24 : decode prog_8_method_13_code 24 = .ok (.getfield 28, 3) := by decide +kernel
theorem wd_M_costOf_27 : decode prog_8_method_13_code 27 = .ok (.iload_n 1, 1) := by decide +kernel
theorem wd_M_costOf_28 : decode prog_8_method_13_code 28 = .ok (.iaload, 1) := by decide +kernel
theorem wd_M_costOf_29 : decode prog_8_method_13_code 29 = .ok (.iadd, 1) := by decide +kernel
theorem wd_M_costOf_30 : decode prog_8_method_13_code 30 = .ok (.if_icmp .ge 39, 3) := by decide +kernel
theorem wd_M_costOf_33 : decode prog_8_method_13_code 33 = .ok (.iload_n 3, 1) := by decide +kernel
theorem wd_M_costOf_34 : decode prog_8_method_13_code 34 = .ok (.aload_n 0, 1) := by decide +kernel
theorem wd_M_costOf_35 : decode prog_8_method_13_code 35 = .ok (.getfield 31, 3) := by decide +kernel
theorem wd_M_costOf_38 : decode prog_8_method_13_code 38 = .ok (.iload 4, 2) := by decide +kernel
theorem wd_M_costOf_40 : decode prog_8_method_13_code 40 = .ok (.iaload, 1) := by decide +kernel
theorem wd_M_costOf_41 : decode prog_8_method_13_code 41 = .ok (.if_icmp .lt 22, 3) := by decide +kernel
theorem wd_M_costOf_44 : decode prog_8_method_13_code 44 = .ok (.iload_n 3, 1) := by decide +kernel
theorem wd_M_costOf_45 : decode prog_8_method_13_code 45 = .ok (.aload_n 0, 1) := by decide +kernel
theorem wd_M_costOf_46 : decode prog_8_method_13_code 46 = .ok (.getfield 34, 3) := by decide +kernel
theorem wd_M_costOf_49 : decode prog_8_method_13_code 49 = .ok (.iload 4, 2) := by decide +kernel
theorem wd_M_costOf_51 : decode prog_8_method_13_code 51 = .ok (.iaload, 1) := by decide +kernel
theorem wd_M_costOf_52 : decode prog_8_method_13_code 52 = .ok (.if_icmp .gt 11, 3) := by decide +kernel
theorem wd_M_costOf_55 : decode prog_8_method_13_code 55 = .ok (.aload_n 0, 1) := by decide +kernel
theorem wd_M_costOf_56 : decode prog_8_method_13_code 56 = .ok (.getfield 37, 3) := by decide +kernel
theorem wd_M_costOf_59 : decode prog_8_method_13_code 59 = .ok (.iload 4, 2) := by decide +kernel
theorem wd_M_costOf_61 : decode prog_8_method_13_code 61 = .ok (.iaload, 1) := by decide +kernel
theorem wd_M_costOf_62 : decode prog_8_method_13_code 62 = .ok (.ireturn, 1) := by decide +kernel
theorem wd_M_costOf_63 : decode prog_8_method_13_code 63 = .ok (.iinc 4 1, 3) := by decide +kernel
theorem wd_M_costOf_66 : decode prog_8_method_13_code 66 = .ok (.goto (-49), 3) := by decide +kernel
theorem wd_M_costOf_69 : decode prog_8_method_13_code 69 = .ok (.aload_n 0, 1) := by decide +kernel
theorem wd_M_costOf_70 : decode prog_8_method_13_code 70 = .ok (.getfield 28, 3) := by decide +kernel
theorem wd_M_costOf_73 : decode prog_8_method_13_code 73 = .ok (.iload_n 1, 1) := by decide +kernel
theorem wd_M_costOf_74 : decode prog_8_method_13_code 74 = .ok (.iaload, 1) := by decide +kernel
theorem wd_M_costOf_75 : decode prog_8_method_13_code 75 = .ok (.ifCond .ne 7, 3) := by decide +kernel
theorem wd_M_costOf_78 : decode prog_8_method_13_code 78 = .ok (.iconst 0, 1) := by decide +kernel
theorem wd_M_costOf_79 : decode prog_8_method_13_code 79 = .ok (.goto 4, 3) := by decide +kernel
theorem wd_M_costOf_82 : decode prog_8_method_13_code 82 = .ok (.iconst (-1), 1) := by decide +kernel
theorem wd_M_costOf_83 : decode prog_8_method_13_code 83 = .ok (.ireturn, 1) := by decide +kernel
end
section

theorem wd_M_jumpOf_0 : decode prog_8_method_14_code 0 = .ok (.aload_n 0, 1) := by decide +kernel
theorem wd_M_jumpOf_1 : decode prog_8_method_14_code 1 = .ok (.iconst 0, 1) := by decide +kernel
theorem wd_M_jumpOf_2 : decode prog_8_method_14_code 2 = .ok (.aload_n 0, 1) := by decide +kernel
theorem wd_M_jumpOf_3 : decode prog_8_method_14_code 3 = .ok (.getfield 16, 3) := by decide +kernel
theorem wd_M_jumpOf_6 : decode prog_8_method_14_code 6 = .ok (.iload_n 2, 1) := by decide +kernel
theorem wd_M_jumpOf_7 : decode prog_8_method_14_code 7 = .ok (.iaload, 1) := by decide +kernel
theorem wd_M_jumpOf_8 : decode prog_8_method_14_code 8 = .ok (.aload_n 0, 1) := by decide +kernel
theorem wd_M_jumpOf_9 : decode prog_8_method_14_code 9 = .ok (.getfield 16, 3) := by decide +kernel
theorem wd_M_jumpOf_12 : decode prog_8_method_14_code 12 = .ok (.iload_n 1, 1) := by decide +kernel
theorem wd_M_jumpOf_13 : decode prog_8_method_14_code 13 = .ok (.iaload, 1) := by decide +kernel
theorem wd_M_jumpOf_14 : decode prog_8_method_14_code 14 = .ok (.isub, 1) := by decide +kernel
theorem wd_M_jumpOf_15 : decode prog_8_method_14_code 15 = .ok (.invokevirtual 103, 3) := by decide +kernel
theorem wd_M_jumpOf_18 : decode prog_8_method_14_code 18 = .ok (.istore_n 3, 1) := by decide +kernel
theorem wd_M_jumpOf_19 : decode prog_8_method_14_code 19 = .ok (.aload_n 0, 1) := by decide +kernel
theorem wd_M_jumpOf_20 : decode prog_8_method_14_code 20 = .ok (.iconst 1, 1) := by decide +kernel
theorem wd_M_jumpOf_21 : decode prog_8_method_14_code 21 = .ok (.aload_n 0, 1) := by decide +kernel
theorem wd_M_jumpOf_22 : decode prog_8_method_14_code 22 = .ok (.getfield 13, 3) := by decide +kernel
theorem wd_M_jumpOf_25 : decode prog_8_method_14_code 25 = .ok (.iload_n 2, 1) := by decide +kernel
theorem wd_M_jumpOf_26 : decode prog_8_method_14_code 26 = .ok (.iaload, 1) := by decide +kernel
theorem wd_M_jumpOf_27 : decode prog_8_method_14_code 27 = .ok (.aload_n 0, 1) := by decide +kernel
theorem wd_M_jumpOf_28 : decode prog_8_method_14_code 28 = .ok (.getfield 13, 3) := by decide +kernel
theorem wd_M_jumpOf_31 : decode prog_8_method_14_code 31 = .ok (.iload_n 1, 1) := by decide +kernel
theorem wd_M_jumpOf_32 : decode prog_8_method_14_code 32 = .ok (.iaload, 1) := by decide +kernel
theorem wd_M_jumpOf_33 : decode prog_8_method_14_code 33 = .ok (.isub, 1) := by decide +kernel
theorem wd_M_jumpOf_34 : decode prog_8_method_14_code 34 = .ok (.invokevirtual 103, 3) := by decide +kernel
theorem wd_M_jumpOf_37 : decode prog_8_method_14_code 37 = .ok (.istore 4, 2) := by decide +kernel
theorem wd_M_jumpOf_39 : decode prog_8_method_14_code 39 = .ok (.iload_n 3, 1) := by decide +kernel
theorem wd_M_jumpOf_40 : decode prog_8_method_14_code 40 = .ok (.ifCond .lt 8, 3) := by decide +kernel
theorem wd_M_jumpOf_43 : decode prog_8_method_14_code 43 = .ok (.iload 4, 2) := by decide +kernel
theorem wd_M_jumpOf_45 : decode prog_8_method_14_code 45 = .ok (.ifCond .ge 7, 3) := by decide +kernel
theorem wd_M_jumpOf_48 : decode prog_8_method_14_code 48 = .ok (.iconst (-1), 1) := by decide +kernel
theorem wd_M_jumpOf_49 : decode prog_8_method_14_code 49 = .ok (.goto 7, 3) := by decide +kernel
theorem wd_M_jumpOf_52 : decode prog_8_method_14_code 52 = .ok (.iload_n 3, 1) := by decide +kernel
theorem wd_M_jumpOf_53 : decode prog_8_method_14_code 53 = .ok (.iload 4, 2) := by decide +kernel
theorem wd_M_jumpOf_55 : decode prog_8_method_14_code 55 = .ok (.iadd, 1) := by decide +kernel
theorem wd_M_jumpOf_56 : decode prog_8_method_14_code 56 = .ok (.ireturn, 1) := by decide +kernel
end
