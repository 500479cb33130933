section

theorem wd_M_table_0 : decode prog_8_method_8_code 0 = .ok (.iload_n 1, 1) := by decide +kernel
theorem wd_M_table_1 : decode prog_8_method_8_code 1 = .ok (.iconst 0, 1) := by decide +kernel
theorem wd_M_table_2 : decode prog_8_method_8_code 2 = .ok (.iconst 1, 1) := by decide +kernel
theorem wd_M_table_3 : decode prog_8_method_8_code 3 = .ok (.invokestatic 82, 3) := by decide +kernel
theorem wd_M_table_6 : decode prog_8_method_8_code 6 = .ok (.istore 5, 2) := by decide +kernel
theorem wd_M_table_8 : decode prog_8_method_8_code 8 = .ok (.aload_n 0, 1) := by decide +kernel
theorem wd_M_table_9 : decode prog_8_method_8_code 9 = .ok (.iload 5, 2) := by decide +kernel
theorem wd_M_table_11 : decode prog_8_method_8_code 11 = .ok (.iload_n 2, 1) := by decide +kernel
theorem wd_M_table_12 : decode prog_8_method_8_code 12 = .ok (.iconst 0, 1) := by decide +kernel
theorem wd_M_table_13 : decode prog_8_method_8_code 13 = .ok (.sipush 1000, 3) := by decide +kernel
theorem wd_M_table_16 : decode prog_8_method_8_code 16 = .ok (.invokestatic 82, 3) := by decide +kernel
theorem wd_M_table_19 : decode prog_8_method_8_code 19 = .ok (.ifCond .eq 30, 3) := by decide +kernel
theorem wd_M_table_22 : decode prog_8_method_8_code 22 = .ok (.iload_n 3, 1) := by decide +kernel
theorem wd_M_table_23 : decode prog_8_method_8_code 23 = .ok (.iload_n 2, 1) := by decide +kernel
theorem wd_M_table_24 : decode prog_8_method_8_code 24 = .ok (.sipush 1000, 3) := by decide +kernel
theorem wd_M_table_27 : decode prog_8_method_8_code 27 = .ok (.invokestatic 82, 3) := by decide +kernel
theorem wd_M_table_30 : decode prog_8_method_8_code 30 = .ok (.ifCond .eq 19, 3) := by decide +kernel
theorem wd_M_table_33 : decode prog_8_method_8_code 33 = .ok (.iload 4, 2) := by decide +kernel
theorem wd_M_table_35 : decode prog_8_method_8_code 35 = .ok (.iconst 0, 1) := by decide +kernel
theorem wd_M_table_36 : decode prog_8_method_8_code 36 = .ok (.sipush 10000, 3) := by decide +kernel
theorem wd_M_table_39 : decode prog_8_method_8_code 39 = .ok (.invokestatic 82, 3) := by decide +kernel
theorem wd_M_table_42 : decode prog_8_method_8_code 42 = .ok (.ifCond .eq 7, 3) := by decide +kernel
theorem wd_M_table_45 : decode prog_8_method_8_code 45 = .ok (.iconst 1, 1) := by decide +kernel
theorem wd_M_table_46 : decode prog_8_method_8_code 46 = .ok (.goto 4, 3) := by decide +kernel
theorem wd_M_table_49 : decode prog_8_method_8_code 49 = .ok (.iconst 0, 1) := by decide +kernel
theorem wd_M_table_50 : decode prog_8_method_8_code 50 = .ok (.iload 5, 2) := by decide +kernel
theorem wd_M_table_52 : decode prog_8_method_8_code 52 = .ok (.ifCond .eq 18, 3) := by decide +kernel
theorem wd_M_table_55 : decode prog_8_method_8_code 55 = .ok (.aload_n 0, 1) := by decide +kernel
theorem wd_M_table_56 : decode prog_8_method_8_code 56 = .ok (.getfield 28, 3) := by decide +kernel
theorem wd_M_table_59 : decode prog_8_method_8_code 59 = .ok (.iload_n 1, 1) := by decide +kernel
theorem wd_M_table_60 : decode prog_8_method_8_code 60 = .ok (.iaload, 1) := by decide +kernel
theorem wd_M_table_61 : decode prog_8_method_8_code 61 = .ok (.bipush 8, 2) := by decide +kernel
theorem wd_M_table_63 : decode prog_8_method_8_code 63 = .ok (.if_icmp .ge 7, 3) := by decide +kernel
theorem wd_M_table_66 : decode prog_8_method_8_code 66 = .ok (.iconst 1, 1) := by decide +kernel
theorem wd_M_table_67 : decode prog_8_method_8_code 67 = .ok (.goto 4, 3) := by decide +kernel
theorem wd_M_table_70 : decode prog_8_method_8_code 70 = .ok (.iconst 0, 1) := by decide +kernel
theorem wd_M_table_71 : decode prog_8_method_8_code 71 = .ok (.invokevirtual 86, 3) := by decide +kernel
theorem wd_M_table_74 : decode prog_8_method_8_code 74 = .ok (.ifCond .ne 5, 3) := by decide +kernel
theorem wd_M_table_77 : decode prog_8_method_8_code 77 = .ok (.iconst 0, 1) := by decide +kernel
theorem wd_M_table_78 : decode prog_8_method_8_code 78 = .ok (.ireturn, 1) := by decide +kernel
theorem wd_M_table_79 : decode prog_8_method_8_code 79 = .ok (.bipush 8, 2) := by decide +kernel
theorem wd_M_table_81 : decode prog_8_method_8_code 81 = .ok (.iload_n 1, 1) := by decide +kernel
theorem wd_M_table_82 : decode prog_8_method_8_code 82 = .ok (.imul, 1) := by decide +kernel
theorem wd_M_table_83 : decode prog_8_method_8_code 83 = .ok (.aload_n 0, 1) := by decide +kernel
theorem wd_M_table_84 : decode prog_8_method_8_code 84 = .ok (.getfield 28, 3) := by decide +kernel
theorem wd_M_table_87 : decode prog_8_method_8_code 87 = .ok (.iload_n 1, 1) := by decide +kernel
theorem wd_M_table_88 : decode prog_8_method_8_code 88 = .ok (.iaload, 1) := by decide +kernel
theorem wd_M_table_89 : decode prog_8_method_8_code 89 = .ok (.iadd, 1) := by decide +kernel
theorem wd_M_table_90 : decode prog_8_method_8_code 90 = .ok (.istore 6, 2) := by decide +kernel
theorem wd_M_table_92 : decode prog_8_method_8_code 92 = .ok (.aload_n 0, 1) := by decide +kernel
theorem wd_M_table_93 : decode prog_8_method_8_code 93 = .ok (.getfield 31, 3) := by decide +kernel
theorem wd_M_table_96 : decode prog_8_method_8_code 96 = .ok (.iload 6, 2) := by decide +kernel
theorem wd_M_table_98 : decode prog_8_method_8_code 98 = .ok (.iload_n 2, 1) := by decide +kernel
theorem wd_M_table_99 : decode prog_8_method_8_code 99 = .ok (.iastore, 1) := by decide +kernel
theorem wd_M_table_100 : decode prog_8_method_8_code 100 = .ok (.aload_n 0, 1) := by decide +kernel
theorem wd_M_table_101 : decode prog_8_method_8_code 101 = .ok (.getfield 34, 3) := by decide +kernel
theorem wd_M_table_104 : decode prog_8_method_8_code 104 = .ok (.iload 6, 2) := by decide +kernel
theorem wd_M_table_106 : decode prog_8_method_8_code 106 = .ok (.iload_n 3, 1) := by decide +kernel
theorem wd_M_table_107 : decode prog_8_method_8_code 107 = .ok (.iastore, 1) := by decide +kernel
theorem wd_M_table_108 : decode prog_8_method_8_code 108 = .ok (.aload_n 0, 1) := by decide +kernel
theorem wd_M_table_109 : decode prog_8_method_8_code 109 = .ok (.getfield 37, 3) := by decide +kernel
theorem wd_M_table_112 : decode prog_8_method_8_code 112 = .ok (.iload 6, 2) := by decide +kernel
theorem wd_M_table_114 : decode prog_8_method_8_code 114 = .ok (.iload 4, 2) := by decide +kernel
theorem wd_M_table_116 : decode prog_8_method_8_code 116 = .ok (.iastore, 1) := by decide +kernel
theorem wd_M_table_117 : decode prog_8_method_8_code 117 = .ok (.aload_n 0, 1) := by decide +kernel
theorem wd_M_table_118 : decode prog_8_method_8_code 118 = .ok (.getfield 28, 3) := by decide +kernel
theorem wd_M_table_121 : decode prog_8_method_8_code 121 = .ok (.iload_n 1, 1) := by decide +kernel
theorem wd_M_table_122 : decode prog_8_method_8_code 122 = .ok (.dup2, 1) := by decide +kernel
theorem wd_M_table_123 : decode prog_8_method_8_code 123 = .ok (.iaload, 1) := by decide +kernel
theorem wd_M_table_124 : decode prog_8_method_8_code 124 = .ok (.iconst 1, 1) := by decide +kernel
theorem wd_M_table_125 : decode prog_8_method_8_code 125 = .ok (.iadd, 1) := by decide +kernel
theorem wd_M_table_126 : decode prog_8_method_8_code 126 = .ok (.iastore, 1) := by decide +kernel
theorem wd_M_table_127 : decode prog_8_method_8_code 127 = .ok (.aload_n 0, 1) := by decide +kernel
theorem wd_M_table_128 : decode prog_8_method_8_code 128 = .ok (.invokevirtual 90, 3) := by decide +kernel
theorem wd_M_table_131 : decode prog_8_method_8_code 131 = .ok (.aload_n 0, 1) := by decide +kernel
theorem wd_M_table_132 : decode prog_8_method_8_code 132 = .ok (.getfield 28, 3) := by decide +kernel
theorem wd_M_table_135 : decode prog_8_method_8_code 135 = .ok (.iload_n 1, 1) := by decide +kernel
theorem wd_M_table_136 : decode prog_8_method_8_code 136 = .ok (.iaload, 1) := by decide +kernel
theorem wd_M_table_137 : decode prog_8_method_8_code 137 = .ok (.ireturn, 1) := by decide +kernel
end
section

theorem wd_M_group_0 : decode prog_8_method_9_code 0 = .ok (.aload_n 0, 1) := by decide +kernel
theorem wd_M_group_1 : decode prog_8_method_9_code 1 = .ok (.iload_n 1, 1) := by decide +kernel
theorem wd_M_group_2 : decode prog_8_method_9_code 2 = .ok (.iconst 1, 1) := by decide +kernel
theorem wd_M_group_3 : decode prog_8_method_9_code 3 = .ok (.sipush 2000, 3) := by decide +kernel
theorem wd_M_group_6 : decode prog_8_method_9_code 6 = .ok (.invokestatic 82, 3) := by decide +kernel
theorem wd_M_group_9 : decode prog_8_method_9_code 9 = .ok (.ifCond .eq 29, 3) := by decide +kernel
theorem wd_M_group_12 : decode prog_8_method_9_code 12 = .ok (.iload_n 2, 1) := by decide +kernel
theorem wd_M_group_13 : decode prog_8_method_9_code 13 = .ok (.iload_n 1, 1) := by decide +kernel
theorem wd_M_group_14 : decode prog_8_method_9_code 14 = .ok (.sipush 2000, 3) := by decide +kernel
theorem wd_M_group_17 : decode prog_8_method_9_code 17 = .ok (.invokestatic 82, 3) := by decide +kernel
theorem wd_M_group_20 : decode prog_8_method_9_code 20 = .ok (.ifCond .eq 18, 3) := by decide +kernel
theorem wd_M_group_23 : decode prog_8_method_9_code 23 = .ok (.iload_n 3, 1) := by decide +kernel
theorem wd_M_group_24 : decode prog_8_method_9_code 24 = .ok (.iconst 1, 1) := by decide +kernel
theorem wd_M_group_25 : decode prog_8_method_9_code 25 = .ok (.sipush 1000, 3) := by decide +kernel
theorem wd_M_group_28 : decode prog_8_method_9_code 28 = .ok (.invokestatic 82, 3) := by decide +kernel
theorem wd_M_group_31 : decode prog_8_method_9_code 31 = .ok (.ifCond .eq 7, 3) := by decide +kernel
theorem wd_M_group_34 : decode prog_8_method_9_code 34 = .ok (.iconst 1, 1) := by decide +kernel
theorem wd_M_group_35 : decode prog_8_method_9_code 35 = .ok (.goto 4, 3) := by decide +kernel
theorem wd_M_group_38 : decode prog_8_method_9_code 38 = .ok (.iconst 0, 1) := by decide +kernel
theorem wd_M_group_39 : decode prog_8_method_9_code 39 = .ok (.aload_n 0, 1) := by decide +kernel
theorem wd_M_group_40 : decode prog_8_method_9_code 40 = .ok (.getfield 93, 3) := by decide +kernel
theorem wd_M_group_43 : decode prog_8_method_9_code 43 = .ok (.iconst 4, 1) := by decide +kernel
theorem wd_M_group_44 : decode prog_8_method_9_code 44 = .ok (.if_icmp .ge 7, 3) := by decide +kernel
theorem wd_M_group_47 : decode prog_8_method_9_code 47 = .ok (.iconst 1, 1) := by decide +kernel
theorem wd_M_group_48 : decode prog_8_method_9_code 48 = .ok (.goto 4, 3) := by decide +kernel
theorem wd_M_group_51 : decode prog_8_method_9_code 51 = .ok (.iconst 0, 1) := by decide +kernel
theorem wd_M_group_52 : decode prog_8_method_9_code 52 = .ok (.iconst 1, 1) := by decide +kernel
theorem wd_M_group_53 : decode prog_8_method_9_code 53 = .ok (.invokevirtual 86, 3) := by decide +kernel
theorem wd_M_group_56 : decode prog_8_method_9_code 56 = .ok (.ifCond .ne 5, 3) := by decide +kernel
theorem wd_M_group_59 : decode prog_8_method_9_code 59 = .ok (.iconst 0, 1) := by decide +kernel
theorem wd_M_group_60 : decode prog_8_method_9_code 60 = .ok (.ireturn, 1) := by decide +kernel
theorem wd_M_group_61 : decode prog_8_method_9_code 61 = .ok (.aload_n 0, 1) := by decide +kernel
theorem wd_M_group_62 : decode prog_8_method_9_code 62 = .ok (.getfield 40, 3) := by decide +kernel
theorem wd_M_group_65 : decode prog_8_method_9_code 65 = .ok (.aload_n 0, 1) := by decide +kernel
theorem wd_M_group_66 : decode prog_8_method_9_code 66 = .ok (.getfield 93, 3) := by decide +kernel
theorem wd_M_group_69 : decode prog_8_method_9_code 69 = .ok (.iload_n 1, 1) := by decide +kernel
theorem wd_M_group_70 : decode prog_8_method_9_code 70 = .ok (.iastore, 1) := by decide +kernel
theorem wd_M_group_71 : decode prog_8_method_9_code 71 = .ok (.aload_n 0, 1) := by decide +kernel
theorem wd_M_group_72 : decode prog_8_method_9_code 72 = .ok (.getfield 43, 3) := by decide +kernel
theorem wd_M_group_75 : decode prog_8_method_9_code 75 = .ok (.aload_n 0, 1) := by decide +kernel
theorem wd_M_group_76 : decode prog_8_method_9_code 76 = .ok (.getfield 93, 3) := by decide +kernel
theorem wd_M_group_79 : decode prog_8_method_9_code 79 = .ok (.iload_n 2, 1) := by decide +kernel
theorem wd_M_group_80 : decode prog_8_method_9_code 80 = .ok (.iastore, 1) := by decide +kernel
theorem wd_M_group_81 : decode prog_8_method_9_code 81 = .ok (.aload_n 0, 1) := by decide +kernel
theorem wd_M_group_82 : decode prog_8_method_9_code 82 = .ok (.getfield 46, 3) := by decide +kernel
theorem wd_M_group_85 : decode prog_8_method_9_code 85 = .ok (.aload_n 0, 1) := by decide +kernel
theorem wd_M_group_86 : decode prog_8_method_9_code 86 = .ok (.getfield 93, 3) := by decide +kernel
theorem wd_M_group_89 : decode prog_8_method_9_code 89 = .ok (.iload_n 3, 1) := by decide +kernel
theorem wd_M_group_90 : decode prog_8_method_9_code 90 = .ok (.iastore, 1) := by decide +kernel
theorem wd_M_group_91 : decode prog_8_method_9_code 91 = .ok (.aload_n 0, 1) := by decide +kernel
theorem wd_M_group_92 : decode prog_8_method_9_code 92 = .ok (.dup, 1) := by decide +kernel
theorem wd_M_group_93 : decode prog_8_method_9_code 93 = .ok (.getfield 93, 3) := by decide +kernel
theorem wd_M_group_96 : decode prog_8_method_9_code 96 = .ok (.iconst 1, 1) := by decide +kernel
theorem wd_M_group_97 : decode prog_8_method_9_code 97 = .ok (.iadd, 1) := by decide +kernel
theorem wd_M_group_98 : decode prog_8_method_9_code 98 = .ok (.putfield 93, 3) := by decide +kernel
theorem wd_M_group_101 : decode prog_8_method_9_code 101 = .ok (.aload_n 0, 1) := by decide +kernel
theorem wd_M_group_102 : decode prog_8_method_9_code 102 = .ok (.invokevirtual 90, 3) := by decide +kernel
theorem wd_M_group_105 : decode prog_8_method_9_code 105 = .ok (.aload_n 0, 1) := by decide +kernel
theorem wd_M_group_106 : decode prog_8_method_9_code 106 = .ok (.getfield 93, 3) := by decide +kernel
theorem wd_M_group_109 : decode prog_8_method_9_code 109 = .ok (.ireturn, 1) := by decide +kernel
end
section

theorem wd_M_urgent_0 : decode prog_8_method_10_code 0 = .ok (.aload_n 0, 1) := by decide +kernel
theorem wd_M_urgent_1 : decode prog_8_method_10_code 1 = .ok (.aload_n 0, 1) := by decide +kernel
theorem wd_M_urgent_2 : decode prog_8_method_10_code 2 = .ok (.iload_n 1, 1) := by decide +kernel
theorem wd_M_urgent_3 : decode prog_8_method_10_code 3 = .ok (.invokevirtual 96, 3) := by decide +kernel
theorem wd_M_urgent_6 : decode prog_8_method_10_code 6 = .ok (.iload_n 2, 1) := by decide +kernel
theorem wd_M_urgent_7 : decode prog_8_method_10_code 7 = .ok (.iconst 0, 1) := by decide +kernel
theorem wd_M_urgent_8 : decode prog_8_method_10_code 8 = .ok (.bipush 8, 2) := by decide +kernel
theorem wd_M_urgent_10 : decode prog_8_method_10_code 10 = .ok (.invokestatic 82, 3) := by decide +kernel
theorem wd_M_urgent_13 : decode prog_8_method_10_code 13 = .ok (.iconst 1, 1) := by decide +kernel
theorem wd_M_urgent_14 : decode prog_8_method_10_code 14 = .ok (.invokevirtual 86, 3) := by decide +kernel
theorem wd_M_urgent_17 : decode prog_8_method_10_code 17 = .ok (.ifCond .ne 4, 3) := by decide +kernel
theorem wd_M_urgent_20 : decode prog_8_method_10_code 20 = .ok (.return_, 1) := by decide +kernel
theorem wd_M_urgent_21 : decode prog_8_method_10_code 21 = .ok (.aload_n 0, 1) := by decide +kernel
theorem wd_M_urgent_22 : decode prog_8_method_10_code 22 = .ok (.getfield 22, 3) := by decide +kernel
theorem wd_M_urgent_25 : decode prog_8_method_10_code 25 = .ok (.iload_n 1, 1) := by decide +kernel
theorem wd_M_urgent_26 : decode prog_8_method_10_code 26 = .ok (.iload_n 2, 1) := by decide +kernel
theorem wd_M_urgent_27 : decode prog_8_method_10_code 27 = .ok (.iastore, 1) := by decide +kernel
theorem wd_M_urgent_28 : decode prog_8_method_10_code 28 = .ok (.aload_n 0, 1) := by decide +kernel
theorem wd_M_urgent_29 : decode prog_8_method_10_code 29 = .ok (.invokevirtual 90, 3) := by decide +kernel
theorem wd_M_urgent_32 : decode prog_8_method_10_code 32 = .ok (.return_, 1) := by decide +kernel
end
section

theorem wd_M_old_0 : decode prog_8_method_11_code 0 = .ok (.aload_n 0, 1) := by decide +kernel
theorem wd_M_old_1 : decode prog_8_method_11_code 1 = .ok (.aload_n 0, 1) := by decide +kernel
theorem wd_M_old_2 : decode prog_8_method_11_code 2 = .ok (.iload_n 1, 1) := by decide +kernel
theorem wd_M_old_3 : decode prog_8_method_11_code 3 = .ok (.invokevirtual 96, 3) := by decide +kernel
theorem wd_M_old_6 : decode prog_8_method_11_code 6 = .ok (.iload_n 2, 1) := by decide +kernel
theorem wd_M_old_7 : decode prog_8_method_11_code 7 = .ok (.iconst (-1), 1) := by decide +kernel
theorem wd_M_old_8 : decode prog_8_method_11_code 8 = .ok (.bipush 8, 2) := by decide +kernel
theorem wd_M_old_10 : decode prog_8_method_11_code 10 = .ok (.invokestatic 82, 3) := by decide +kernel
theorem wd_M_old_13 : decode prog_8_method_11_code 13 = .ok (.iconst 1, 1) := by decide +kernel
theorem wd_M_old_14 : decode prog_8_method_11_code 14 = .ok (.invokevirtual 86, 3) := by decide +kernel
theorem wd_M_old_17 : decode prog_8_method_11_code 17 = .ok (.ifCond .ne 4, 3) := by decide +kernel
theorem wd_M_old_20 : decode prog_8_method_11_code 20 = .ok (.return_, 1) := by decide +kernel
theorem wd_M_old_21 : decode prog_8_method_11_code 21 = .ok (.aload_n 0, 1) := by decide +kernel
theorem wd_M_old_22 : decode prog_8_method_11_code 22 = .ok (.getfield 25, 3) := by decide +kernel
theorem wd_M_old_25 : decode prog_8_method_11_code 25 = .ok (.iload_n 1, 1) := by decide +kernel
theorem wd_M_old_26 : decode prog_8_method_11_code 26 = .ok (.iload_n 2, 1) := by decide +kernel
theorem wd_M_old_27 : decode prog_8_method_11_code 27 = .ok (.iastore, 1) := by decide +kernel
theorem wd_M_old_28 : decode prog_8_method_11_code 28 = .ok (.aload_n 0, 1) := by decide +kernel
theorem wd_M_old_29 : decode prog_8_method_11_code 29 = .ok (.invokevirtual 90, 3) := by decide +kernel
theorem wd_M_old_32 : decode prog_8_method_11_code 32 = .ok (.return_, 1) := by decide +kernel
end
section

theorem wd_M_rules_0 : decode prog_8_method_12_code 0 = .ok (.aload_n 0, 1) := by decide +kernel
theorem wd_M_rules_1 : decode prog_8_method_12_code 1 = .ok (.iload_n 1, 1) := by decide +kernel
theorem wd_M_rules_2 : decode prog_8_method_12_code 2 = .ok (.iconst 0, 1) := by decide +kernel
theorem wd_M_rules_3 : decode prog_8_method_12_code 3 = .ok (.bipush 9, 2) := by decide +kernel
theorem wd_M_rules_5 : decode prog_8_method_12_code 5 = .ok (.invokestatic 82, 3) := by decide +kernel
theorem wd_M_rules_8 : decode prog_8_method_12_code 8 = .ok (.ifCond .eq 41, 3) := by decide +kernel
theorem wd_M_rules_11 : decode prog_8_method_12_code 11 = .ok (.iload_n 2, 1) := by decide +kernel
theorem wd_M_rules_12 : decode prog_8_method_12_code 12 = .ok (.iconst 1, 1) := by decide +kernel
theorem wd_M_rules_13 : decode prog_8_method_12_code 13 = .ok (.sipush 1000, 3) := by decide +kernel
theorem wd_M_rules_16 : decode prog_8_method_12_code 16 = .ok (.invokestatic 82, 3) := by decide +kernel
theorem wd_M_rules_19 : decode prog_8_method_12_code 19 = .ok (.ifCond .eq 30, 3) := by decide +kernel
theorem wd_M_rules_22 : decode prog_8_method_12_code 22 = .ok (.iload_n 3, 1) := by decide +kernel
theorem wd_M_rules_23 : decode prog_8_method_12_code 23 = .ok (.iconst 0, 1) := by decide +kernel
theorem wd_M_rules_24 : decode prog_8_method_12_code 24 = .ok (.sipush 10000, 3) := by decide +kernel
theorem wd_M_rules_27 : decode prog_8_method_12_code 27 = .ok (.invokestatic 82, 3) := by decide +kernel
theorem wd_M_rules_30 : decode prog_8_method_12_code 30 = .ok (.ifCond .eq 19, 3) := by decide +kernel
theorem wd_M_rules_33 : decode prog_8_method_12_code 33 = .ok (.iload 4, 2) := by decide +kernel
theorem wd_M_rules_35 : decode prog_8_method_12_code 35 = .ok (.iconst 0, 1) := by decide +kernel
theorem wd_M_rules_36 : decode prog_8_method_12_code 36 = .ok (.sipush 10000, 3) := by decide +kernel
theorem wd_M_rules_39 : decode prog_8_method_12_code 39 = .ok (.invokestatic 82, 3) := by decide +kernel
theorem wd_M_rules_42 : decode prog_8_method_12_code 42 = .ok (.ifCond .eq 7, 3) := by decide +kernel
theorem wd_M_rules_45 : decode prog_8_method_12_code 45 = .ok (.iconst 1, 1) := by decide +kernel
theorem wd_M_rules_46 : decode prog_8_method_12_code 46 = .ok (.goto 4, 3) := by decide +kernel
theorem wd_M_rules_49 : decode prog_8_method_12_code 49 = .ok (.iconst 0, 1) := by decide +kernel
theorem wd_M_rules_50 : decode prog_8_method_12_code 50 = .ok (.iconst 1, 1) := by decide +kernel
theorem wd_M_rules_51 : decode prog_8_method_12_code 51 = .ok (.iconst 1, 1) := by decide +kernel
theorem wd_M_rules_52 : decode prog_8_method_12_code 52 = .ok (.invokevirtual 86, 3) := by decide +kernel
theorem wd_M_rules_55 : decode prog_8_method_12_code 55 = .ok (.ifCond .ne 4, 3) := by decide +kernel
theorem wd_M_rules_58 : decode prog_8_method_12_code 58 = .ok (.return_, 1) := by decide +kernel
theorem wd_M_rules_59 : decode prog_8_method_12_code 59 = .ok (.aload_n 0, 1) := by decide +kernel
theorem wd_M_rules_60 : decode prog_8_method_12_code 60 = .ok (.iload_n 1, 1) := by decide +kernel
theorem wd_M_rules_61 : decode prog_8_method_12_code 61 = .ok (.putfield 49, 3) := by decide +kernel
theorem wd_M_rules_64 : decode prog_8_method_12_code 64 = .ok (.aload_n 0, 1) := by decide +kernel
theorem wd_M_rules_65 : decode prog_8_method_12_code 65 = .ok (.iload_n 2, 1) := by decide +kernel
theorem wd_M_rules_66 : decode prog_8_method_12_code 66 = .ok (.putfield 53, 3) := by decide +kernel
theorem wd_M_rules_69 : decode prog_8_method_12_code 69 = .ok (.aload_n 0, 1) := by decide +kernel
theorem wd_M_rules_70 : decode prog_8_method_12_code 70 = .ok (.iload_n 3, 1) := by decide +kernel
theorem wd_M_rules_71 : decode prog_8_method_12_code 71 = .ok (.putfield 56, 3) := by decide +kernel
theorem wd_M_rules_74 : decode prog_8_method_12_code 74 = .ok (.aload_n 0, 1) := by decide +kernel
theorem wd_M_rules_75 : decode prog_8_method_12_code 75 = .ok (.iload 4, 2) := by decide +kernel
theorem wd_M_rules_77 : decode prog_8_method_12_code 77 = .ok (.putfield 100, 3) := by decide +kernel
theorem wd_M_rules_80 : decode prog_8_method_12_code 80 = .ok (.aload_n 0, 1) := by decide +kernel
theorem wd_M_rules_81 : decode prog_8_method_12_code 81 = .ok (.invokevirtual 90, 3) := by decide +kernel
theorem wd_M_rules_84 : decode prog_8_method_12_code 84 = .ok (.return_, 1) := by decide +kernel
end
section

theorem wd_M_costOf_0 : decode prog_8_method_13_code 0 = .ok (.iload_n 2, 1) := by decide +kernel
theorem wd_M_costOf_1 : decode prog_8_method_13_code 1 = .ok (.ifCond .ge 8, 3) := by decide +kernel
theorem wd_M_costOf_4 : decode prog_8_method_13_code 4 = .ok (.iload_n 2, 1) := by decide +kernel
theorem wd_M_costOf_5 : decode prog_8_method_13_code 5 = .ok (.ineg, 1) := by decide +kernel
theorem wd_M_costOf_6 : decode prog_8_method_13_code 6 = .ok (.goto 4, 3) := by decide +kernel
theorem wd_M_costOf_9 : decode prog_8_method_13_code 9 = .ok (.iload_n 2, 1) := by decide +kernel
theorem wd_M_costOf_10 : decode prog_8_method_13_code 10 = .ok (.istore_n 3, 1) := by decide +kernel
theorem wd_M_costOf_11 : decode prog_8_method_13_code 11 = .ok (.bipush 8, 2) := by decide +kernel
theorem wd_M_costOf_13 : decode prog_8_method_13_code 13 = .ok (.iload_n 1, 1) := by decide +kernel
theorem wd_M_costOf_14 : decode prog_8_method_13_code 14 = .ok (.imul, 1) := by decide +kernel
theorem wd_M_costOf_15 : decode prog_8_method_13_code 15 = .ok (.istore 4, 2) := by decide +kernel
theorem wd_M_costOf_17 : decode prog_8_method_13_code 17 = .ok (.iload 4, 2) := by decide +kernel
theorem wd_M_costOf_19 : decode prog_8_method_13_code 19 = .ok (.bipush 8, 2) := by decide +kernel
theorem wd_M_costOf_21 : decode prog_8_method_13_code 21 = .ok (.iload_n 1, 1) := by decide +kernel
theorem wd_M_costOf_22 : decode prog_8_method_13_code 22 = .ok (.imul, 1) := by decide +kernel
theorem wd_M_costOf_23 : decode prog_8_method_13_code 23 = .ok (.aload_n 0, 1) := by decide +kernel
theorem wd_M_costOf_24 : decode prog_8_method_13_code 24 = .ok (.getfield 28, 3) := by decide +kernel
theorem wd_M_costOf_27 : decode prog_8_method_13_code 27 = .ok (.iload_n 1, 1) := by decide +kernel
theorem wd_M_costOf_28 : decode prog_8_method_13_code 28 = .ok (.iaload, 1) := by decide +kernel
theorem wd_M_costOf_29 : decode prog_8_method_13_code 29 = .ok (.iadd, 1) := by decide +kernel
theorem wd_M_costOf_30 : decode prog_8_method_13_code 30 = .ok (.if_icmp .ge 39, 3) := by decide +kernel
theorem wd_M_costOf_33 : decode prog_8_method_13_code 33 = .ok (.iload_n 3, 1) := by decide +kernel
theorem wd_M_costOf_34 : decode prog_8_method_13_code 34 = .ok (.aload_n 0, 1) := by decide +kernel
theorem wd_M_costOf_35 : decode prog_8_method_13_code 35 = .ok (.getfield 31, 3) := by decide +kernel
theorem wd_M_costOf_38 : decode prog_8_method_13_code 38 = .ok (.iload 4, 2) := by decide +kernel
theorem wd_M_costOf_40 : decode prog_8_method_13_code 40 = .ok (.iaload, 1) := by decide +kernel
theorem wd_M_costOf_41 : decode prog_8_method_13_code 41 = .ok (.if_icmp .lt 22, 3) := by decide +kernel
theorem wd_M_costOf_44 : decode prog_8_method_13_code 44 = .ok (.iload_n 3, 1) := by decide +kernel
theorem wd_M_costOf_45 : decode prog_8_method_13_code 45 = .ok (.aload_n 0, 1) := by decide +kernel
theorem wd_M_costOf_46 : decode prog_8_method_13_code 46 = .ok (.getfield 34, 3) := by decide +kernel
theorem wd_M_costOf_49 : decode prog_8_method_13_code 49 = .ok (.iload 4, 2) := by decide +kernel
theorem wd_M_costOf_51 : decode prog_8_method_13_code 51 = .ok (.iaload, 1) := by decide +kernel
theorem wd_M_costOf_52 : decode prog_8_method_13_code 52 = .ok (.if_icmp .gt 11, 3) := by decide +kernel
theorem wd_M_costOf_55 : decode prog_8_method_13_code 55 = .ok (.aload_n 0, 1) := by decide +kernel
theorem wd_M_costOf_56 : decode prog_8_method_13_code 56 = .ok (.getfield 37, 3) := by decide +kernel
theorem wd_M_costOf_59 : decode prog_8_method_13_code 59 = .ok (.iload 4, 2) := by decide +kernel
theorem wd_M_costOf_61 : decode prog_8_method_13_code 61 = .ok (.iaload, 1) := by decide +kernel
theorem wd_M_costOf_62 : decode prog_8_method_13_code 62 = .ok (.ireturn, 1) := by decide +kernel
theorem wd_M_costOf_63 : decode prog_8_method_13_code 63 = .ok (.iinc 4 1, 3) := by decide +kernel
theorem wd_M_costOf_66 : decode prog_8_method_13_code 66 = .ok (.goto (-49), 3) := by decide +kernel
theorem wd_M_costOf_69 : decode prog_8_method_13_code 69 = .ok (.aload_n 0, 1) := by decide +kernel
theorem wd_M_costOf_70 : decode prog_8_method_13_code 70 = .ok (.getfield 28, 3) := by decide +kernel
theorem wd_M_costOf_73 : decode prog_8_method_13_code 73 = .ok (.iload_n 1, 1) := by decide +kernel
theorem wd_M_costOf_74 : decode prog_8_method_13_code 74 = .ok (.iaload, 1) := by decide +kernel
theorem wd_M_costOf_75 : decode prog_8_method_13_code 75 = .ok (.ifCond .ne 7, 3) := by decide +kernel
theorem wd_M_costOf_78 : decode prog_8_method_13_code 78 = .ok (.iconst 0, 1) := by decide +kernel
theorem wd_M_costOf_79 : decode prog_8_method_13_code 79 = .ok (.goto 4, 3) := by decide +kernel
theorem wd_M_costOf_82 : decode prog_8_method_13_code 82 = .ok (.iconst (-1), 1) := by decide +kernel
theorem wd_M_costOf_83 : decode prog_8_method_13_code 83 = .ok (.ireturn, 1) := by decide +kernel
end
section

theorem wd_M_jumpOf_0 : decode prog_8_method_14_code 0 = .ok (.aload_n 0, 1) := by decide +kernel
theorem wd_M_jumpOf_1 : decode prog_8_method_14_code 1 = .ok (.iconst 0, 1) := by decide +kernel
theorem wd_M_jumpOf_2 : decode prog_8_method_14_code 2 = .ok (.aload_n 0, 1) := by decide +kernel
theorem wd_M_jumpOf_3 : decode prog_8_method_14_code 3 = .ok (.getfield 16, 3) := by decide +kernel
theorem wd_M_jumpOf_6 : decode prog_8_method_14_code 6 = .ok (.iload_n 2, 1) := by decide +kernel
theorem wd_M_jumpOf_7 : decode prog_8_method_14_code 7 = .ok (.iaload, 1) := by decide +kernel
theorem wd_M_jumpOf_8 : decode prog_8_method_14_code 8 = .ok (.aload_n 0, 1) := by decide +kernel
theorem wd_M_jumpOf_9 : decode prog_8_method_14_code 9 = .ok (.getfield 16, 3) := by decide +kernel
theorem wd_M_jumpOf_12 : decode prog_8_method_14_code 12 = .ok (.iload_n 1, 1) := by decide +kernel
theorem wd_M_jumpOf_13 : decode prog_8_method_14_code 13 = .ok (.iaload, 1) := by decide +kernel
theorem wd_M_jumpOf_14 : decode prog_8_method_14_code 14 = .ok (.isub, 1) := by decide +kernel
theorem wd_M_jumpOf_15 : decode prog_8_method_14_code 15 = .ok (.invokevirtual 103, 3) := by decide +kernel
theorem wd_M_jumpOf_18 : decode prog_8_method_14_code 18 = .ok (.istore_n 3, 1) := by decide +kernel
theorem wd_M_jumpOf_19 : decode prog_8_method_14_code 19 = .ok (.aload_n 0, 1) := by decide +kernel
theorem wd_M_jumpOf_20 : decode prog_8_method_14_code 20 = .ok (.iconst 1, 1) := by decide +kernel
theorem wd_M_jumpOf_21 : decode prog_8_method_14_code 21 = .ok (.aload_n 0, 1) := by decide +kernel
theorem wd_M_jumpOf_22 : decode prog_8_method_14_code 22 = .ok (.getfield 13, 3) := by decide +kernel
theorem wd_M_jumpOf_25 : decode prog_8_method_14_code 25 = .ok (.iload_n 2, 1) := by decide +kernel
theorem wd_M_jumpOf_26 : decode prog_8_method_14_code 26 = .ok (.iaload, 1) := by decide +kernel
theorem wd_M_jumpOf_27 : decode prog_8_method_14_code 27 = .ok (.aload_n 0, 1) := by decide +kernel
theorem wd_M_jumpOf_28 : decode prog_8_method_14_code 28 = .ok (.getfield 13, 3) := by decide +kernel
theorem wd_M_jumpOf_31 : decode prog_8_method_14_code 31 = .ok (.iload_n 1, 1) := by decide +kernel
theorem wd_M_jumpOf_32 : decode prog_8_method_14_code 32 = .ok (.iaload, 1) := by decide +kernel
theorem wd_M_jumpOf_33 : decode prog_8_method_14_code 33 = .ok (.isub, 1) := by decide +kernel
theorem wd_M_jumpOf_34 : decode prog_8_method_14_code 34 = .ok (.invokevirtual 103, 3) := by decide +kernel
theorem wd_M_jumpOf_37 : decode prog_8_method_14_code 37 = .ok (.istore 4, 2) := by decide +kernel
theorem wd_M_jumpOf_39 : decode prog_8_method_14_code 39 = .ok (.iload_n 3, 1) := by decide +kernel
theorem wd_M_jumpOf_40 : decode prog_8_method_14_code 40 = .ok (.ifCond .lt 8, 3) := by decide +kernel
theorem wd_M_jumpOf_43 : decode prog_8_method_14_code 43 = .ok (.iload 4, 2) := by decide +kernel
theorem wd_M_jumpOf_45 : decode prog_8_method_14_code 45 = .ok (.ifCond .ge 7, 3) := by decide +kernel
theorem wd_M_jumpOf_48 : decode prog_8_method_14_code 48 = .ok (.iconst (-1), 1) := by decide +kernel
theorem wd_M_jumpOf_49 : decode prog_8_method_14_code 49 = .ok (.goto 7, 3) := by decide +kernel
theorem wd_M_jumpOf_52 : decode prog_8_method_14_code 52 = .ok (.iload_n 3, 1) := by decide +kernel
theorem wd_M_jumpOf_53 : decode prog_8_method_14_code 53 = .ok (.iload 4, 2) := by decide +kernel
theorem wd_M_jumpOf_55 : decode prog_8_method_14_code 55 = .ok (.iadd, 1) := by decide +kernel
theorem wd_M_jumpOf_56 : decode prog_8_method_14_code 56 = .ok (.ireturn, 1) := by decide +kernel
end
section

theorem wd_M_mayBe_0 : decode prog_8_method_15_code 0 = .ok (.aload_n 1, 1) := by decide +kernel
theorem wd_M_mayBe_1 : decode prog_8_method_15_code 1 = .ok (.iload_n 2, 1) := by decide +kernel
theorem wd_M_mayBe_2 : decode prog_8_method_15_code 2 = .ok (.iaload, 1) := by decide +kernel
theorem wd_M_mayBe_3 : decode prog_8_method_15_code 3 = .ok (.istore_n 3, 1) := by decide +kernel
theorem wd_M_mayBe_4 : decode prog_8_method_15_code 4 = .ok (.iload_n 2, 1) := by decide +kernel
theorem wd_M_mayBe_5 : decode prog_8_method_15_code 5 = .ok (.aload_n 0, 1) := by decide +kernel
theorem wd_M_mayBe_6 : decode prog_8_method_15_code 6 = .ok (.getfield 22, 3) := by decide +kernel
theorem wd_M_mayBe_9 : decode prog_8_method_15_code 9 = .ok (.iload_n 3, 1) := by decide +kernel
theorem wd_M_mayBe_10 : decode prog_8_method_15_code 10 = .ok (.iaload, 1) := by decide +kernel
theorem wd_M_mayBe_11 : decode prog_8_method_15_code 11 = .ok (.if_icmp .le 5, 3) := by decide +kernel
theorem wd_M_mayBe_14 : decode prog_8_method_15_code 14 = .ok (.iconst 0, 1) := by decide +kernel
theorem wd_M_mayBe_15 : decode prog_8_method_15_code 15 = .ok (.ireturn, 1) := by decide +kernel
theorem wd_M_mayBe_16 : decode prog_8_method_15_code 16 = .ok (.iload_n 2, 1) := by decide +kernel
theorem wd_M_mayBe_17 : decode prog_8_method_15_code 17 = .ok (.ifCond .ne 5, 3) := by decide +kernel
theorem wd_M_mayBe_20 : decode prog_8_method_15_code 20 = .ok (.iconst 1, 1) := by decide +kernel
theorem wd_M_mayBe_21 : decode prog_8_method_15_code 21 = .ok (.ireturn, 1) := by decide +kernel
theorem wd_M_mayBe_22 : decode prog_8_method_15_code 22 = .ok (.aload_n 1, 1) := by decide +kernel
theorem wd_M_mayBe_23 : decode prog_8_method_15_code 23 = .ok (.iload_n 2, 1) := by decide +kernel
theorem wd_M_mayBe_24 : decode prog_8_method_15_code 24 = .ok (.iconst 1, 1) := by decide +kernel
theorem wd_M_mayBe_25 : decode prog_8_method_15_code 25 = .ok (.isub, 1) := by decide +kernel
theorem wd_M_mayBe_26 : decode prog_8_method_15_code 26 = .ok (.iaload, 1) := by decide +kernel
theorem wd_M_mayBe_27 : decode prog_8_method_15_code 27 = .ok (.istore 4, 2) := by decide +kernel
theorem wd_M_mayBe_29 : decode prog_8_method_15_code 29 = .ok (.aload_n 0, 1) := by decide +kernel
theorem wd_M_mayBe_30 : decode prog_8_method_15_code 30 = .ok (.iload 4, 2) := by decide +kernel
theorem wd_M_mayBe_32 : decode prog_8_method_15_code 32 = .ok (.iload_n 3, 1) := by decide +kernel
theorem wd_M_mayBe_33 : decode prog_8_method_15_code 33 = .ok (.invokevirtual 107, 3) := by decide +kernel
theorem wd_M_mayBe_36 : decode prog_8_method_15_code 36 = .ok (.ifCond .ge 5, 3) := by decide +kernel
theorem wd_M_mayBe_39 : decode prog_8_method_15_code 39 = .ok (.iconst 0, 1) := by decide +kernel
theorem wd_M_mayBe_40 : decode prog_8_method_15_code 40 = .ok (.ireturn, 1) := by decide +kernel
theorem wd_M_mayBe_41 : decode prog_8_method_15_code 41 = .ok (.iload_n 2, 1) := by decide +kernel
theorem wd_M_mayBe_42 : decode prog_8_method_15_code 42 = .ok (.aload_n 0, 1) := by decide +kernel
theorem wd_M_mayBe_43 : decode prog_8_method_15_code 43 = .ok (.getfield 49, 3) := by decide +kernel
theorem wd_M_mayBe_46 : decode prog_8_method_15_code 46 = .ok (.if_icmp .ge 27, 3) := by decide +kernel
theorem wd_M_mayBe_49 : decode prog_8_method_15_code 49 = .ok (.aload_n 0, 1) := by decide +kernel
theorem wd_M_mayBe_50 : decode prog_8_method_15_code 50 = .ok (.getfield 7, 3) := by decide +kernel
theorem wd_M_mayBe_53 : decode prog_8_method_15_code 53 = .ok (.iload_n 3, 1) := by decide +kernel
theorem wd_M_mayBe_54 : decode prog_8_method_15_code 54 = .ok (.iaload, 1) := by decide +kernel
theorem wd_M_mayBe_55 : decode prog_8_method_15_code 55 = .ok (.aload_n 0, 1) := by decide +kernel
theorem wd_M_mayBe_56 : decode prog_8_method_15_code 56 = .ok (.getfield 7, 3) := by decide +kernel
theorem wd_M_mayBe_59 : decode prog_8_method_15_code 59 = .ok (.iload 4, 2) := by decide +kernel
theorem wd_M_mayBe_61 : decode prog_8_method_15_code 61 = .ok (.iaload, 1) := by decide +kernel
theorem wd_M_mayBe_62 : decode prog_8_method_15_code 62 = .ok (.if_icmp .lt 7, 3) := by decide +kernel
theorem wd_M_mayBe_65 : decode prog_8_method_15_code 65 = .ok (.iconst 1, 1) := by decide +kernel
theorem wd_M_mayBe_66 : decode prog_8_method_15_code 66 = .ok (.goto 28, 3) := by decide +kernel
theorem wd_M_mayBe_69 : decode prog_8_method_15_code 69 = .ok (.iconst 0, 1) := by decide +kernel
theorem wd_M_mayBe_70 : decode prog_8_method_15_code 70 = .ok (.goto 24, 3) := by decide +kernel
theorem wd_M_mayBe_73 : decode prog_8_method_15_code 73 = .ok (.aload_n 0, 1) := by decide +kernel
theorem wd_M_mayBe_74 : decode prog_8_method_15_code 74 = .ok (.getfield 7, 3) := by decide +kernel
theorem wd_M_mayBe_77 : decode prog_8_method_15_code 77 = .ok (.iload_n 3, 1) := by decide +kernel
theorem wd_M_mayBe_78 : decode prog_8_method_15_code 78 = .ok (.iaload, 1) := by decide +kernel
theorem wd_M_mayBe_79 : decode prog_8_method_15_code 79 = .ok (.aload_n 0, 1) := by decide +kernel
theorem wd_M_mayBe_80 : decode prog_8_method_15_code 80 = .ok (.getfield 7, 3) := by decide +kernel
theorem wd_M_mayBe_83 : decode prog_8_method_15_code 83 = .ok (.iload 4, 2) := by decide +kernel
theorem wd_M_mayBe_85 : decode prog_8_method_15_code 85 = .ok (.iaload, 1) := by decide +kernel
theorem wd_M_mayBe_86 : decode prog_8_method_15_code 86 = .ok (.if_icmp .gt 7, 3) := by decide +kernel
theorem wd_M_mayBe_89 : decode prog_8_method_15_code 89 = .ok (.iconst 1, 1) := by decide +kernel
theorem wd_M_mayBe_90 : decode prog_8_method_15_code 90 = .ok (.goto 4, 3) := by decide +kernel
theorem wd_M_mayBe_93 : decode prog_8_method_15_code 93 = .ok (.iconst 0, 1) := by decide +kernel
theorem wd_M_mayBe_94 : decode prog_8_method_15_code 94 = .ok (.ireturn, 1) := by decide +kernel
end
section

theorem wd_M_isWorn_0 : decode prog_8_method_17_code 0 = .ok (.iconst 0, 1) := by decide +kernel
theorem wd_M_isWorn_1 : decode prog_8_method_17_code 1 = .ok (.istore 4, 2) := by decide +kernel
theorem wd_M_isWorn_3 : decode prog_8_method_17_code 3 = .ok (.iload_n 2, 1) := by decide +kernel
theorem wd_M_isWorn_4 : decode prog_8_method_17_code 4 = .ok (.istore 5, 2) := by decide +kernel
theorem wd_M_isWorn_6 : decode prog_8_method_17_code 6 = .ok (.iload 5, 2) := by decide +kernel
theorem wd_M_isWorn_8 : decode prog_8_method_17_code 8 = .ok (.iload_n 3, 1) := by decide +kernel
theorem wd_M_isWorn_9 : decode prog_8_method_17_code 9 = .ok (.if_icmp .gt 23, 3) := by decide +kernel
theorem wd_M_isWorn_12 : decode prog_8_method_17_code 12 = .ok (.iload 4, 2) := by decide +kernel
theorem wd_M_isWorn_14 : decode prog_8_method_17_code 14 = .ok (.aload_n 0, 1) := by decide +kernel
theorem wd_M_isWorn_15 : decode prog_8_method_17_code 15 = .ok (.getfield 19, 3) := by decide +kernel
theorem wd_M_isWorn_18 : decode prog_8_method_17_code 18 = .ok (.aload_n 1, 1) := by decide +kernel
theorem wd_M_isWorn_19 : decode prog_8_method_17_code 19 = .ok (.iload 5, 2) := by decide +kernel
theorem wd_M_isWorn_21 : decode prog_8_method_17_code 21 = .ok (.iaload, 1) := by decide +kernel
theorem wd_M_isWorn_22 : decode prog_8_method_17_code 22 = .ok (.iaload, 1) := by decide +kernel
theorem wd_M_isWorn_23 : decode prog_8_method_17_code 23 = .ok (.iadd, 1) := by decide +kernel
theorem wd_M_isWorn_24 : decode prog_8_method_17_code 24 = .ok (.istore 4, 2) := by decide +kernel
theorem wd_M_isWorn_26 : decode prog_8_method_17_code 26 = .ok (.iinc 5 1, 3) := by decide +kernel
theorem wd_M_isWorn_29 : decode prog_8_method_17_code 29 = .ok (.goto (-23), 3) := by decide +kernel
theorem wd_M_isWorn_32 : decode prog_8_method_17_code 32 = .ok (.iload 4, 2) := by decide +kernel
theorem wd_M_isWorn_34 : decode prog_8_method_17_code 34 = .ok (.aload_n 0, 1) := by decide +kernel
theorem wd_M_isWorn_35 : decode prog_8_method_17_code 35 = .ok (.getfield 53, 3) := by decide +kernel
theorem wd_M_isWorn_38 : decode prog_8_method_17_code 38 = .ok (.if_icmp .le 5, 3) := by decide +kernel
theorem wd_M_isWorn_41 : decode prog_8_method_17_code 41 = .ok (.iconst 1, 1) := by decide +kernel
theorem wd_M_isWorn_42 : decode prog_8_method_17_code 42 = .ok (.ireturn, 1) := by decide +kernel
theorem wd_M_isWorn_43 : decode prog_8_method_17_code 43 = .ok (.iconst 0, 1) := by decide +kernel
theorem wd_M_isWorn_44 : decode prog_8_method_17_code 44 = .ok (.istore 5, 2) := by decide +kernel
theorem wd_M_isWorn_46 : decode prog_8_method_17_code 46 = .ok (.iload 5, 2) := by decide +kernel
theorem wd_M_isWorn_48 : decode prog_8_method_17_code 48 = .ok (.aload_n 0, 1) := by decide +kernel
theorem wd_M_isWorn_49 : decode prog_8_method_17_code 49 = .ok (.getfield 93, 3) := by decide +kernel
theorem wd_M_isWorn_52 : decode prog_8_method_17_code 52 = .ok (.if_icmp .ge 141, 3) := by decide +kernel
theorem wd_M_isWorn_55 : decode prog_8_method_17_code 55 = .ok (.aload_n 0, 1) := by decide +kernel
theorem wd_M_isWorn_56 : decode prog_8_method_17_code 56 = .ok (.getfield 7, 3) := by decide +kernel
theorem wd_M_isWorn_59 : decode prog_8_method_17_code 59 = .ok (.aload_n 1, 1) := by decide +kernel
theorem wd_M_isWorn_60 : decode prog_8_method_17_code 60 = .ok (.iload_n 3, 1) := by decide +kernel
theorem wd_M_isWorn_61 : decode prog_8_method_17_code 61 = .ok (.iaload, 1) := by decide +kernel
theorem wd_M_isWorn_62 : decode prog_8_method_17_code 62 = .ok (.iaload, 1) := by decide +kernel
theorem wd_M_isWorn_63 : decode prog_8_method_17_code 63 = .ok (.aload_n 0, 1) := by decide +kernel
theorem wd_M_isWorn_64 : decode prog_8_method_17_code 64 = .ok (.getfield 40, 3) := by decide +kernel
theorem wd_M_isWorn_67 : decode prog_8_method_17_code 67 = .ok (.iload 5, 2) := by decide +kernel
theorem wd_M_isWorn_69 : decode prog_8_method_17_code 69 = .ok (.iaload, 1) := by decide +kernel
theorem wd_M_isWorn_70 : decode prog_8_method_17_code 70 = .ok (.if_icmp .lt 25, 3) := by decide +kernel
theorem wd_M_isWorn_73 : decode prog_8_method_17_code 73 = .ok (.aload_n 0, 1) := by decide +kernel
theorem wd_M_isWorn_74 : decode prog_8_method_17_code 74 = .ok (.getfield 7, 3) := by decide +kernel
theorem wd_M_isWorn_77 : decode prog_8_method_17_code 77 = .ok (.aload_n 1, 1) := by decide +kernel
theorem wd_M_isWorn_78 : decode prog_8_method_17_code 78 = .ok (.iload_n 3, 1) := by decide +kernel
theorem wd_M_isWorn_79 : decode prog_8_method_17_code 79 = .ok (.iaload, 1) := by decide +kernel
theorem wd_M_isWorn_80 : decode prog_8_method_17_code 80 = .ok (.iaload, 1) := by decide +kernel
theorem wd_M_isWorn_81 : decode prog_8_method_17_code 81 = .ok (.aload_n 0, 1) := by decide +kernel
theorem wd_M_isWorn_82 : decode prog_8_method_17_code 82 = .ok (.getfield 43, 3) := by decide +kernel
theorem wd_M_isWorn_85 : decode prog_8_method_17_code 85 = .ok (.iload 5, 2) := by decide +kernel
theorem wd_M_isWorn_87 : decode prog_8_method_17_code 87 = .ok (.iaload, 1) := by decide +kernel
theorem wd_M_isWorn_88 : decode prog_8_method_17_code 88 = .ok (.if_icmp .gt 7, 3) := by decide +kernel
theorem wd_M_isWorn_91 : decode prog_8_method_17_code 91 = .ok (.iconst 1, 1) := by decide +kernel
theorem wd_M_isWorn_92 : decode prog_8_method_17_code 92 = .ok (.goto 4, 3) := by decide +kernel
theorem wd_M_isWorn_95 : decode prog_8_method_17_code 95 = .ok (.iconst 0, 1) := by decide +kernel
theorem wd_M_isWorn_96 : decode prog_8_method_17_code 96 = .ok (.istore 6, 2) := by decide +kernel
theorem wd_M_isWorn_98 : decode prog_8_method_17_code 98 = .ok (.iconst 0, 1) := by decide +kernel
theorem wd_M_isWorn_99 : decode prog_8_method_17_code 99 = .ok (.istore 7, 2) := by decide +kernel
theorem wd_M_isWorn_101 : decode prog_8_method_17_code 101 = .ok (.iload_n 2, 1) := by decide +kernel
theorem wd_M_isWorn_102 : decode prog_8_method_17_code 102 = .ok (.istore 8, 2) := by decide +kernel
theorem wd_M_isWorn_104 : decode prog_8_method_17_code 104 = .ok (.iload 8, 2) := by decide +kernel
theorem wd_M_isWorn_106 : decode prog_8_method_17_code 106 = .ok (.iload_n 3, 1) := by decide +kernel
theorem wd_M_isWorn_107 : decode prog_8_method_17_code 107 = .ok (.if_icmp .gt 61, 3) := by decide +kernel
theorem wd_M_isWorn_110 : decode prog_8_method_17_code 110 = .ok (.aload_n 0, 1) := by decide +kernel
theorem wd_M_isWorn_111 : decode prog_8_method_17_code 111 = .ok (.getfield 7, 3) := by decide +kernel
theorem wd_M_isWorn_114 : decode prog_8_method_17_code 114 = .ok (.aload_n 1, 1) := by decide +kernel
theorem wd_M_isWorn_115 : decode prog_8_method_17_code 115 = .ok (.iload 8, 2) := by decide +kernel
theorem wd_M_isWorn_117 : decode prog_8_method_17_code 117 = .ok (.iaload, 1) := by decide +kernel
theorem wd_M_isWorn_118 : decode prog_8_method_17_code 118 = .ok (.iaload, 1) := by decide +kernel
theorem wd_M_isWorn_119 : decode prog_8_method_17_code 119 = .ok (.aload_n 0, 1) := by decide +kernel
theorem wd_M_isWorn_120 : decode prog_8_method_17_code 120 = .ok (.getfield 40, 3) := by decide +kernel
theorem wd_M_isWorn_123 : decode prog_8_method_17_code 123 = .ok (.iload 5, 2) := by decide +kernel
theorem wd_M_isWorn_125 : decode prog_8_method_17_code 125 = .ok (.iaload, 1) := by decide +kernel
theorem wd_M_isWorn_126 : decode prog_8_method_17_code 126 = .ok (.if_icmp .lt 36, 3) := by decide +kernel
theorem wd_M_isWorn_129 : decode prog_8_method_17_code 129 = .ok (.aload_n 0, 1) := by decide +kernel
theorem wd_M_isWorn_130 : decode prog_8_method_17_code 130 = .ok (.getfield 7, 3) := by decide +kernel
theorem wd_M_isWorn_133 : decode prog_8_method_17_code 133 = .ok (.aload_n 1, 1) := by decide +kernel
theorem wd_M_isWorn_134 : decode prog_8_method_17_code 134 = .ok (.iload 8, 2) := by decide +kernel
theorem wd_M_isWorn_136 : decode prog_8_method_17_code 136 = .ok (.iaload, 1) := by decide +kernel
theorem wd_M_isWorn_137 : decode prog_8_method_17_code 137 = .ok (.iaload, 1) := by decide +kernel
theorem wd_M_isWorn_138 : decode prog_8_method_17_code 138 = .ok (.aload_n 0, 1) := by decide +kernel
theorem wd_M_isWorn_139 : decode prog_8_method_17_code 139 = .ok (.getfield 43, 3) := by decide +kernel
theorem wd_M_isWorn_142 : decode prog_8_method_17_code 142 = .ok (.iload 5, 2) := by decide +kernel
theorem wd_M_isWorn_144 : decode prog_8_method_17_code 144 = .ok (.iaload, 1) := by decide +kernel
theorem wd_M_isWorn_145 : decode prog_8_method_17_code 145 = .ok (.if_icmp .gt 17, 3) := by decide +kernel
theorem wd_M_isWorn_148 : decode prog_8_method_17_code 148 = .ok (.iload 7, 2) := by decide +kernel
theorem wd_M_isWorn_150 : decode prog_8_method_17_code 150 = .ok (.aload_n 0, 1) := by decide +kernel
theorem wd_M_isWorn_151 : decode prog_8_method_17_code 151 = .ok (.getfield 19, 3) := by decide +kernel
theorem wd_M_isWorn_154 : decode prog_8_method_17_code 154 = .ok (.aload_n 1, 1) := by decide +kernel
theorem wd_M_isWorn_155 : decode prog_8_method_17_code 155 = .ok (.iload 8, 2) := by decide +kernel
theorem wd_M_isWorn_157 : decode prog_8_method_17_code 157 = .ok (.iaload, 1) := by decide +kernel
theorem wd_M_isWorn_158 : decode prog_8_method_17_code 158 = .ok (.iaload, 1) := by decide +kernel
theorem wd_M_isWorn_159 : decode prog_8_method_17_code 159 = .ok (.iadd, 1) := by decide +kernel
theorem wd_M_isWorn_160 : decode prog_8_method_17_code 160 = .ok (.istore 7, 2) := by decide +kernel
theorem wd_M_isWorn_162 : decode prog_8_method_17_code 162 = .ok (.iinc 8 1, 3) := by decide +kernel
theorem wd_M_isWorn_165 : decode prog_8_method_17_code 165 = .ok (.goto (-61), 3) := by decide +kernel
theorem wd_M_isWorn_168 : decode prog_8_method_17_code 168 = .ok (.iload 6, 2) := by decide +kernel
theorem wd_M_isWorn_170 : decode prog_8_method_17_code 170 = .ok (.ifCond .eq 17, 3) := by decide +kernel
theorem wd_M_isWorn_173 : decode prog_8_method_17_code 173 = .ok (.iload 7, 2) := by decide +kernel
theorem wd_M_isWorn_175 : decode prog_8_method_17_code 175 = .ok (.aload_n 0, 1) := by decide +kernel
theorem wd_M_isWorn_176 : decode prog_8_method_17_code 176 = .ok (.getfield 46, 3) := by decide +kernel
theorem wd_M_isWorn_179 : decode prog_8_method_17_code 179 = .ok (.iload 5, 2) := by decide +kernel
theorem wd_M_isWorn_181 : decode prog_8_method_17_code 181 = .ok (.iaload, 1) := by decide +kernel
theorem wd_M_isWorn_182 : decode prog_8_method_17_code 182 = .ok (.if_icmp .le 5, 3) := by decide +kernel
theorem wd_M_isWorn_185 : decode prog_8_method_17_code 185 = .ok (.iconst 1, 1) := by decide +kernel
theorem wd_M_isWorn_186 : decode prog_8_method_17_code 186 = .ok (.ireturn, 1) := by decide +kernel
theorem wd_M_isWorn_187 : decode prog_8_method_17_code 187 = .ok (.iinc 5 1, 3) := by decide +kernel
theorem wd_M_isWorn_190 : decode prog_8_method_17_code 190 = .ok (.goto (-144), 3) := by decide +kernel
theorem wd_M_isWorn_193 : decode prog_8_method_17_code 193 = .ok (.iconst 0, 1) := by decide +kernel
theorem wd_M_isWorn_194 : decode prog_8_method_17_code 194 = .ok (.ireturn, 1) := by decide +kernel
end
section

theorem wd_M_reckon_0 : decode prog_8_method_16_code 0 = .ok (.aload_n 0, 1) := by decide +kernel
theorem wd_M_reckon_1 : decode prog_8_method_16_code 1 = .ok (.iconst 0, 1) := by decide +kernel
theorem wd_M_reckon_2 : decode prog_8_method_16_code 2 = .ok (.putfield 110, 3) := by decide +kernel
theorem wd_M_reckon_5 : decode prog_8_method_16_code 5 = .ok (.aload_n 0, 1) := by decide +kernel
theorem wd_M_reckon_6 : decode prog_8_method_16_code 6 = .ok (.iconst 0, 1) := by decide +kernel
theorem wd_M_reckon_7 : decode prog_8_method_16_code 7 = .ok (.putfield 113, 3) := by decide +kernel
theorem wd_M_reckon_10 : decode prog_8_method_16_code 10 = .ok (.aload_n 0, 1) := by decide +kernel
theorem wd_M_reckon_11 : decode prog_8_method_16_code 11 = .ok (.iconst 0, 1) := by decide +kernel
theorem wd_M_reckon_12 : decode prog_8_method_16_code 12 = .ok (.putfield 116, 3) := by decide +kernel
theorem wd_M_reckon_15 : decode prog_8_method_16_code 15 = .ok (.iconst 0, 1) := by decide +kernel
theorem wd_M_reckon_16 : decode prog_8_method_16_code 16 = .ok (.istore_n 3, 1) := by decide +kernel
theorem wd_M_reckon_17 : decode prog_8_method_16_code 17 = .ok (.iconst 0, 1) := by decide +kernel
theorem wd_M_reckon_18 : decode prog_8_method_16_code 18 = .ok (.istore 4, 2) := by decide +kernel
theorem wd_M_reckon_20 : decode prog_8_method_16_code 20 = .ok (.iload 4, 2) := by decide +kernel
theorem wd_M_reckon_22 : decode prog_8_method_16_code 22 = .ok (.iload_n 2, 1) := by decide +kernel
theorem wd_M_reckon_23 : decode prog_8_method_16_code 23 = .ok (.if_icmp .ge 150, 3) := by decide +kernel
theorem wd_M_reckon_26 : decode prog_8_method_16_code 26 = .ok (.aload_n 0, 1) := by decide +kernel
theorem wd_M_reckon_27 : decode prog_8_method_16_code 27 = .ok (.getfield 65, 3) := by decide +kernel
theorem wd_M_reckon_30 : decode prog_8_method_16_code 30 = .ok (.iload 4, 2) := by decide +kernel
theorem wd_M_reckon_32 : decode prog_8_method_16_code 32 = .ok (.iload 4, 2) := by decide +kernel
theorem wd_M_reckon_34 : decode prog_8_method_16_code 34 = .ok (.ifCond .le 18, 3) := by decide +kernel
theorem wd_M_reckon_37 : decode prog_8_method_16_code 37 = .ok (.aload_n 0, 1) := by decide +kernel
theorem wd_M_reckon_38 : decode prog_8_method_16_code 38 = .ok (.aload_n 1, 1) := by decide +kernel
theorem wd_M_reckon_39 : decode prog_8_method_16_code 39 = .ok (.iload_n 3, 1) := by decide +kernel
theorem wd_M_reckon_40 : decode prog_8_method_16_code 40 = .ok (.iload 4, 2) := by decide +kernel
theorem wd_M_reckon_42 : decode prog_8_method_16_code 42 = .ok (.invokevirtual 119, 3) := by decide +kernel
theorem wd_M_reckon_45 : decode prog_8_method_16_code 45 = .ok (.ifCond .eq 7, 3) := by decide +kernel
theorem wd_M_reckon_48 : decode prog_8_method_16_code 48 = .ok (.iconst 1, 1) := by decide +kernel
theorem wd_M_reckon_49 : decode prog_8_method_16_code 49 = .ok (.goto 4, 3) := by decide +kernel
theorem wd_M_reckon_52 : decode prog_8_method_16_code 52 = .ok (.iconst 0, 1) := by decide +kernel
theorem wd_M_reckon_53 : decode prog_8_method_16_code 53 = .ok (.bastore, 1) := by decide +kernel
theorem wd_M_reckon_54 : decode prog_8_method_16_code 54 = .ok (.aload_n 0, 1) := by decide +kernel
theorem wd_M_reckon_55 : decode prog_8_method_16_code 55 = .ok (.getfield 65, 3) := by decide +kernel
theorem wd_M_reckon_58 : decode prog_8_method_16_code 58 = .ok (.iload 4, 2) := by decide +kernel
theorem wd_M_reckon_60 : decode prog_8_method_16_code 60 = .ok (.baload, 1) := by decide +kernel
theorem wd_M_reckon_61 : decode prog_8_method_16_code 61 = .ok (.ifCond .eq 29, 3) := by decide +kernel
theorem wd_M_reckon_64 : decode prog_8_method_16_code 64 = .ok (.iload 4, 2) := by decide +kernel
theorem wd_M_reckon_66 : decode prog_8_method_16_code 66 = .ok (.istore_n 3, 1) := by decide +kernel
theorem wd_M_reckon_67 : decode prog_8_method_16_code 67 = .ok (.aload_n 0, 1) := by decide +kernel
theorem wd_M_reckon_68 : decode prog_8_method_16_code 68 = .ok (.dup, 1) := by decide +kernel
theorem wd_M_reckon_69 : decode prog_8_method_16_code 69 = .ok (.getfield 113, 3) := by decide +kernel
theorem wd_M_reckon_72 : decode prog_8_method_16_code 72 = .ok (.iconst 1, 1) := by decide +kernel
theorem wd_M_reckon_73 : decode prog_8_method_16_code 73 = .ok (.iadd, 1) := by decide +kernel
theorem wd_M_reckon_74 : decode prog_8_method_16_code 74 = .ok (.putfield 113, 3) := by decide +kernel
theorem wd_M_reckon_77 : decode prog_8_method_16_code 77 = .ok (.aload_n 0, 1) := by decide +kernel
theorem wd_M_reckon_78 : decode prog_8_method_16_code 78 = .ok (.aload_n 0, 1) := by decide +kernel
theorem wd_M_reckon_79 : decode prog_8_method_16_code 79 = .ok (.getfield 110, 3) := by decide +kernel
theorem wd_M_reckon_82 : decode prog_8_method_16_code 82 = .ok (.aload_n 0, 1) := by decide +kernel
theorem wd_M_reckon_83 : decode prog_8_method_16_code 83 = .ok (.getfield 56, 3) := by decide +kernel
theorem wd_M_reckon_86 : decode prog_8_method_16_code 86 = .ok (.iadd, 1) := by decide +kernel
theorem wd_M_reckon_87 : decode prog_8_method_16_code 87 = .ok (.putfield 110, 3) := by decide +kernel
theorem wd_M_reckon_90 : decode prog_8_method_16_code 90 = .ok (.iload 4, 2) := by decide +kernel
theorem wd_M_reckon_92 : decode prog_8_method_16_code 92 = .ok (.ifCond .le 26, 3) := by decide +kernel
theorem wd_M_reckon_95 : decode prog_8_method_16_code 95 = .ok (.aload_n 0, 1) := by decide +kernel
theorem wd_M_reckon_96 : decode prog_8_method_16_code 96 = .ok (.aload_n 0, 1) := by decide +kernel
theorem wd_M_reckon_97 : decode prog_8_method_16_code 97 = .ok (.getfield 110, 3) := by decide +kernel
theorem wd_M_reckon_100 : decode prog_8_method_16_code 100 = .ok (.aload_n 0, 1) := by decide +kernel
theorem wd_M_reckon_101 : decode prog_8_method_16_code 101 = .ok (.aload_n 1, 1) := by decide +kernel
theorem wd_M_reckon_102 : decode prog_8_method_16_code 102 = .ok (.iload 4, 2) := by decide +kernel
theorem wd_M_reckon_104 : decode prog_8_method_16_code 104 = .ok (.iconst 1, 1) := by decide +kernel
theorem wd_M_reckon_105 : decode prog_8_method_16_code 105 = .ok (.isub, 1) := by decide +kernel
theorem wd_M_reckon_106 : decode prog_8_method_16_code 106 = .ok (.iaload, 1) := by decide +kernel
theorem wd_M_reckon_107 : decode prog_8_method_16_code 107 = .ok (.aload_n 1, 1) := by decide +kernel
theorem wd_M_reckon_108 : decode prog_8_method_16_code 108 = .ok (.iload 4, 2) := by decide +kernel
theorem wd_M_reckon_110 : decode prog_8_method_16_code 110 = .ok (.iaload, 1) := by decide +kernel
theorem wd_M_reckon_111 : decode prog_8_method_16_code 111 = .ok (.invokevirtual 107, 3) := by decide +kernel
theorem wd_M_reckon_114 : decode prog_8_method_16_code 114 = .ok (.iadd, 1) := by decide +kernel
theorem wd_M_reckon_115 : decode prog_8_method_16_code 115 = .ok (.putfield 110, 3) := by decide +kernel
theorem wd_M_reckon_118 : decode prog_8_method_16_code 118 = .ok (.aload_n 0, 1) := by decide +kernel
theorem wd_M_reckon_119 : decode prog_8_method_16_code 119 = .ok (.getfield 25, 3) := by decide +kernel
theorem wd_M_reckon_122 : decode prog_8_method_16_code 122 = .ok (.aload_n 1, 1) := by decide +kernel
theorem wd_M_reckon_123 : decode prog_8_method_16_code 123 = .ok (.iload 4, 2) := by decide +kernel
theorem wd_M_reckon_125 : decode prog_8_method_16_code 125 = .ok (.iaload, 1) := by decide +kernel
theorem wd_M_reckon_126 : decode prog_8_method_16_code 126 = .ok (.iaload, 1) := by decide +kernel
theorem wd_M_reckon_127 : decode prog_8_method_16_code 127 = .ok (.ifCond .lt 40, 3) := by decide +kernel
theorem wd_M_reckon_130 : decode prog_8_method_16_code 130 = .ok (.aload_n 0, 1) := by decide +kernel
theorem wd_M_reckon_131 : decode prog_8_method_16_code 131 = .ok (.getfield 25, 3) := by decide +kernel
theorem wd_M_reckon_134 : decode prog_8_method_16_code 134 = .ok (.aload_n 1, 1) := by decide +kernel
theorem wd_M_reckon_135 : decode prog_8_method_16_code 135 = .ok (.iload 4, 2) := by decide +kernel
theorem wd_M_reckon_137 : decode prog_8_method_16_code 137 = .ok (.iaload, 1) := by decide +kernel
theorem wd_M_reckon_138 : decode prog_8_method_16_code 138 = .ok (.iaload, 1) := by decide +kernel
theorem wd_M_reckon_139 : decode prog_8_method_16_code 139 = .ok (.iload 4, 2) := by decide +kernel
theorem wd_M_reckon_141 : decode prog_8_method_16_code 141 = .ok (.if_icmp .eq 26, 3) := by decide +kernel
theorem wd_M_reckon_144 : decode prog_8_method_16_code 144 = .ok (.aload_n 0, 1) := by decide +kernel
theorem wd_M_reckon_145 : decode prog_8_method_16_code 145 = .ok (.dup, 1) := by decide +kernel
theorem wd_M_reckon_146 : decode prog_8_method_16_code 146 = .ok (.getfield 116, 3) := by decide +kernel
theorem wd_M_reckon_149 : decode prog_8_method_16_code 149 = .ok (.iconst 1, 1) := by decide +kernel
theorem wd_M_reckon_150 : decode prog_8_method_16_code 150 = .ok (.iadd, 1) := by decide +kernel
theorem wd_M_reckon_151 : decode prog_8_method_16_code 151 = .ok (.putfield 116, 3) := by decide +kernel
theorem wd_M_reckon_154 : decode prog_8_method_16_code 154 = .ok (.aload_n 0, 1) := by decide +kernel
theorem wd_M_reckon_155 : decode prog_8_method_16_code 155 = .ok (.aload_n 0, 1) := by decide +kernel
theorem wd_M_reckon_156 : decode prog_8_method_16_code 156 = .ok (.getfield 110, 3) := by decide +kernel
theorem wd_M_reckon_159 : decode prog_8_method_16_code 159 = .ok (.aload_n 0, 1) := by decide +kernel
theorem wd_M_reckon_160 : decode prog_8_method_16_code 160 = .ok (.getfield 100, 3) := by decide +kernel
theorem wd_M_reckon_163 : decode prog_8_method_16_code 163 = .ok (.iadd, 1) := by decide +kernel
theorem wd_M_reckon_164 : decode prog_8_method_16_code 164 = .ok (.putfield 110, 3) := by decide +kernel
theorem wd_M_reckon_167 : decode prog_8_method_16_code 167 = .ok (.iinc 4 1, 3) := by decide +kernel
theorem wd_M_reckon_170 : decode prog_8_method_16_code 170 = .ok (.goto (-150), 3) := by decide +kernel
theorem wd_M_reckon_173 : decode prog_8_method_16_code 173 = .ok (.return_, 1) := by decide +kernel
end
section

theorem wd_M_stands_0 : decode prog_8_method_18_code 0 = .ok (.iconst 0, 1) := by decide +kernel
theorem wd_M_stands_1 : decode prog_8_method_18_code 1 = .ok (.istore_n 3, 1) := by decide +kernel
theorem wd_M_stands_2 : decode prog_8_method_18_code 2 = .ok (.iload_n 3, 1) := by decide +kernel
theorem wd_M_stands_3 : decode prog_8_method_18_code 3 = .ok (.iload_n 2, 1) := by decide +kernel
theorem wd_M_stands_4 : decode prog_8_method_18_code 4 = .ok (.if_icmp .ge 21, 3) := by decide +kernel
theorem wd_M_stands_7 : decode prog_8_method_18_code 7 = .ok (.aload_n 0, 1) := by decide +kernel
theorem wd_M_stands_8 : decode prog_8_method_18_code 8 = .ok (.getfield 62, 3) := by decide +kernel
theorem wd_M_stands_11 : decode prog_8_method_18_code 11 = .ok (.iload_n 3, 1) := by decide +kernel
theorem wd_M_stands_12 : decode prog_8_method_18_code 12 = .ok (.iaload, 1) := by decide +kernel
theorem wd_M_stands_13 : decode prog_8_method_18_code 13 = .ok (.iload_n 1, 1) := by decide +kernel
theorem wd_M_stands_14 : decode prog_8_method_18_code 14 = .ok (.if_icmp .ne 5, 3) := by decide +kernel
theorem wd_M_stands_17 : decode prog_8_method_18_code 17 = .ok (.iconst 1, 1) := by decide +kernel
theorem wd_M_stands_18 : decode prog_8_method_18_code 18 = .ok (.ireturn, 1) := by decide +kernel
theorem wd_M_stands_19 : decode prog_8_method_18_code 19 = .ok (.iinc 3 1, 3) := by decide +kernel
theorem wd_M_stands_22 : decode prog_8_method_18_code 22 = .ok (.goto (-20), 3) := by decide +kernel
theorem wd_M_stands_25 : decode prog_8_method_18_code 25 = .ok (.iconst 0, 1) := by decide +kernel
theorem wd_M_stands_26 : decode prog_8_method_18_code 26 = .ok (.ireturn, 1) := by decide +kernel
end
section

theorem wd_M_run_0 : decode prog_8_method_19_code 0 = .ok (.aload_n 0, 1) := by decide +kernel
theorem wd_M_run_1 : decode prog_8_method_19_code 1 = .ok (.iload_n 1, 1) := by decide +kernel
theorem wd_M_run_2 : decode prog_8_method_19_code 2 = .ok (.iconst 0, 1) := by decide +kernel
theorem wd_M_run_3 : decode prog_8_method_19_code 3 = .ok (.ldc 123, 2) := by decide +kernel
theorem wd_M_run_5 : decode prog_8_method_19_code 5 = .ok (.invokestatic 82, 3) := by decide +kernel
theorem wd_M_run_8 : decode prog_8_method_19_code 8 = .ok (.iconst 1, 1) := by decide +kernel
theorem wd_M_run_9 : decode prog_8_method_19_code 9 = .ok (.iconst 1, 1) := by decide +kernel
theorem wd_M_run_10 : decode prog_8_method_19_code 10 = .ok (.invokevirtual 86, 3) := by decide +kernel
theorem wd_M_run_13 : decode prog_8_method_19_code 13 = .ok (.ifCond .ne 5, 3) := by decide +kernel
theorem wd_M_run_16 : decode prog_8_method_19_code 16 = .ok (.iconst 0, 1) := by decide +kernel
theorem wd_M_run_17 : decode prog_8_method_19_code 17 = .ok (.ireturn, 1) := by decide +kernel
theorem wd_M_run_18 : decode prog_8_method_19_code 18 = .ok (.aload_n 0, 1) := by decide +kernel
theorem wd_M_run_19 : decode prog_8_method_19_code 19 = .ok (.iconst 1, 1) := by decide +kernel
theorem wd_M_run_20 : decode prog_8_method_19_code 20 = .ok (.putfield 72, 3) := by decide +kernel
theorem wd_M_run_23 : decode prog_8_method_19_code 23 = .ok (.aload_n 0, 1) := by decide +kernel
theorem wd_M_run_24 : decode prog_8_method_19_code 24 = .ok (.iconst 0, 1) := by decide +kernel
theorem wd_M_run_25 : decode prog_8_method_19_code 25 = .ok (.putfield 76, 3) := by decide +kernel
theorem wd_M_run_28 : decode prog_8_method_19_code 28 = .ok (.aload_n 0, 1) := by decide +kernel
theorem wd_M_run_29 : decode prog_8_method_19_code 29 = .ok (.iconst 1, 1) := by decide +kernel
theorem wd_M_run_30 : decode prog_8_method_19_code 30 = .ok (.putfield 124, 3) := by decide +kernel
theorem wd_M_run_33 : decode prog_8_method_19_code 33 = .ok (.iconst 0, 1) := by decide +kernel
theorem wd_M_run_34 : decode prog_8_method_19_code 34 = .ok (.istore_n 2, 1) := by decide +kernel
theorem wd_M_run_35 : decode prog_8_method_19_code 35 = .ok (.iload_n 1, 1) := by decide +kernel
theorem wd_M_run_36 : decode prog_8_method_19_code 36 = .ok (.istore_n 3, 1) := by decide +kernel
theorem wd_M_run_37 : decode prog_8_method_19_code 37 = .ok (.iconst 0, 1) := by decide +kernel
theorem wd_M_run_38 : decode prog_8_method_19_code 38 = .ok (.istore 4, 2) := by decide +kernel
theorem wd_M_run_40 : decode prog_8_method_19_code 40 = .ok (.aload_n 0, 1) := by decide +kernel
theorem wd_M_run_41 : decode prog_8_method_19_code 41 = .ok (.getfield 62, 3) := by decide +kernel
theorem wd_M_run_44 : decode prog_8_method_19_code 44 = .ok (.iconst 0, 1) := by decide +kernel
theorem wd_M_run_45 : decode prog_8_method_19_code 45 = .ok (.iconst 0, 1) := by decide +kernel
theorem wd_M_run_46 : decode prog_8_method_19_code 46 = .ok (.iastore, 1) := by decide +kernel
theorem wd_M_run_47 : decode prog_8_method_19_code 47 = .ok (.aload_n 0, 1) := by decide +kernel
theorem wd_M_run_48 : decode prog_8_method_19_code 48 = .ok (.getfield 79, 3) := by decide +kernel
theorem wd_M_run_51 : decode prog_8_method_19_code 51 = .ok (.ifCond .ne 10, 3) := by decide +kernel
theorem wd_M_run_54 : decode prog_8_method_19_code 54 = .ok (.aload_n 0, 1) := by decide +kernel
theorem wd_M_run_55 : decode prog_8_method_19_code 55 = .ok (.iconst 1, 1) := by decide +kernel
theorem wd_M_run_56 : decode prog_8_method_19_code 56 = .ok (.putfield 76, 3) := by decide +kernel
theorem wd_M_run_59 : decode prog_8_method_19_code 59 = .ok (.iconst 0, 1) := by decide +kernel
theorem wd_M_run_60 : decode prog_8_method_19_code 60 = .ok (.ireturn, 1) := by decide +kernel
theorem wd_M_run_61 : decode prog_8_method_19_code 61 = .ok (.iload 4, 2) := by decide +kernel
theorem wd_M_run_63 : decode prog_8_method_19_code 63 = .ok (.ifCond .lt 228, 3) := by decide +kernel
theorem wd_M_run_66 : decode prog_8_method_19_code 66 = .ok (.iload 4, 2) := by decide +kernel
theorem wd_M_run_68 : decode prog_8_method_19_code 68 = .ok (.aload_n 0, 1) := by decide +kernel
theorem wd_M_run_69 : decode prog_8_method_19_code 69 = .ok (.getfield 79, 3) := by decide +kernel
theorem wd_M_run_72 : decode prog_8_method_19_code 72 = .ok (.if_icmp .eq 17, 3) := by decide +kernel
theorem wd_M_run_75 : decode prog_8_method_19_code 75 = .ok (.aload_n 0, 1) := by decide +kernel
theorem wd_M_run_76 : decode prog_8_method_19_code 76 = .ok (.getfield 62, 3) := by decide +kernel
theorem wd_M_run_79 : decode prog_8_method_19_code 79 = .ok (.iload 4, 2) := by decide +kernel
theorem wd_M_run_81 : decode prog_8_method_19_code 81 = .ok (.iaload, 1) := by decide +kernel
theorem wd_M_run_82 : decode prog_8_method_19_code 82 = .ok (.aload_n 0, 1) := by decide +kernel
theorem wd_M_run_83 : decode prog_8_method_19_code 83 = .ok (.getfield 79, 3) := by decide +kernel
theorem wd_M_run_86 : decode prog_8_method_19_code 86 = .ok (.if_icmp .ne 25, 3) := by decide +kernel
theorem wd_M_run_89 : decode prog_8_method_19_code 89 = .ok (.iinc 4 (-1), 3) := by decide +kernel
theorem wd_M_run_92 : decode prog_8_method_19_code 92 = .ok (.iload 4, 2) := by decide +kernel
theorem wd_M_run_94 : decode prog_8_method_19_code 94 = .ok (.ifCond .lt (-33), 3) := by decide +kernel
theorem wd_M_run_97 : decode prog_8_method_19_code 97 = .ok (.aload_n 0, 1) := by decide +kernel
theorem wd_M_run_98 : decode prog_8_method_19_code 98 = .ok (.getfield 62, 3) := by decide +kernel
theorem wd_M_run_101 : decode prog_8_method_19_code 101 = .ok (.iload 4, 2) := by decide +kernel
theorem wd_M_run_103 : decode prog_8_method_19_code 103 = .ok (.dup2, 1) := by decide +kernel
theorem wd_M_run_104 : decode prog_8_method_19_code 104 = .ok (.iaload, 1) := by decide +kernel
theorem wd_M_run_105 : decode prog_8_method_19_code 105 = .ok (.iconst 1, 1) := by decide +kernel
theorem wd_M_run_106 : decode prog_8_method_19_code 106 = .ok (.iadd, 1) := by decide +kernel
theorem wd_M_run_107 : decode prog_8_method_19_code 107 = .ok (.iastore, 1) := by decide +kernel
theorem wd_M_run_108 : decode prog_8_method_19_code 108 = .ok (.goto (-47), 3) := by decide +kernel
theorem wd_M_run_111 : decode prog_8_method_19_code 111 = .ok (.aload_n 0, 1) := by decide +kernel
theorem wd_M_run_112 : decode prog_8_method_19_code 112 = .ok (.aload_n 0, 1) := by decide +kernel
theorem wd_M_run_113 : decode prog_8_method_19_code 113 = .ok (.getfield 62, 3) := by decide +kernel
theorem wd_M_run_116 : decode prog_8_method_19_code 116 = .ok (.iload 4, 2) := by decide +kernel
theorem wd_M_run_118 : decode prog_8_method_19_code 118 = .ok (.iaload, 1) := by decide +kernel
theorem wd_M_run_119 : decode prog_8_method_19_code 119 = .ok (.iload 4, 2) := by decide +kernel
theorem wd_M_run_121 : decode prog_8_method_19_code 121 = .ok (.invokevirtual 127, 3) := by decide +kernel
theorem wd_M_run_124 : decode prog_8_method_19_code 124 = .ok (.ifCond .ne 16, 3) := by decide +kernel
theorem wd_M_run_127 : decode prog_8_method_19_code 127 = .ok (.aload_n 0, 1) := by decide +kernel
theorem wd_M_run_128 : decode prog_8_method_19_code 128 = .ok (.aload_n 0, 1) := by decide +kernel
theorem wd_M_run_129 : decode prog_8_method_19_code 129 = .ok (.getfield 62, 3) := by decide +kernel
theorem wd_M_run_132 : decode prog_8_method_19_code 132 = .ok (.iload 4, 2) := by decide +kernel
theorem wd_M_run_134 : decode prog_8_method_19_code 134 = .ok (.invokevirtual 131, 3) := by decide +kernel
theorem wd_M_run_137 : decode prog_8_method_19_code 137 = .ok (.ifCond .ne 17, 3) := by decide +kernel
theorem wd_M_run_140 : decode prog_8_method_19_code 140 = .ok (.aload_n 0, 1) := by decide +kernel
theorem wd_M_run_141 : decode prog_8_method_19_code 141 = .ok (.getfield 62, 3) := by decide +kernel
theorem wd_M_run_144 : decode prog_8_method_19_code 144 = .ok (.iload 4, 2) := by decide +kernel
theorem wd_M_run_146 : decode prog_8_method_19_code 146 = .ok (.dup2, 1) := by decide +kernel
theorem wd_M_run_147 : decode prog_8_method_19_code 147 = .ok (.iaload, 1) := by decide +kernel
theorem wd_M_run_148 : decode prog_8_method_19_code 148 = .ok (.iconst 1, 1) := by decide +kernel
theorem wd_M_run_149 : decode prog_8_method_19_code 149 = .ok (.iadd, 1) := by decide +kernel
theorem wd_M_run_150 : decode prog_8_method_19_code 150 = .ok (.iastore, 1) := by decide +kernel
theorem wd_M_run_151 : decode prog_8_method_19_code 151 = .ok (.goto (-90), 3) := by decide +kernel
theorem wd_M_run_154 : decode prog_8_method_19_code 154 = .ok (.iload_n 3, 1) := by decide +kernel
theorem wd_M_run_155 : decode prog_8_method_19_code 155 = .ok (.ifCond .ne 11, 3) := by decide +kernel
theorem wd_M_run_158 : decode prog_8_method_19_code 158 = .ok (.aload_n 0, 1) := by decide +kernel
theorem wd_M_run_159 : decode prog_8_method_19_code 159 = .ok (.iconst 0, 1) := by decide +kernel
theorem wd_M_run_160 : decode prog_8_method_19_code 160 = .ok (.putfield 124, 3) := by decide +kernel
theorem wd_M_run_163 : decode prog_8_method_19_code 163 = .ok (.goto 128, 3) := by decide +kernel
theorem wd_M_run_166 : decode prog_8_method_19_code 166 = .ok (.iinc 3 (-1), 3) := by decide +kernel
theorem wd_M_run_169 : decode prog_8_method_19_code 169 = .ok (.aload_n 0, 1) := by decide +kernel
theorem wd_M_run_170 : decode prog_8_method_19_code 170 = .ok (.aload_n 0, 1) := by decide +kernel
theorem wd_M_run_171 : decode prog_8_method_19_code 171 = .ok (.getfield 62, 3) := by decide +kernel
theorem wd_M_run_174 : decode prog_8_method_19_code 174 = .ok (.iload 4, 2) := by decide +kernel
theorem wd_M_run_176 : decode prog_8_method_19_code 176 = .ok (.iconst 1, 1) := by decide +kernel
theorem wd_M_run_177 : decode prog_8_method_19_code 177 = .ok (.iadd, 1) := by decide +kernel
theorem wd_M_run_178 : decode prog_8_method_19_code 178 = .ok (.invokevirtual 135, 3) := by decide +kernel
theorem wd_M_run_181 : decode prog_8_method_19_code 181 = .ok (.aload_n 0, 1) := by decide +kernel
theorem wd_M_run_182 : decode prog_8_method_19_code 182 = .ok (.getfield 76, 3) := by decide +kernel
theorem wd_M_run_185 : decode prog_8_method_19_code 185 = .ok (.ifCond .eq 25, 3) := by decide +kernel
theorem wd_M_run_188 : decode prog_8_method_19_code 188 = .ok (.aload_n 0, 1) := by decide +kernel
theorem wd_M_run_189 : decode prog_8_method_19_code 189 = .ok (.getfield 110, 3) := by decide +kernel
theorem wd_M_run_192 : decode prog_8_method_19_code 192 = .ok (.iload_n 2, 1) := by decide +kernel
theorem wd_M_run_193 : decode prog_8_method_19_code 193 = .ok (.if_icmp .lt 17, 3) := by decide +kernel
theorem wd_M_run_196 : decode prog_8_method_19_code 196 = .ok (.aload_n 0, 1) := by decide +kernel
theorem wd_M_run_197 : decode prog_8_method_19_code 197 = .ok (.getfield 62, 3) := by decide +kernel
theorem wd_M_run_200 : decode prog_8_method_19_code 200 = .ok (.iload 4, 2) := by decide +kernel
theorem wd_M_run_202 : decode prog_8_method_19_code 202 = .ok (.dup2, 1) := by decide +kernel
theorem wd_M_run_203 : decode prog_8_method_19_code 203 = .ok (.iaload, 1) := by decide +kernel
theorem wd_M_run_204 : decode prog_8_method_19_code 204 = .ok (.iconst 1, 1) := by decide +kernel
theorem wd_M_run_205 : decode prog_8_method_19_code 205 = .ok (.iadd, 1) := by decide +kernel
theorem wd_M_run_206 : decode prog_8_method_19_code 206 = .ok (.iastore, 1) := by decide +kernel
theorem wd_M_run_207 : decode prog_8_method_19_code 207 = .ok (.goto (-146), 3) := by decide +kernel
theorem wd_M_run_210 : decode prog_8_method_19_code 210 = .ok (.iload 4, 2) := by decide +kernel
theorem wd_M_run_212 : decode prog_8_method_19_code 212 = .ok (.aload_n 0, 1) := by decide +kernel
theorem wd_M_run_213 : decode prog_8_method_19_code 213 = .ok (.getfield 79, 3) := by decide +kernel
theorem wd_M_run_216 : decode prog_8_method_19_code 216 = .ok (.iconst 1, 1) := by decide +kernel
theorem wd_M_run_217 : decode prog_8_method_19_code 217 = .ok (.isub, 1) := by decide +kernel
theorem wd_M_run_218 : decode prog_8_method_19_code 218 = .ok (.if_icmp .ne 59, 3) := by decide +kernel
theorem wd_M_run_221 : decode prog_8_method_19_code 221 = .ok (.aload_n 0, 1) := by decide +kernel
theorem wd_M_run_222 : decode prog_8_method_19_code 222 = .ok (.iconst 1, 1) := by decide +kernel
theorem wd_M_run_223 : decode prog_8_method_19_code 223 = .ok (.putfield 76, 3) := by decide +kernel
theorem wd_M_run_226 : decode prog_8_method_19_code 226 = .ok (.aload_n 0, 1) := by decide +kernel
theorem wd_M_run_227 : decode prog_8_method_19_code 227 = .ok (.getfield 110, 3) := by decide +kernel
theorem wd_M_run_230 : decode prog_8_method_19_code 230 = .ok (.istore_n 2, 1) := by decide +kernel
theorem wd_M_run_231 : decode prog_8_method_19_code 231 = .ok (.iconst 0, 1) := by decide +kernel
theorem wd_M_run_232 : decode prog_8_method_19_code 232 = .ok (.istore 5, 2) := by decide +kernel
theorem wd_M_run_234 : decode prog_8_method_19_code 234 = .ok (.iload 5, 2) := by decide +kernel
theorem wd_M_run_236 : decode prog_8_method_19_code 236 = .ok (.aload_n 0, 1) := by decide +kernel
theorem wd_M_run_237 : decode prog_8_method_19_code 237 = .ok (.getfield 79, 3) := by decide +kernel
theorem wd_M_run_240 : decode prog_8_method_19_code 240 = .ok (.if_icmp .ge 23, 3) := by decide +kernel
theorem wd_M_run_243 : decode prog_8_method_19_code 243 = .ok (.aload_n 0, 1) := by decide +kernel
theorem wd_M_run_244 : decode prog_8_method_19_code 244 = .ok (.getfield 59, 3) := by decide +kernel
theorem wd_M_run_247 : decode prog_8_method_19_code 247 = .ok (.iload 5, 2) := by decide +kernel
theorem wd_M_run_249 : decode prog_8_method_19_code 249 = .ok (.aload_n 0, 1) := by decide +kernel
theorem wd_M_run_250 : decode prog_8_method_19_code 250 = .ok (.getfield 62, 3) := by decide +kernel
theorem wd_M_run_253 : decode prog_8_method_19_code 253 = .ok (.iload 5, 2) := by decide +kernel
theorem wd_M_run_255 : decode prog_8_method_19_code 255 = .ok (.iaload, 1) := by decide +kernel
theorem wd_M_run_256 : decode prog_8_method_19_code 256 = .ok (.iastore, 1) := by decide +kernel
theorem wd_M_run_257 : decode prog_8_method_19_code 257 = .ok (.iinc 5 1, 3) := by decide +kernel
theorem wd_M_run_260 : decode prog_8_method_19_code 260 = .ok (.goto (-26), 3) := by decide +kernel
theorem wd_M_run_263 : decode prog_8_method_19_code 263 = .ok (.aload_n 0, 1) := by decide +kernel
theorem wd_M_run_264 : decode prog_8_method_19_code 264 = .ok (.getfield 62, 3) := by decide +kernel
theorem wd_M_run_267 : decode prog_8_method_19_code 267 = .ok (.iload 4, 2) := by decide +kernel
theorem wd_M_run_269 : decode prog_8_method_19_code 269 = .ok (.dup2, 1) := by decide +kernel
theorem wd_M_run_270 : decode prog_8_method_19_code 270 = .ok (.iaload, 1) := by decide +kernel
theorem wd_M_run_271 : decode prog_8_method_19_code 271 = .ok (.iconst 1, 1) := by decide +kernel
theorem wd_M_run_272 : decode prog_8_method_19_code 272 = .ok (.iadd, 1) := by decide +kernel
theorem wd_M_run_273 : decode prog_8_method_19_code 273 = .ok (.iastore, 1) := by decide +kernel
theorem wd_M_run_274 : decode prog_8_method_19_code 274 = .ok (.goto (-213), 3) := by decide +kernel
theorem wd_M_run_277 : decode prog_8_method_19_code 277 = .ok (.iinc 4 1, 3) := by decide +kernel
theorem wd_M_run_280 : decode prog_8_method_19_code 280 = .ok (.aload_n 0, 1) := by decide +kernel
theorem wd_M_run_281 : decode prog_8_method_19_code 281 = .ok (.getfield 62, 3) := by decide +kernel
theorem wd_M_run_284 : decode prog_8_method_19_code 284 = .ok (.iload 4, 2) := by decide +kernel
theorem wd_M_run_286 : decode prog_8_method_19_code 286 = .ok (.iconst 0, 1) := by decide +kernel
theorem wd_M_run_287 : decode prog_8_method_19_code 287 = .ok (.iastore, 1) := by decide +kernel
theorem wd_M_run_288 : decode prog_8_method_19_code 288 = .ok (.goto (-227), 3) := by decide +kernel
theorem wd_M_run_291 : decode prog_8_method_19_code 291 = .ok (.aload_n 0, 1) := by decide +kernel
theorem wd_M_run_292 : decode prog_8_method_19_code 292 = .ok (.getfield 76, 3) := by decide +kernel
theorem wd_M_run_295 : decode prog_8_method_19_code 295 = .ok (.ifCond .eq 10, 3) := by decide +kernel
theorem wd_M_run_298 : decode prog_8_method_19_code 298 = .ok (.aload_n 0, 1) := by decide +kernel
theorem wd_M_run_299 : decode prog_8_method_19_code 299 = .ok (.getfield 79, 3) := by decide +kernel
theorem wd_M_run_302 : decode prog_8_method_19_code 302 = .ok (.goto 4, 3) := by decide +kernel
theorem wd_M_run_305 : decode prog_8_method_19_code 305 = .ok (.iconst (-1), 1) := by decide +kernel
theorem wd_M_run_306 : decode prog_8_method_19_code 306 = .ok (.ireturn, 1) := by decide +kernel
end
section

theorem wd_M_proved_0 : decode prog_8_method_20_code 0 = .ok (.aload_n 0, 1) := by decide +kernel
theorem wd_M_proved_1 : decode prog_8_method_20_code 1 = .ok (.aload_n 0, 1) := by decide +kernel
theorem wd_M_proved_2 : decode prog_8_method_20_code 2 = .ok (.getfield 72, 3) := by decide +kernel
theorem wd_M_proved_5 : decode prog_8_method_20_code 5 = .ok (.iconst 1, 1) := by decide +kernel
theorem wd_M_proved_6 : decode prog_8_method_20_code 6 = .ok (.iconst 1, 1) := by decide +kernel
theorem wd_M_proved_7 : decode prog_8_method_20_code 7 = .ok (.invokevirtual 86, 3) := by decide +kernel
theorem wd_M_proved_10 : decode prog_8_method_20_code 10 = .ok (.ifCond .eq 14, 3) := by decide +kernel
theorem wd_M_proved_13 : decode prog_8_method_20_code 13 = .ok (.aload_n 0, 1) := by decide +kernel
theorem wd_M_proved_14 : decode prog_8_method_20_code 14 = .ok (.getfield 124, 3) := by decide +kernel
theorem wd_M_proved_17 : decode prog_8_method_20_code 17 = .ok (.ifCond .eq 7, 3) := by decide +kernel
theorem wd_M_proved_20 : decode prog_8_method_20_code 20 = .ok (.iconst 1, 1) := by decide +kernel
theorem wd_M_proved_21 : decode prog_8_method_20_code 21 = .ok (.goto 4, 3) := by decide +kernel
theorem wd_M_proved_24 : decode prog_8_method_20_code 24 = .ok (.iconst 0, 1) := by decide +kernel
theorem wd_M_proved_25 : decode prog_8_method_20_code 25 = .ok (.ireturn, 1) := by decide +kernel
end
section

theorem wd_M_order_0 : decode prog_8_method_21_code 0 = .ok (.aload_n 0, 1) := by decide +kernel
theorem wd_M_order_1 : decode prog_8_method_21_code 1 = .ok (.aload_n 0, 1) := by decide +kernel
theorem wd_M_order_2 : decode prog_8_method_21_code 2 = .ok (.getfield 76, 3) := by decide +kernel
theorem wd_M_order_5 : decode prog_8_method_21_code 5 = .ok (.ifCond .ne 7, 3) := by decide +kernel
theorem wd_M_order_8 : decode prog_8_method_21_code 8 = .ok (.iconst 2, 1) := by decide +kernel
theorem wd_M_order_9 : decode prog_8_method_21_code 9 = .ok (.goto 22, 3) := by decide +kernel
theorem wd_M_order_12 : decode prog_8_method_21_code 12 = .ok (.iload_n 1, 1) := by decide +kernel
theorem wd_M_order_13 : decode prog_8_method_21_code 13 = .ok (.iconst 0, 1) := by decide +kernel
theorem wd_M_order_14 : decode prog_8_method_21_code 14 = .ok (.aload_n 0, 1) := by decide +kernel
theorem wd_M_order_15 : decode prog_8_method_21_code 15 = .ok (.getfield 79, 3) := by decide +kernel
theorem wd_M_order_18 : decode prog_8_method_21_code 18 = .ok (.iconst 1, 1) := by decide +kernel
theorem wd_M_order_19 : decode prog_8_method_21_code 19 = .ok (.isub, 1) := by decide +kernel
theorem wd_M_order_20 : decode prog_8_method_21_code 20 = .ok (.invokestatic 82, 3) := by decide +kernel
theorem wd_M_order_23 : decode prog_8_method_21_code 23 = .ok (.ifCond .ne 7, 3) := by decide +kernel
theorem wd_M_order_26 : decode prog_8_method_21_code 26 = .ok (.iconst 1, 1) := by decide +kernel
theorem wd_M_order_27 : decode prog_8_method_21_code 27 = .ok (.goto 4, 3) := by decide +kernel
theorem wd_M_order_30 : decode prog_8_method_21_code 30 = .ok (.iconst 0, 1) := by decide +kernel
theorem wd_M_order_31 : decode prog_8_method_21_code 31 = .ok (.putfield 69, 3) := by decide +kernel
theorem wd_M_order_34 : decode prog_8_method_21_code 34 = .ok (.aload_n 0, 1) := by decide +kernel
theorem wd_M_order_35 : decode prog_8_method_21_code 35 = .ok (.getfield 69, 3) := by decide +kernel
theorem wd_M_order_38 : decode prog_8_method_21_code 38 = .ok (.ifCond .le 7, 3) := by decide +kernel
theorem wd_M_order_41 : decode prog_8_method_21_code 41 = .ok (.iconst 0, 1) := by decide +kernel
theorem wd_M_order_42 : decode prog_8_method_21_code 42 = .ok (.goto 9, 3) := by decide +kernel
theorem wd_M_order_45 : decode prog_8_method_21_code 45 = .ok (.aload_n 0, 1) := by decide +kernel
theorem wd_M_order_46 : decode prog_8_method_21_code 46 = .ok (.getfield 59, 3) := by decide +kernel
theorem wd_M_order_49 : decode prog_8_method_21_code 49 = .ok (.iload_n 1, 1) := by decide +kernel
theorem wd_M_order_50 : decode prog_8_method_21_code 50 = .ok (.iaload, 1) := by decide +kernel
theorem wd_M_order_51 : decode prog_8_method_21_code 51 = .ok (.ireturn, 1) := by decide +kernel
end
section

theorem wd_M_told_0 : decode prog_8_method_22_code 0 = .ok (.aload_n 0, 1) := by decide +kernel
theorem wd_M_told_1 : decode prog_8_method_22_code 1 = .ok (.iload_n 1, 1) := by decide +kernel
theorem wd_M_told_2 : decode prog_8_method_22_code 2 = .ok (.iconst 0, 1) := by decide +kernel
theorem wd_M_told_3 : decode prog_8_method_22_code 3 = .ok (.iconst 2, 1) := by decide +kernel
theorem wd_M_told_4 : decode prog_8_method_22_code 4 = .ok (.invokestatic 82, 3) := by decide +kernel
theorem wd_M_told_7 : decode prog_8_method_22_code 7 = .ok (.aload_n 0, 1) := by decide +kernel
theorem wd_M_told_8 : decode prog_8_method_22_code 8 = .ok (.getfield 76, 3) := by decide +kernel
theorem wd_M_told_11 : decode prog_8_method_22_code 11 = .ok (.iconst 1, 1) := by decide +kernel
theorem wd_M_told_12 : decode prog_8_method_22_code 12 = .ok (.invokevirtual 86, 3) := by decide +kernel
theorem wd_M_told_15 : decode prog_8_method_22_code 15 = .ok (.ifCond .ne 5, 3) := by decide +kernel
theorem wd_M_told_18 : decode prog_8_method_22_code 18 = .ok (.iconst 0, 1) := by decide +kernel
theorem wd_M_told_19 : decode prog_8_method_22_code 19 = .ok (.ireturn, 1) := by decide +kernel
theorem wd_M_told_20 : decode prog_8_method_22_code 20 = .ok (.aload_n 0, 1) := by decide +kernel
theorem wd_M_told_21 : decode prog_8_method_22_code 21 = .ok (.aload_n 0, 1) := by decide +kernel
theorem wd_M_told_22 : decode prog_8_method_22_code 22 = .ok (.getfield 59, 3) := by decide +kernel
theorem wd_M_told_25 : decode prog_8_method_22_code 25 = .ok (.aload_n 0, 1) := by decide +kernel
theorem wd_M_told_26 : decode prog_8_method_22_code 26 = .ok (.getfield 79, 3) := by decide +kernel
theorem wd_M_told_29 : decode prog_8_method_22_code 29 = .ok (.invokevirtual 135, 3) := by decide +kernel
theorem wd_M_told_32 : decode prog_8_method_22_code 32 = .ok (.iload_n 1, 1) := by decide +kernel
theorem wd_M_told_33 : decode prog_8_method_22_code 33 = .ok (.ifCond .ne 10, 3) := by decide +kernel
theorem wd_M_told_36 : decode prog_8_method_22_code 36 = .ok (.aload_n 0, 1) := by decide +kernel
theorem wd_M_told_37 : decode prog_8_method_22_code 37 = .ok (.getfield 110, 3) := by decide +kernel
theorem wd_M_told_40 : decode prog_8_method_22_code 40 = .ok (.goto 19, 3) := by decide +kernel
theorem wd_M_told_43 : decode prog_8_method_22_code 43 = .ok (.iload_n 1, 1) := by decide +kernel
theorem wd_M_told_44 : decode prog_8_method_22_code 44 = .ok (.iconst 1, 1) := by decide +kernel
theorem wd_M_told_45 : decode prog_8_method_22_code 45 = .ok (.if_icmp .ne 10, 3) := by decide +kernel
theorem wd_M_told_48 : decode prog_8_method_22_code 48 = .ok (.aload_n 0, 1) := by decide +kernel
theorem wd_M_told_49 : decode prog_8_method_22_code 49 = .ok (.getfield 113, 3) := by decide +kernel
theorem wd_M_told_52 : decode prog_8_method_22_code 52 = .ok (.goto 7, 3) := by decide +kernel
theorem wd_M_told_55 : decode prog_8_method_22_code 55 = .ok (.aload_n 0, 1) := by decide +kernel
theorem wd_M_told_56 : decode prog_8_method_22_code 56 = .ok (.getfield 116, 3) := by decide +kernel
theorem wd_M_told_59 : decode prog_8_method_22_code 59 = .ok (.ireturn, 1) := by decide +kernel
end
section

theorem wd_M_change_0 : decode prog_8_method_23_code 0 = .ok (.aload_n 0, 1) := by decide +kernel
theorem wd_M_change_1 : decode prog_8_method_23_code 1 = .ok (.aload_n 0, 1) := by decide +kernel
theorem wd_M_change_2 : decode prog_8_method_23_code 2 = .ok (.getfield 76, 3) := by decide +kernel
theorem wd_M_change_5 : decode prog_8_method_23_code 5 = .ok (.ifCond .ne 7, 3) := by decide +kernel
theorem wd_M_change_8 : decode prog_8_method_23_code 8 = .ok (.iconst 2, 1) := by decide +kernel
theorem wd_M_change_9 : decode prog_8_method_23_code 9 = .ok (.goto 22, 3) := by decide +kernel
theorem wd_M_change_12 : decode prog_8_method_23_code 12 = .ok (.iload_n 1, 1) := by decide +kernel
theorem wd_M_change_13 : decode prog_8_method_23_code 13 = .ok (.iconst 0, 1) := by decide +kernel
theorem wd_M_change_14 : decode prog_8_method_23_code 14 = .ok (.aload_n 0, 1) := by decide +kernel
theorem wd_M_change_15 : decode prog_8_method_23_code 15 = .ok (.getfield 79, 3) := by decide +kernel
theorem wd_M_change_18 : decode prog_8_method_23_code 18 = .ok (.iconst 1, 1) := by decide +kernel
theorem wd_M_change_19 : decode prog_8_method_23_code 19 = .ok (.isub, 1) := by decide +kernel
theorem wd_M_change_20 : decode prog_8_method_23_code 20 = .ok (.invokestatic 82, 3) := by decide +kernel
theorem wd_M_change_23 : decode prog_8_method_23_code 23 = .ok (.ifCond .ne 7, 3) := by decide +kernel
theorem wd_M_change_26 : decode prog_8_method_23_code 26 = .ok (.iconst 1, 1) := by decide +kernel
theorem wd_M_change_27 : decode prog_8_method_23_code 27 = .ok (.goto 4, 3) := by decide +kernel
theorem wd_M_change_30 : decode prog_8_method_23_code 30 = .ok (.iconst 0, 1) := by decide +kernel
theorem wd_M_change_31 : decode prog_8_method_23_code 31 = .ok (.putfield 69, 3) := by decide +kernel
theorem wd_M_change_34 : decode prog_8_method_23_code 34 = .ok (.aload_n 0, 1) := by decide +kernel
theorem wd_M_change_35 : decode prog_8_method_23_code 35 = .ok (.getfield 69, 3) := by decide +kernel
theorem wd_M_change_38 : decode prog_8_method_23_code 38 = .ok (.ifCond .le 5, 3) := by decide +kernel
theorem wd_M_change_41 : decode prog_8_method_23_code 41 = .ok (.iconst 0, 1) := by decide +kernel
theorem wd_M_change_42 : decode prog_8_method_23_code 42 = .ok (.ireturn, 1) := by decide +kernel
theorem wd_M_change_43 : decode prog_8_method_23_code 43 = .ok (.aload_n 0, 1) := by decide +kernel
theorem wd_M_change_44 : decode prog_8_method_23_code 44 = .ok (.aload_n 0, 1) := by decide +kernel
theorem wd_M_change_45 : decode prog_8_method_23_code 45 = .ok (.getfield 59, 3) := by decide +kernel
theorem wd_M_change_48 : decode prog_8_method_23_code 48 = .ok (.aload_n 0, 1) := by decide +kernel
theorem wd_M_change_49 : decode prog_8_method_23_code 49 = .ok (.getfield 79, 3) := by decide +kernel
theorem wd_M_change_52 : decode prog_8_method_23_code 52 = .ok (.invokevirtual 135, 3) := by decide +kernel
theorem wd_M_change_55 : decode prog_8_method_23_code 55 = .ok (.aload_n 0, 1) := by decide +kernel
theorem wd_M_change_56 : decode prog_8_method_23_code 56 = .ok (.getfield 65, 3) := by decide +kernel
theorem wd_M_change_59 : decode prog_8_method_23_code 59 = .ok (.iload_n 1, 1) := by decide +kernel
theorem wd_M_change_60 : decode prog_8_method_23_code 60 = .ok (.baload, 1) := by decide +kernel
theorem wd_M_change_61 : decode prog_8_method_23_code 61 = .ok (.ireturn, 1) := by decide +kernel
end
section

theorem wd_M_jump_0 : decode prog_8_method_24_code 0 = .ok (.aload_n 0, 1) := by decide +kernel
theorem wd_M_jump_1 : decode prog_8_method_24_code 1 = .ok (.aload_n 0, 1) := by decide +kernel
theorem wd_M_jump_2 : decode prog_8_method_24_code 2 = .ok (.iload_n 1, 1) := by decide +kernel
theorem wd_M_jump_3 : decode prog_8_method_24_code 3 = .ok (.invokevirtual 96, 3) := by decide +kernel
theorem wd_M_jump_6 : decode prog_8_method_24_code 6 = .ok (.ifCond .eq 20, 3) := by decide +kernel
theorem wd_M_jump_9 : decode prog_8_method_24_code 9 = .ok (.aload_n 0, 1) := by decide +kernel
theorem wd_M_jump_10 : decode prog_8_method_24_code 10 = .ok (.iload_n 2, 1) := by decide +kernel
theorem wd_M_jump_11 : decode prog_8_method_24_code 11 = .ok (.invokevirtual 96, 3) := by decide +kernel
theorem wd_M_jump_14 : decode prog_8_method_24_code 14 = .ok (.ifCond .eq 12, 3) := by decide +kernel
theorem wd_M_jump_17 : decode prog_8_method_24_code 17 = .ok (.iload_n 1, 1) := by decide +kernel
theorem wd_M_jump_18 : decode prog_8_method_24_code 18 = .ok (.iload_n 2, 1) := by decide +kernel
theorem wd_M_jump_19 : decode prog_8_method_24_code 19 = .ok (.if_icmp .eq 7, 3) := by decide +kernel
theorem wd_M_jump_22 : decode prog_8_method_24_code 22 = .ok (.iconst 1, 1) := by decide +kernel
theorem wd_M_jump_23 : decode prog_8_method_24_code 23 = .ok (.goto 4, 3) := by decide +kernel
theorem wd_M_jump_26 : decode prog_8_method_24_code 26 = .ok (.iconst 0, 1) := by decide +kernel
theorem wd_M_jump_27 : decode prog_8_method_24_code 27 = .ok (.iconst 1, 1) := by decide +kernel
theorem wd_M_jump_28 : decode prog_8_method_24_code 28 = .ok (.iconst 1, 1) := by decide +kernel
theorem wd_M_jump_29 : decode prog_8_method_24_code 29 = .ok (.invokevirtual 86, 3) := by decide +kernel
theorem wd_M_jump_32 : decode prog_8_method_24_code 32 = .ok (.ifCond .ne 5, 3) := by decide +kernel
theorem wd_M_jump_35 : decode prog_8_method_24_code 35 = .ok (.iconst 0, 1) := by decide +kernel
theorem wd_M_jump_36 : decode prog_8_method_24_code 36 = .ok (.ireturn, 1) := by decide +kernel
theorem wd_M_jump_37 : decode prog_8_method_24_code 37 = .ok (.aload_n 0, 1) := by decide +kernel
theorem wd_M_jump_38 : decode prog_8_method_24_code 38 = .ok (.iload_n 1, 1) := by decide +kernel
theorem wd_M_jump_39 : decode prog_8_method_24_code 39 = .ok (.iload_n 2, 1) := by decide +kernel
theorem wd_M_jump_40 : decode prog_8_method_24_code 40 = .ok (.invokevirtual 107, 3) := by decide +kernel
theorem wd_M_jump_43 : decode prog_8_method_24_code 43 = .ok (.ireturn, 1) := by decide +kernel
end
section

theorem wd_M_bound_0 : decode prog_8_method_25_code 0 = .ok (.aload_n 0, 1) := by decide +kernel
theorem wd_M_bound_1 : decode prog_8_method_25_code 1 = .ok (.iconst 0, 1) := by decide +kernel
theorem wd_M_bound_2 : decode prog_8_method_25_code 2 = .ok (.putfield 69, 3) := by decide +kernel
theorem wd_M_bound_5 : decode prog_8_method_25_code 5 = .ok (.iconst 0, 1) := by decide +kernel
theorem wd_M_bound_6 : decode prog_8_method_25_code 6 = .ok (.istore_n 1, 1) := by decide +kernel
theorem wd_M_bound_7 : decode prog_8_method_25_code 7 = .ok (.iconst 0, 1) := by decide +kernel
theorem wd_M_bound_8 : decode prog_8_method_25_code 8 = .ok (.istore_n 2, 1) := by decide +kernel
theorem wd_M_bound_9 : decode prog_8_method_25_code 9 = .ok (.iconst 0, 1) := by decide +kernel
theorem wd_M_bound_10 : decode prog_8_method_25_code 10 = .ok (.istore_n 3, 1) := by decide +kernel
theorem wd_M_bound_11 : decode prog_8_method_25_code 11 = .ok (.iload_n 3, 1) := by decide +kernel
theorem wd_M_bound_12 : decode prog_8_method_25_code 12 = .ok (.aload_n 0, 1) := by decide +kernel
theorem wd_M_bound_13 : decode prog_8_method_25_code 13 = .ok (.getfield 79, 3) := by decide +kernel
theorem wd_M_bound_16 : decode prog_8_method_25_code 16 = .ok (.if_icmp .ge 91, 3) := by decide +kernel
theorem wd_M_bound_19 : decode prog_8_method_25_code 19 = .ok (.iconst (-1), 1) := by decide +kernel
theorem wd_M_bound_20 : decode prog_8_method_25_code 20 = .ok (.istore 4, 2) := by decide +kernel
theorem wd_M_bound_22 : decode prog_8_method_25_code 22 = .ok (.iconst 0, 1) := by decide +kernel
theorem wd_M_bound_23 : decode prog_8_method_25_code 23 = .ok (.istore 5, 2) := by decide +kernel
theorem wd_M_bound_25 : decode prog_8_method_25_code 25 = .ok (.iload 5, 2) := by decide +kernel
theorem wd_M_bound_27 : decode prog_8_method_25_code 27 = .ok (.aload_n 0, 1) := by decide +kernel
theorem wd_M_bound_28 : decode prog_8_method_25_code 28 = .ok (.getfield 79, 3) := by decide +kernel
theorem wd_M_bound_31 : decode prog_8_method_25_code 31 = .ok (.if_icmp .ge 48, 3) := by decide +kernel
theorem wd_M_bound_34 : decode prog_8_method_25_code 34 = .ok (.iload 5, 2) := by decide +kernel
theorem wd_M_bound_36 : decode prog_8_method_25_code 36 = .ok (.iload_n 3, 1) := by decide +kernel
theorem wd_M_bound_37 : decode prog_8_method_25_code 37 = .ok (.if_icmp .ne 6, 3) := by decide +kernel
theorem wd_M_bound_40 : decode prog_8_method_25_code 40 = .ok (.goto 33, 3) := by decide +kernel
theorem wd_M_bound_43 : decode prog_8_method_25_code 43 = .ok (.aload_n 0, 1) := by decide +kernel
theorem wd_M_bound_44 : decode prog_8_method_25_code 44 = .ok (.iload 5, 2) := by decide +kernel
theorem wd_M_bound_46 : decode prog_8_method_25_code 46 = .ok (.iload_n 3, 1) := by decide +kernel
theorem wd_M_bound_47 : decode prog_8_method_25_code 47 = .ok (.invokevirtual 107, 3) := by decide +kernel
theorem wd_M_bound_50 : decode prog_8_method_25_code 50 = .ok (.istore 6, 2) := by decide +kernel
theorem wd_M_bound_52 : decode prog_8_method_25_code 52 = .ok (.iload 6, 2) := by decide +kernel
theorem wd_M_bound_54 : decode prog_8_method_25_code 54 = .ok (.ifCond .lt 19, 3) := by decide +kernel
theorem wd_M_bound_57 : decode prog_8_method_25_code 57 = .ok (.iload 4, 2) := by decide +kernel
theorem wd_M_bound_59 : decode prog_8_method_25_code 59 = .ok (.ifCond .lt 10, 3) := by decide +kernel
theorem wd_M_bound_62 : decode prog_8_method_25_code 62 = .ok (.iload 6, 2) := by decide +kernel
theorem wd_M_bound_64 : decode prog_8_method_25_code 64 = .ok (.iload 4, 2) := by decide +kernel
theorem wd_M_bound_66 : decode prog_8_method_25_code 66 = .ok (.if_icmp .ge 7, 3) := by decide +kernel
theorem wd_M_bound_69 : decode prog_8_method_25_code 69 = .ok (.iload 6, 2) := by decide +kernel
theorem wd_M_bound_71 : decode prog_8_method_25_code 71 = .ok (.istore 4, 2) := by decide +kernel
theorem wd_M_bound_73 : decode prog_8_method_25_code 73 = .ok (.iinc 5 1, 3) := by decide +kernel
theorem wd_M_bound_76 : decode prog_8_method_25_code 76 = .ok (.goto (-51), 3) := by decide +kernel
theorem wd_M_bound_79 : decode prog_8_method_25_code 79 = .ok (.iload 4, 2) := by decide +kernel
theorem wd_M_bound_81 : decode prog_8_method_25_code 81 = .ok (.ifCond .ge 6, 3) := by decide +kernel
theorem wd_M_bound_84 : decode prog_8_method_25_code 84 = .ok (.iconst 0, 1) := by decide +kernel
theorem wd_M_bound_85 : decode prog_8_method_25_code 85 = .ok (.istore 4, 2) := by decide +kernel
theorem wd_M_bound_87 : decode prog_8_method_25_code 87 = .ok (.iload_n 1, 1) := by decide +kernel
theorem wd_M_bound_88 : decode prog_8_method_25_code 88 = .ok (.iload 4, 2) := by decide +kernel
theorem wd_M_bound_90 : decode prog_8_method_25_code 90 = .ok (.iadd, 1) := by decide +kernel
theorem wd_M_bound_91 : decode prog_8_method_25_code 91 = .ok (.istore_n 1, 1) := by decide +kernel
theorem wd_M_bound_92 : decode prog_8_method_25_code 92 = .ok (.iload 4, 2) := by decide +kernel
theorem wd_M_bound_94 : decode prog_8_method_25_code 94 = .ok (.iload_n 2, 1) := by decide +kernel
theorem wd_M_bound_95 : decode prog_8_method_25_code 95 = .ok (.if_icmp .le 6, 3) := by decide +kernel
theorem wd_M_bound_98 : decode prog_8_method_25_code 98 = .ok (.iload 4, 2) := by decide +kernel
theorem wd_M_bound_100 : decode prog_8_method_25_code 100 = .ok (.istore_n 2, 1) := by decide +kernel
theorem wd_M_bound_101 : decode prog_8_method_25_code 101 = .ok (.iinc 3 1, 3) := by decide +kernel
theorem wd_M_bound_104 : decode prog_8_method_25_code 104 = .ok (.goto (-93), 3) := by decide +kernel
theorem wd_M_bound_107 : decode prog_8_method_25_code 107 = .ok (.iload_n 1, 1) := by decide +kernel
theorem wd_M_bound_108 : decode prog_8_method_25_code 108 = .ok (.iload_n 2, 1) := by decide +kernel
theorem wd_M_bound_109 : decode prog_8_method_25_code 109 = .ok (.isub, 1) := by decide +kernel
theorem wd_M_bound_110 : decode prog_8_method_25_code 110 = .ok (.ireturn, 1) := by decide +kernel
end
section

theorem wd_M_isGood_0 : decode prog_8_method_26_code 0 = .ok (.iconst 0, 1) := by decide +kernel
theorem wd_M_isGood_1 : decode prog_8_method_26_code 1 = .ok (.istore_n 2, 1) := by decide +kernel
theorem wd_M_isGood_2 : decode prog_8_method_26_code 2 = .ok (.iload_n 2, 1) := by decide +kernel
theorem wd_M_isGood_3 : decode prog_8_method_26_code 3 = .ok (.aload_n 0, 1) := by decide +kernel
theorem wd_M_isGood_4 : decode prog_8_method_26_code 4 = .ok (.getfield 79, 3) := by decide +kernel
theorem wd_M_isGood_7 : decode prog_8_method_26_code 7 = .ok (.if_icmp .ge 20, 3) := by decide +kernel
theorem wd_M_isGood_10 : decode prog_8_method_26_code 10 = .ok (.aload_n 0, 1) := by decide +kernel
theorem wd_M_isGood_11 : decode prog_8_method_26_code 11 = .ok (.aload_n 1, 1) := by decide +kernel
theorem wd_M_isGood_12 : decode prog_8_method_26_code 12 = .ok (.iload_n 2, 1) := by decide +kernel
theorem wd_M_isGood_13 : decode prog_8_method_26_code 13 = .ok (.invokevirtual 131, 3) := by decide +kernel
theorem wd_M_isGood_16 : decode prog_8_method_26_code 16 = .ok (.ifCond .ne 5, 3) := by decide +kernel
theorem wd_M_isGood_19 : decode prog_8_method_26_code 19 = .ok (.iconst 0, 1) := by decide +kernel
theorem wd_M_isGood_20 : decode prog_8_method_26_code 20 = .ok (.ireturn, 1) := by decide +kernel
theorem wd_M_isGood_21 : decode prog_8_method_26_code 21 = .ok (.iinc 2 1, 3) := by decide +kernel
theorem wd_M_isGood_24 : decode prog_8_method_26_code 24 = .ok (.goto (-22), 3) := by decide +kernel
theorem wd_M_isGood_27 : decode prog_8_method_26_code 27 = .ok (.iconst 1, 1) := by decide +kernel
theorem wd_M_isGood_28 : decode prog_8_method_26_code 28 = .ok (.ireturn, 1) := by decide +kernel
end
section

theorem wd_M_tell_0 : decode prog_8_method_27_code 0 = .ok (.iconst 1, 1) := by decide +kernel
theorem wd_M_tell_1 : decode prog_8_method_27_code 1 = .ok (.istore_n 3, 1) := by decide +kernel
theorem wd_M_tell_2 : decode prog_8_method_27_code 2 = .ok (.iconst 0, 1) := by decide +kernel
theorem wd_M_tell_3 : decode prog_8_method_27_code 3 = .ok (.istore 4, 2) := by decide +kernel
theorem wd_M_tell_5 : decode prog_8_method_27_code 5 = .ok (.iload 4, 2) := by decide +kernel
theorem wd_M_tell_7 : decode prog_8_method_27_code 7 = .ok (.aload_n 0, 1) := by decide +kernel
theorem wd_M_tell_8 : decode prog_8_method_27_code 8 = .ok (.getfield 79, 3) := by decide +kernel
theorem wd_M_tell_11 : decode prog_8_method_27_code 11 = .ok (.if_icmp .ge 59, 3) := by decide +kernel
theorem wd_M_tell_14 : decode prog_8_method_27_code 14 = .ok (.aload_n 0, 1) := by decide +kernel
theorem wd_M_tell_15 : decode prog_8_method_27_code 15 = .ok (.getfield 62, 3) := by decide +kernel
theorem wd_M_tell_18 : decode prog_8_method_27_code 18 = .ok (.iload 4, 2) := by decide +kernel
theorem wd_M_tell_20 : decode prog_8_method_27_code 20 = .ok (.lload_n 1, 1) := by decide +kernel
theorem wd_M_tell_21 : decode prog_8_method_27_code 21 = .ok (.iconst 4, 1) := by decide +kernel
theorem wd_M_tell_22 : decode prog_8_method_27_code 22 = .ok (.iload 4, 2) := by decide +kernel
theorem wd_M_tell_24 : decode prog_8_method_27_code 24 = .ok (.imul, 1) := by decide +kernel
theorem wd_M_tell_25 : decode prog_8_method_27_code 25 = .ok (.lshr, 1) := by decide +kernel
theorem wd_M_tell_26 : decode prog_8_method_27_code 26 = .ok (.ldc2_w 139, 3) := by decide +kernel
theorem wd_M_tell_29 : decode prog_8_method_27_code 29 = .ok (.land, 1) := by decide +kernel
theorem wd_M_tell_30 : decode prog_8_method_27_code 30 = .ok (.l2i, 1) := by decide +kernel
theorem wd_M_tell_31 : decode prog_8_method_27_code 31 = .ok (.iastore, 1) := by decide +kernel
theorem wd_M_tell_32 : decode prog_8_method_27_code 32 = .ok (.aload_n 0, 1) := by decide +kernel
theorem wd_M_tell_33 : decode prog_8_method_27_code 33 = .ok (.getfield 62, 3) := by decide +kernel
theorem wd_M_tell_36 : decode prog_8_method_27_code 36 = .ok (.iload 4, 2) := by decide +kernel
theorem wd_M_tell_38 : decode prog_8_method_27_code 38 = .ok (.iaload, 1) := by decide +kernel
theorem wd_M_tell_39 : decode prog_8_method_27_code 39 = .ok (.aload_n 0, 1) := by decide +kernel
theorem wd_M_tell_40 : decode prog_8_method_27_code 40 = .ok (.getfield 79, 3) := by decide +kernel
theorem wd_M_tell_43 : decode prog_8_method_27_code 43 = .ok (.if_icmp .ge 19, 3) := by decide +kernel
theorem wd_M_tell_46 : decode prog_8_method_27_code 46 = .ok (.aload_n 0, 1) := by decide +kernel
theorem wd_M_tell_47 : decode prog_8_method_27_code 47 = .ok (.aload_n 0, 1) := by decide +kernel
theorem wd_M_tell_48 : decode prog_8_method_27_code 48 = .ok (.getfield 62, 3) := by decide +kernel
theorem wd_M_tell_51 : decode prog_8_method_27_code 51 = .ok (.iload 4, 2) := by decide +kernel
theorem wd_M_tell_53 : decode prog_8_method_27_code 53 = .ok (.iaload, 1) := by decide +kernel
theorem wd_M_tell_54 : decode prog_8_method_27_code 54 = .ok (.iload 4, 2) := by decide +kernel
theorem wd_M_tell_56 : decode prog_8_method_27_code 56 = .ok (.invokevirtual 127, 3) := by decide +kernel
theorem wd_M_tell_59 : decode prog_8_method_27_code 59 = .ok (.ifCond .eq 5, 3) := by decide +kernel
theorem wd_M_tell_62 : decode prog_8_method_27_code 62 = .ok (.iconst 0, 1) := by decide +kernel
theorem wd_M_tell_63 : decode prog_8_method_27_code 63 = .ok (.istore_n 3, 1) := by decide +kernel
theorem wd_M_tell_64 : decode prog_8_method_27_code 64 = .ok (.iinc 4 1, 3) := by decide +kernel
theorem wd_M_tell_67 : decode prog_8_method_27_code 67 = .ok (.goto (-62), 3) := by decide +kernel
theorem wd_M_tell_70 : decode prog_8_method_27_code 70 = .ok (.aload_n 0, 1) := by decide +kernel
theorem wd_M_tell_71 : decode prog_8_method_27_code 71 = .ok (.iload_n 3, 1) := by decide +kernel
theorem wd_M_tell_72 : decode prog_8_method_27_code 72 = .ok (.iload_n 3, 1) := by decide +kernel
theorem wd_M_tell_73 : decode prog_8_method_27_code 73 = .ok (.ifCond .eq 18, 3) := by decide +kernel
theorem wd_M_tell_76 : decode prog_8_method_27_code 76 = .ok (.aload_n 0, 1) := by decide +kernel
theorem wd_M_tell_77 : decode prog_8_method_27_code 77 = .ok (.aload_n 0, 1) := by decide +kernel
theorem wd_M_tell_78 : decode prog_8_method_27_code 78 = .ok (.getfield 62, 3) := by decide +kernel
theorem wd_M_tell_81 : decode prog_8_method_27_code 81 = .ok (.invokevirtual 141, 3) := by decide +kernel
theorem wd_M_tell_84 : decode prog_8_method_27_code 84 = .ok (.ifCond .eq 7, 3) := by decide +kernel
theorem wd_M_tell_87 : decode prog_8_method_27_code 87 = .ok (.iconst 1, 1) := by decide +kernel
theorem wd_M_tell_88 : decode prog_8_method_27_code 88 = .ok (.goto 4, 3) := by decide +kernel
theorem wd_M_tell_91 : decode prog_8_method_27_code 91 = .ok (.iconst 0, 1) := by decide +kernel
theorem wd_M_tell_92 : decode prog_8_method_27_code 92 = .ok (.iconst 1, 1) := by decide +kernel
theorem wd_M_tell_93 : decode prog_8_method_27_code 93 = .ok (.invokevirtual 86, 3) := by decide +kernel
theorem wd_M_tell_96 : decode prog_8_method_27_code 96 = .ok (.ifCond .ne 4, 3) := by decide +kernel
theorem wd_M_tell_99 : decode prog_8_method_27_code 99 = .ok (.return_, 1) := by decide +kernel
theorem wd_M_tell_100 : decode prog_8_method_27_code 100 = .ok (.aload_n 0, 1) := by decide +kernel
theorem wd_M_tell_101 : decode prog_8_method_27_code 101 = .ok (.iconst 1, 1) := by decide +kernel
theorem wd_M_tell_102 : decode prog_8_method_27_code 102 = .ok (.putfield 76, 3) := by decide +kernel
theorem wd_M_tell_105 : decode prog_8_method_27_code 105 = .ok (.iconst 0, 1) := by decide +kernel
theorem wd_M_tell_106 : decode prog_8_method_27_code 106 = .ok (.istore 4, 2) := by decide +kernel
theorem wd_M_tell_108 : decode prog_8_method_27_code 108 = .ok (.iload 4, 2) := by decide +kernel
theorem wd_M_tell_110 : decode prog_8_method_27_code 110 = .ok (.aload_n 0, 1) := by decide +kernel
theorem wd_M_tell_111 : decode prog_8_method_27_code 111 = .ok (.getfield 79, 3) := by decide +kernel
theorem wd_M_tell_114 : decode prog_8_method_27_code 114 = .ok (.if_icmp .ge 23, 3) := by decide +kernel
theorem wd_M_tell_117 : decode prog_8_method_27_code 117 = .ok (.aload_n 0, 1) := by decide +kernel
theorem wd_M_tell_118 : decode prog_8_method_27_code 118 = .ok (.getfield 59, 3) := by decide +kernel
theorem wd_M_tell_121 : decode prog_8_method_27_code 121 = .ok (.iload 4, 2) := by decide +kernel
theorem wd_M_tell_123 : decode prog_8_method_27_code 123 = .ok (.aload_n 0, 1) := by decide +kernel
theorem wd_M_tell_124 : decode prog_8_method_27_code 124 = .ok (.getfield 62, 3) := by decide +kernel
theorem wd_M_tell_127 : decode prog_8_method_27_code 127 = .ok (.iload 4, 2) := by decide +kernel
theorem wd_M_tell_129 : decode prog_8_method_27_code 129 = .ok (.iaload, 1) := by decide +kernel
theorem wd_M_tell_130 : decode prog_8_method_27_code 130 = .ok (.iastore, 1) := by decide +kernel
theorem wd_M_tell_131 : decode prog_8_method_27_code 131 = .ok (.iinc 4 1, 3) := by decide +kernel
theorem wd_M_tell_134 : decode prog_8_method_27_code 134 = .ok (.goto (-26), 3) := by decide +kernel
theorem wd_M_tell_137 : decode prog_8_method_27_code 137 = .ok (.return_, 1) := by decide +kernel
end
section

theorem wd_M_swaps_0 : decode prog_8_method_28_code 0 = .ok (.aload_n 0, 1) := by decide +kernel
theorem wd_M_swaps_1 : decode prog_8_method_28_code 1 = .ok (.aload_n 0, 1) := by decide +kernel
theorem wd_M_swaps_2 : decode prog_8_method_28_code 2 = .ok (.getfield 59, 3) := by decide +kernel
theorem wd_M_swaps_5 : decode prog_8_method_28_code 5 = .ok (.aload_n 0, 1) := by decide +kernel
theorem wd_M_swaps_6 : decode prog_8_method_28_code 6 = .ok (.getfield 79, 3) := by decide +kernel
theorem wd_M_swaps_9 : decode prog_8_method_28_code 9 = .ok (.invokevirtual 135, 3) := by decide +kernel
theorem wd_M_swaps_12 : decode prog_8_method_28_code 12 = .ok (.aload_n 0, 1) := by decide +kernel
theorem wd_M_swaps_13 : decode prog_8_method_28_code 13 = .ok (.getfield 110, 3) := by decide +kernel
theorem wd_M_swaps_16 : decode prog_8_method_28_code 16 = .ok (.istore_n 3, 1) := by decide +kernel
theorem wd_M_swaps_17 : decode prog_8_method_28_code 17 = .ok (.iconst 0, 1) := by decide +kernel
theorem wd_M_swaps_18 : decode prog_8_method_28_code 18 = .ok (.istore 4, 2) := by decide +kernel
theorem wd_M_swaps_20 : decode prog_8_method_28_code 20 = .ok (.iload 4, 2) := by decide +kernel
theorem wd_M_swaps_22 : decode prog_8_method_28_code 22 = .ok (.aload_n 0, 1) := by decide +kernel
theorem wd_M_swaps_23 : decode prog_8_method_28_code 23 = .ok (.getfield 79, 3) := by decide +kernel
theorem wd_M_swaps_26 : decode prog_8_method_28_code 26 = .ok (.if_icmp .ge 23, 3) := by decide +kernel
theorem wd_M_swaps_29 : decode prog_8_method_28_code 29 = .ok (.aload_n 0, 1) := by decide +kernel
theorem wd_M_swaps_30 : decode prog_8_method_28_code 30 = .ok (.getfield 62, 3) := by decide +kernel
theorem wd_M_swaps_33 : decode prog_8_method_28_code 33 = .ok (.iload 4, 2) := by decide +kernel
theorem wd_M_swaps_35 : decode prog_8_method_28_code 35 = .ok (.aload_n 0, 1) := by decide +kernel
theorem wd_M_swaps_36 : decode prog_8_method_28_code 36 = .ok (.getfield 59, 3) := by decide +kernel
theorem wd_M_swaps_39 : decode prog_8_method_28_code 39 = .ok (.iload 4, 2) := by decide +kernel
theorem wd_M_swaps_41 : decode prog_8_method_28_code 41 = .ok (.iaload, 1) := by decide +kernel
theorem wd_M_swaps_42 : decode prog_8_method_28_code 42 = .ok (.iastore, 1) := by decide +kernel
theorem wd_M_swaps_43 : decode prog_8_method_28_code 43 = .ok (.iinc 4 1, 3) := by decide +kernel
theorem wd_M_swaps_46 : decode prog_8_method_28_code 46 = .ok (.goto (-26), 3) := by decide +kernel
theorem wd_M_swaps_49 : decode prog_8_method_28_code 49 = .ok (.aload_n 0, 1) := by decide +kernel
theorem wd_M_swaps_50 : decode prog_8_method_28_code 50 = .ok (.getfield 62, 3) := by decide +kernel
theorem wd_M_swaps_53 : decode prog_8_method_28_code 53 = .ok (.iload_n 1, 1) := by decide +kernel
theorem wd_M_swaps_54 : decode prog_8_method_28_code 54 = .ok (.aload_n 0, 1) := by decide +kernel
theorem wd_M_swaps_55 : decode prog_8_method_28_code 55 = .ok (.getfield 59, 3) := by decide +kernel
theorem wd_M_swaps_58 : decode prog_8_method_28_code 58 = .ok (.iload_n 2, 1) := by decide +kernel
theorem wd_M_swaps_59 : decode prog_8_method_28_code 59 = .ok (.iaload, 1) := by decide +kernel
theorem wd_M_swaps_60 : decode prog_8_method_28_code 60 = .ok (.iastore, 1) := by decide +kernel
theorem wd_M_swaps_61 : decode prog_8_method_28_code 61 = .ok (.aload_n 0, 1) := by decide +kernel
theorem wd_M_swaps_62 : decode prog_8_method_28_code 62 = .ok (.getfield 62, 3) := by decide +kernel
theorem wd_M_swaps_65 : decode prog_8_method_28_code 65 = .ok (.iload_n 2, 1) := by decide +kernel
theorem wd_M_swaps_66 : decode prog_8_method_28_code 66 = .ok (.aload_n 0, 1) := by decide +kernel
theorem wd_M_swaps_67 : decode prog_8_method_28_code 67 = .ok (.getfield 59, 3) := by decide +kernel
theorem wd_M_swaps_70 : decode prog_8_method_28_code 70 = .ok (.iload_n 1, 1) := by decide +kernel
theorem wd_M_swaps_71 : decode prog_8_method_28_code 71 = .ok (.iaload, 1) := by decide +kernel
theorem wd_M_swaps_72 : decode prog_8_method_28_code 72 = .ok (.iastore, 1) := by decide +kernel
theorem wd_M_swaps_73 : decode prog_8_method_28_code 73 = .ok (.aload_n 0, 1) := by decide +kernel
theorem wd_M_swaps_74 : decode prog_8_method_28_code 74 = .ok (.aload_n 0, 1) := by decide +kernel
theorem wd_M_swaps_75 : decode prog_8_method_28_code 75 = .ok (.getfield 62, 3) := by decide +kernel
theorem wd_M_swaps_78 : decode prog_8_method_28_code 78 = .ok (.invokevirtual 141, 3) := by decide +kernel
theorem wd_M_swaps_81 : decode prog_8_method_28_code 81 = .ok (.ifCond .ne 5, 3) := by decide +kernel
theorem wd_M_swaps_84 : decode prog_8_method_28_code 84 = .ok (.iconst 0, 1) := by decide +kernel
theorem wd_M_swaps_85 : decode prog_8_method_28_code 85 = .ok (.ireturn, 1) := by decide +kernel
theorem wd_M_swaps_86 : decode prog_8_method_28_code 86 = .ok (.aload_n 0, 1) := by decide +kernel
theorem wd_M_swaps_87 : decode prog_8_method_28_code 87 = .ok (.aload_n 0, 1) := by decide +kernel
theorem wd_M_swaps_88 : decode prog_8_method_28_code 88 = .ok (.getfield 62, 3) := by decide +kernel
theorem wd_M_swaps_91 : decode prog_8_method_28_code 91 = .ok (.aload_n 0, 1) := by decide +kernel
theorem wd_M_swaps_92 : decode prog_8_method_28_code 92 = .ok (.getfield 79, 3) := by decide +kernel
theorem wd_M_swaps_95 : decode prog_8_method_28_code 95 = .ok (.invokevirtual 135, 3) := by decide +kernel
theorem wd_M_swaps_98 : decode prog_8_method_28_code 98 = .ok (.aload_n 0, 1) := by decide +kernel
theorem wd_M_swaps_99 : decode prog_8_method_28_code 99 = .ok (.getfield 110, 3) := by decide +kernel
theorem wd_M_swaps_102 : decode prog_8_method_28_code 102 = .ok (.iload_n 3, 1) := by decide +kernel
theorem wd_M_swaps_103 : decode prog_8_method_28_code 103 = .ok (.if_icmp .lt 5, 3) := by decide +kernel
theorem wd_M_swaps_106 : decode prog_8_method_28_code 106 = .ok (.iconst 0, 1) := by decide +kernel
theorem wd_M_swaps_107 : decode prog_8_method_28_code 107 = .ok (.ireturn, 1) := by decide +kernel
theorem wd_M_swaps_108 : decode prog_8_method_28_code 108 = .ok (.iconst 0, 1) := by decide +kernel
theorem wd_M_swaps_109 : decode prog_8_method_28_code 109 = .ok (.istore 4, 2) := by decide +kernel
theorem wd_M_swaps_111 : decode prog_8_method_28_code 111 = .ok (.iload 4, 2) := by decide +kernel
theorem wd_M_swaps_113 : decode prog_8_method_28_code 113 = .ok (.aload_n 0, 1) := by decide +kernel
theorem wd_M_swaps_114 : decode prog_8_method_28_code 114 = .ok (.getfield 79, 3) := by decide +kernel
theorem wd_M_swaps_117 : decode prog_8_method_28_code 117 = .ok (.if_icmp .ge 23, 3) := by decide +kernel
theorem wd_M_swaps_120 : decode prog_8_method_28_code 120 = .ok (.aload_n 0, 1) := by decide +kernel
theorem wd_M_swaps_121 : decode prog_8_method_28_code 121 = .ok (.getfield 59, 3) := by decide +kernel
theorem wd_M_swaps_124 : decode prog_8_method_28_code 124 = .ok (.iload 4, 2) := by decide +kernel
theorem wd_M_swaps_126 : decode prog_8_method_28_code 126 = .ok (.aload_n 0, 1) := by decide +kernel
theorem wd_M_swaps_127 : decode prog_8_method_28_code 127 = .ok (.getfield 62, 3) := by decide +kernel
theorem wd_M_swaps_130 : decode prog_8_method_28_code 130 = .ok (.iload 4, 2) := by decide +kernel
theorem wd_M_swaps_132 : decode prog_8_method_28_code 132 = .ok (.iaload, 1) := by decide +kernel
theorem wd_M_swaps_133 : decode prog_8_method_28_code 133 = .ok (.iastore, 1) := by decide +kernel
theorem wd_M_swaps_134 : decode prog_8_method_28_code 134 = .ok (.iinc 4 1, 3) := by decide +kernel
theorem wd_M_swaps_137 : decode prog_8_method_28_code 137 = .ok (.goto (-26), 3) := by decide +kernel
theorem wd_M_swaps_140 : decode prog_8_method_28_code 140 = .ok (.iconst 1, 1) := by decide +kernel
theorem wd_M_swaps_141 : decode prog_8_method_28_code 141 = .ok (.ireturn, 1) := by decide +kernel
end
section

theorem wd_M_better_0 : decode prog_8_method_29_code 0 = .ok (.iconst 0, 1) := by decide +kernel
theorem wd_M_better_1 : decode prog_8_method_29_code 1 = .ok (.istore_n 1, 1) := by decide +kernel
theorem wd_M_better_2 : decode prog_8_method_29_code 2 = .ok (.iload_n 1, 1) := by decide +kernel
theorem wd_M_better_3 : decode prog_8_method_29_code 3 = .ok (.aload_n 0, 1) := by decide +kernel
theorem wd_M_better_4 : decode prog_8_method_29_code 4 = .ok (.getfield 79, 3) := by decide +kernel
theorem wd_M_better_7 : decode prog_8_method_29_code 7 = .ok (.if_icmp .ge 38, 3) := by decide +kernel
theorem wd_M_better_10 : decode prog_8_method_29_code 10 = .ok (.iload_n 1, 1) := by decide +kernel
theorem wd_M_better_11 : decode prog_8_method_29_code 11 = .ok (.iconst 1, 1) := by decide +kernel
theorem wd_M_better_12 : decode prog_8_method_29_code 12 = .ok (.iadd, 1) := by decide +kernel
theorem wd_M_better_13 : decode prog_8_method_29_code 13 = .ok (.istore_n 2, 1) := by decide +kernel
theorem wd_M_better_14 : decode prog_8_method_29_code 14 = .ok (.iload_n 2, 1) := by decide +kernel
theorem wd_M_better_15 : decode prog_8_method_29_code 15 = .ok (.aload_n 0, 1) := by decide +kernel
theorem wd_M_better_16 : decode prog_8_method_29_code 16 = .ok (.getfield 79, 3) := by decide +kernel
theorem wd_M_better_19 : decode prog_8_method_29_code 19 = .ok (.if_icmp .ge 20, 3) := by decide +kernel
theorem wd_M_better_22 : decode prog_8_method_29_code 22 = .ok (.aload_n 0, 1) := by decide +kernel
theorem wd_M_better_23 : decode prog_8_method_29_code 23 = .ok (.iload_n 1, 1) := by decide +kernel
theorem wd_M_better_24 : decode prog_8_method_29_code 24 = .ok (.iload_n 2, 1) := by decide +kernel
theorem wd_M_better_25 : decode prog_8_method_29_code 25 = .ok (.invokevirtual 145, 3) := by decide +kernel
theorem wd_M_better_28 : decode prog_8_method_29_code 28 = .ok (.ifCond .eq 5, 3) := by decide +kernel
theorem wd_M_better_31 : decode prog_8_method_29_code 31 = .ok (.iconst 1, 1) := by decide +kernel
theorem wd_M_better_32 : decode prog_8_method_29_code 32 = .ok (.ireturn, 1) := by decide +kernel
theorem wd_M_better_33 : decode prog_8_method_29_code 33 = .ok (.iinc 2 1, 3) := by decide +kernel
theorem wd_M_better_36 : decode prog_8_method_29_code 36 = .ok (.goto (-22), 3) := by decide +kernel
theorem wd_M_better_39 : decode prog_8_method_29_code 39 = .ok (.iinc 1 1, 3) := by decide +kernel
theorem wd_M_better_42 : decode prog_8_method_29_code 42 = .ok (.goto (-40), 3) := by decide +kernel
theorem wd_M_better_45 : decode prog_8_method_29_code 45 = .ok (.iconst 0, 1) := by decide +kernel
theorem wd_M_better_46 : decode prog_8_method_29_code 46 = .ok (.ireturn, 1) := by decide +kernel
end
section

theorem wd_M_improve_0 : decode prog_8_method_30_code 0 = .ok (.aload_n 0, 1) := by decide +kernel
theorem wd_M_improve_1 : decode prog_8_method_30_code 1 = .ok (.aload_n 0, 1) := by decide +kernel
theorem wd_M_improve_2 : decode prog_8_method_30_code 2 = .ok (.getfield 76, 3) := by decide +kernel
theorem wd_M_improve_5 : decode prog_8_method_30_code 5 = .ok (.iload_n 1, 1) := by decide +kernel
theorem wd_M_improve_6 : decode prog_8_method_30_code 6 = .ok (.iconst 0, 1) := by decide +kernel
theorem wd_M_improve_7 : decode prog_8_method_30_code 7 = .ok (.bipush 100, 2) := by decide +kernel
theorem wd_M_improve_9 : decode prog_8_method_30_code 9 = .ok (.invokestatic 82, 3) := by decide +kernel
theorem wd_M_improve_12 : decode prog_8_method_30_code 12 = .ok (.iconst 1, 1) := by decide +kernel
theorem wd_M_improve_13 : decode prog_8_method_30_code 13 = .ok (.invokevirtual 86, 3) := by decide +kernel
theorem wd_M_improve_16 : decode prog_8_method_30_code 16 = .ok (.ifCond .ne 5, 3) := by decide +kernel
theorem wd_M_improve_19 : decode prog_8_method_30_code 19 = .ok (.iconst 0, 1) := by decide +kernel
theorem wd_M_improve_20 : decode prog_8_method_30_code 20 = .ok (.ireturn, 1) := by decide +kernel
theorem wd_M_improve_21 : decode prog_8_method_30_code 21 = .ok (.iconst 0, 1) := by decide +kernel
theorem wd_M_improve_22 : decode prog_8_method_30_code 22 = .ok (.istore_n 2, 1) := by decide +kernel
theorem wd_M_improve_23 : decode prog_8_method_30_code 23 = .ok (.iload_n 2, 1) := by decide +kernel
theorem wd_M_improve_24 : decode prog_8_method_30_code 24 = .ok (.iload_n 1, 1) := by decide +kernel
theorem wd_M_improve_25 : decode prog_8_method_30_code 25 = .ok (.if_icmp .ge 16, 3) := by decide +kernel
theorem wd_M_improve_28 : decode prog_8_method_30_code 28 = .ok (.aload_n 0, 1) := by decide +kernel
theorem wd_M_improve_29 : decode prog_8_method_30_code 29 = .ok (.invokevirtual 148, 3) := by decide +kernel
theorem wd_M_improve_32 : decode prog_8_method_30_code 32 = .ok (.ifCond .eq 9, 3) := by decide +kernel
theorem wd_M_improve_35 : decode prog_8_method_30_code 35 = .ok (.iinc 2 1, 3) := by decide +kernel
theorem wd_M_improve_38 : decode prog_8_method_30_code 38 = .ok (.goto (-15), 3) := by decide +kernel
theorem wd_M_improve_41 : decode prog_8_method_30_code 41 = .ok (.iload_n 2, 1) := by decide +kernel
theorem wd_M_improve_42 : decode prog_8_method_30_code 42 = .ok (.ireturn, 1) := by decide +kernel
end
section

theorem wd_K_coil_0 : decode method_3_code 0 = .ok (.aload 5, 2) := by decide +kernel
theorem wd_K_coil_2 : decode method_3_code 2 = .ok (.iconst 0, 1) := by decide +kernel
theorem wd_K_coil_3 : decode method_3_code 3 = .ok (.aload_n 0, 1) := by decide +kernel
theorem wd_K_coil_4 : decode method_3_code 4 = .ok (.iload_n 1, 1) := by decide +kernel
theorem wd_K_coil_5 : decode method_3_code 5 = .ok (.iload_n 2, 1) := by decide +kernel
theorem wd_K_coil_6 : decode method_3_code 6 = .ok (.iload_n 3, 1) := by decide +kernel
theorem wd_K_coil_7 : decode method_3_code 7 = .ok (.iload 4, 2) := by decide +kernel
theorem wd_K_coil_9 : decode method_3_code 9 = .ok (.invokevirtual 7, 3) := by decide +kernel
theorem wd_K_coil_12 : decode method_3_code 12 = .ok (.i2l, 1) := by decide +kernel
theorem wd_K_coil_13 : decode method_3_code 13 = .ok (.lastore, 1) := by decide +kernel
theorem wd_K_coil_14 : decode method_3_code 14 = .ok (.goto 11, 3) := by decide +kernel
theorem wd_K_coil_17 : decode method_3_code 17 = .ok (.astore 6, 2) := by decide +kernel
theorem wd_K_coil_19 : decode method_3_code 19 = .ok (.iconst 1, 1) := by decide +kernel
theorem wd_K_coil_20 : decode method_3_code 20 = .ok (.ireturn, 1) := by decide +kernel
theorem wd_K_coil_21 : decode method_3_code 21 = .ok (.astore 6, 2) := by decide +kernel
theorem wd_K_coil_23 : decode method_3_code 23 = .ok (.iconst 2, 1) := by decide +kernel
theorem wd_K_coil_24 : decode method_3_code 24 = .ok (.ireturn, 1) := by decide +kernel
theorem wd_K_coil_25 : decode method_3_code 25 = .ok (.iconst 0, 1) := by decide +kernel
theorem wd_K_coil_26 : decode method_3_code 26 = .ok (.ireturn, 1) := by decide +kernel
end
section

theorem wd_K_table_0 : decode method_4_code 0 = .ok (.aload 5, 2) := by decide +kernel
theorem wd_K_table_2 : decode method_4_code 2 = .ok (.iconst 0, 1) := by decide +kernel
theorem wd_K_table_3 : decode method_4_code 3 = .ok (.aload_n 0, 1) := by decide +kernel
theorem wd_K_table_4 : decode method_4_code 4 = .ok (.iload_n 1, 1) := by decide +kernel
theorem wd_K_table_5 : decode method_4_code 5 = .ok (.iload_n 2, 1) := by decide +kernel
theorem wd_K_table_6 : decode method_4_code 6 = .ok (.iload_n 3, 1) := by decide +kernel
theorem wd_K_table_7 : decode method_4_code 7 = .ok (.iload 4, 2) := by decide +kernel
theorem wd_K_table_9 : decode method_4_code 9 = .ok (.invokevirtual 17, 3) := by decide +kernel
theorem wd_K_table_12 : decode method_4_code 12 = .ok (.i2l, 1) := by decide +kernel
theorem wd_K_table_13 : decode method_4_code 13 = .ok (.lastore, 1) := by decide +kernel
theorem wd_K_table_14 : decode method_4_code 14 = .ok (.goto 15, 3) := by decide +kernel
theorem wd_K_table_17 : decode method_4_code 17 = .ok (.astore 6, 2) := by decide +kernel
theorem wd_K_table_19 : decode method_4_code 19 = .ok (.iconst 1, 1) := by decide +kernel
theorem wd_K_table_20 : decode method_4_code 20 = .ok (.ireturn, 1) := by decide +kernel
theorem wd_K_table_21 : decode method_4_code 21 = .ok (.astore 6, 2) := by decide +kernel
theorem wd_K_table_23 : decode method_4_code 23 = .ok (.iconst 2, 1) := by decide +kernel
theorem wd_K_table_24 : decode method_4_code 24 = .ok (.ireturn, 1) := by decide +kernel
theorem wd_K_table_25 : decode method_4_code 25 = .ok (.astore 6, 2) := by decide +kernel
theorem wd_K_table_27 : decode method_4_code 27 = .ok (.iconst 3, 1) := by decide +kernel
theorem wd_K_table_28 : decode method_4_code 28 = .ok (.ireturn, 1) := by decide +kernel
theorem wd_K_table_29 : decode method_4_code 29 = .ok (.iconst 0, 1) := by decide +kernel
theorem wd_K_table_30 : decode method_4_code 30 = .ok (.ireturn, 1) := by decide +kernel
end
section

theorem wd_K_group_0 : decode method_5_code 0 = .ok (.aload 4, 2) := by decide +kernel
theorem wd_K_group_2 : decode method_5_code 2 = .ok (.iconst 0, 1) := by decide +kernel
theorem wd_K_group_3 : decode method_5_code 3 = .ok (.aload_n 0, 1) := by decide +kernel
theorem wd_K_group_4 : decode method_5_code 4 = .ok (.iload_n 1, 1) := by decide +kernel
theorem wd_K_group_5 : decode method_5_code 5 = .ok (.iload_n 2, 1) := by decide +kernel
theorem wd_K_group_6 : decode method_5_code 6 = .ok (.iload_n 3, 1) := by decide +kernel
theorem wd_K_group_7 : decode method_5_code 7 = .ok (.invokevirtual 22, 3) := by decide +kernel
theorem wd_K_group_10 : decode method_5_code 10 = .ok (.i2l, 1) := by decide +kernel
theorem wd_K_group_11 : decode method_5_code 11 = .ok (.lastore, 1) := by decide +kernel
theorem wd_K_group_12 : decode method_5_code 12 = .ok (.goto 11, 3) := by decide +kernel
theorem wd_K_group_15 : decode method_5_code 15 = .ok (.astore 5, 2) := by decide +kernel
theorem wd_K_group_17 : decode method_5_code 17 = .ok (.iconst 1, 1) := by decide +kernel
theorem wd_K_group_18 : decode method_5_code 18 = .ok (.ireturn, 1) := by decide +kernel
theorem wd_K_group_19 : decode method_5_code 19 = .ok (.astore 5, 2) := by decide +kernel
theorem wd_K_group_21 : decode method_5_code 21 = .ok (.iconst 2, 1) := by decide +kernel
theorem wd_K_group_22 : decode method_5_code 22 = .ok (.ireturn, 1) := by decide +kernel
theorem wd_K_group_23 : decode method_5_code 23 = .ok (.iconst 0, 1) := by decide +kernel
theorem wd_K_group_24 : decode method_5_code 24 = .ok (.ireturn, 1) := by decide +kernel
end
section

theorem wd_K_urgent_0 : decode method_6_code 0 = .ok (.aload_n 0, 1) := by decide +kernel
theorem wd_K_urgent_1 : decode method_6_code 1 = .ok (.iload_n 1, 1) := by decide +kernel
theorem wd_K_urgent_2 : decode method_6_code 2 = .ok (.iload_n 2, 1) := by decide +kernel
theorem wd_K_urgent_3 : decode method_6_code 3 = .ok (.invokevirtual 26, 3) := by decide +kernel
theorem wd_K_urgent_6 : decode method_6_code 6 = .ok (.goto 9, 3) := by decide +kernel
theorem wd_K_urgent_9 : decode method_6_code 9 = .ok (.astore_n 3, 1) := by decide +kernel
theorem wd_K_urgent_10 : decode method_6_code 10 = .ok (.iconst 1, 1) := by decide +kernel
theorem wd_K_urgent_11 : decode method_6_code 11 = .ok (.ireturn, 1) := by decide +kernel
theorem wd_K_urgent_12 : decode method_6_code 12 = .ok (.astore_n 3, 1) := by decide +kernel
theorem wd_K_urgent_13 : decode method_6_code 13 = .ok (.iconst 2, 1) := by decide +kernel
theorem wd_K_urgent_14 : decode method_6_code 14 = .ok (.ireturn, 1) := by decide +kernel
theorem wd_K_urgent_15 : decode method_6_code 15 = .ok (.iconst 0, 1) := by decide +kernel
theorem wd_K_urgent_16 : decode method_6_code 16 = .ok (.ireturn, 1) := by decide +kernel
end
section

theorem wd_K_old_0 : decode method_7_code 0 = .ok (.aload_n 0, 1) := by decide +kernel
theorem wd_K_old_1 : decode method_7_code 1 = .ok (.iload_n 1, 1) := by decide +kernel
theorem wd_K_old_2 : decode method_7_code 2 = .ok (.iload_n 2, 1) := by decide +kernel
theorem wd_K_old_3 : decode method_7_code 3 = .ok (.invokevirtual 30, 3) := by decide +kernel
theorem wd_K_old_6 : decode method_7_code 6 = .ok (.goto 9, 3) := by decide +kernel
theorem wd_K_old_9 : decode method_7_code 9 = .ok (.astore_n 3, 1) := by decide +kernel
theorem wd_K_old_10 : decode method_7_code 10 = .ok (.iconst 1, 1) := by decide +kernel
theorem wd_K_old_11 : decode method_7_code 11 = .ok (.ireturn, 1) := by decide +kernel
theorem wd_K_old_12 : decode method_7_code 12 = .ok (.astore_n 3, 1) := by decide +kernel
theorem wd_K_old_13 : decode method_7_code 13 = .ok (.iconst 2, 1) := by decide +kernel
theorem wd_K_old_14 : decode method_7_code 14 = .ok (.ireturn, 1) := by decide +kernel
theorem wd_K_old_15 : decode method_7_code 15 = .ok (.iconst 0, 1) := by decide +kernel
theorem wd_K_old_16 : decode method_7_code 16 = .ok (.ireturn, 1) := by decide +kernel
end
section

theorem wd_K_rules_0 : decode method_8_code 0 = .ok (.aload_n 0, 1) := by decide +kernel
theorem wd_K_rules_1 : decode method_8_code 1 = .ok (.iload_n 1, 1) := by decide +kernel
theorem wd_K_rules_2 : decode method_8_code 2 = .ok (.iload_n 2, 1) := by decide +kernel
theorem wd_K_rules_3 : decode method_8_code 3 = .ok (.iload_n 3, 1) := by decide +kernel
theorem wd_K_rules_4 : decode method_8_code 4 = .ok (.iload 4, 2) := by decide +kernel
theorem wd_K_rules_6 : decode method_8_code 6 = .ok (.invokevirtual 33, 3) := by decide +kernel
theorem wd_K_rules_9 : decode method_8_code 9 = .ok (.goto 7, 3) := by decide +kernel
theorem wd_K_rules_12 : decode method_8_code 12 = .ok (.astore 5, 2) := by decide +kernel
theorem wd_K_rules_14 : decode method_8_code 14 = .ok (.iconst 1, 1) := by decide +kernel
theorem wd_K_rules_15 : decode method_8_code 15 = .ok (.ireturn, 1) := by decide +kernel
theorem wd_K_rules_16 : decode method_8_code 16 = .ok (.iconst 0, 1) := by decide +kernel
theorem wd_K_rules_17 : decode method_8_code 17 = .ok (.ireturn, 1) := by decide +kernel
end
section

theorem wd_K_run_0 : decode method_9_code 0 = .ok (.aload_n 2, 1) := by decide +kernel
theorem wd_K_run_1 : decode method_9_code 1 = .ok (.iconst 0, 1) := by decide +kernel
theorem wd_K_run_2 : decode method_9_code 2 = .ok (.aload_n 0, 1) := by decide +kernel
theorem wd_K_run_3 : decode method_9_code 3 = .ok (.iload_n 1, 1) := by decide +kernel
theorem wd_K_run_4 : decode method_9_code 4 = .ok (.invokevirtual 37, 3) := by decide +kernel
theorem wd_K_run_7 : decode method_9_code 7 = .ok (.i2l, 1) := by decide +kernel
theorem wd_K_run_8 : decode method_9_code 8 = .ok (.lastore, 1) := by decide +kernel
theorem wd_K_run_9 : decode method_9_code 9 = .ok (.goto 6, 3) := by decide +kernel
theorem wd_K_run_12 : decode method_9_code 12 = .ok (.astore_n 3, 1) := by decide +kernel
theorem wd_K_run_13 : decode method_9_code 13 = .ok (.iconst 1, 1) := by decide +kernel
theorem wd_K_run_14 : decode method_9_code 14 = .ok (.ireturn, 1) := by decide +kernel
theorem wd_K_run_15 : decode method_9_code 15 = .ok (.iconst 0, 1) := by decide +kernel
theorem wd_K_run_16 : decode method_9_code 16 = .ok (.ireturn, 1) := by decide +kernel
end
section

theorem wd_K_proved_0 : decode method_10_code 0 = .ok (.aload_n 1, 1) := by decide +kernel
theorem wd_K_proved_1 : decode method_10_code 1 = .ok (.iconst 0, 1) := by decide +kernel
theorem wd_K_proved_2 : decode method_10_code 2 = .ok (.aload_n 0, 1) := by decide +kernel
theorem wd_K_proved_3 : decode method_10_code 3 = .ok (.invokevirtual 41, 3) := by decide +kernel
theorem wd_K_proved_6 : decode method_10_code 6 = .ok (.ifCond .eq 7, 3) := by decide +kernel
theorem wd_K_proved_9 : decode method_10_code 9 = .ok (.lconst 1, 1) := by decide +kernel
theorem wd_K_proved_10 : decode method_10_code 10 = .ok (.goto 4, 3) := by decide +kernel
theorem wd_K_proved_13 : decode method_10_code 13 = .ok (.lconst 0, 1) := by decide +kernel
theorem wd_K_proved_14 : decode method_10_code 14 = .ok (.lastore, 1) := by decide +kernel
theorem wd_K_proved_15 : decode method_10_code 15 = .ok (.goto 6, 3) := by decide +kernel
theorem wd_K_proved_18 : decode method_10_code 18 = .ok (.astore_n 2, 1) := by decide +kernel
theorem wd_K_proved_19 : decode method_10_code 19 = .ok (.iconst 1, 1) := by decide +kernel
theorem wd_K_proved_20 : decode method_10_code 20 = .ok (.ireturn, 1) := by decide +kernel
theorem wd_K_proved_21 : decode method_10_code 21 = .ok (.iconst 0, 1) := by decide +kernel
theorem wd_K_proved_22 : decode method_10_code 22 = .ok (.ireturn, 1) := by decide +kernel
end
section

theorem wd_K_order_0 : decode method_11_code 0 = .ok (.aload_n 2, 1) := by decide +kernel
theorem wd_K_order_1 : decode method_11_code 1 = .ok (.iconst 0, 1) := by decide +kernel
theorem wd_K_order_2 : decode method_11_code 2 = .ok (.aload_n 0, 1) := by decide +kernel
theorem wd_K_order_3 : decode method_11_code 3 = .ok (.iload_n 1, 1) := by decide +kernel
theorem wd_K_order_4 : decode method_11_code 4 = .ok (.invokevirtual 47, 3) := by decide +kernel
theorem wd_K_order_7 : decode method_11_code 7 = .ok (.i2l, 1) := by decide +kernel
theorem wd_K_order_8 : decode method_11_code 8 = .ok (.lastore, 1) := by decide +kernel
theorem wd_K_order_9 : decode method_11_code 9 = .ok (.goto 9, 3) := by decide +kernel
theorem wd_K_order_12 : decode method_11_code 12 = .ok (.astore_n 3, 1) := by decide +kernel
theorem wd_K_order_13 : decode method_11_code 13 = .ok (.iconst 1, 1) := by decide +kernel
theorem wd_K_order_14 : decode method_11_code 14 = .ok (.ireturn, 1) := by decide +kernel
theorem wd_K_order_15 : decode method_11_code 15 = .ok (.astore_n 3, 1) := by decide +kernel
theorem wd_K_order_16 : decode method_11_code 16 = .ok (.iconst 2, 1) := by decide +kernel
theorem wd_K_order_17 : decode method_11_code 17 = .ok (.ireturn, 1) := by decide +kernel
theorem wd_K_order_18 : decode method_11_code 18 = .ok (.iconst 0, 1) := by decide +kernel
theorem wd_K_order_19 : decode method_11_code 19 = .ok (.ireturn, 1) := by decide +kernel
end
section

theorem wd_K_told_0 : decode method_12_code 0 = .ok (.aload_n 2, 1) := by decide +kernel
theorem wd_K_told_1 : decode method_12_code 1 = .ok (.iconst 0, 1) := by decide +kernel
theorem wd_K_told_2 : decode method_12_code 2 = .ok (.aload_n 0, 1) := by decide +kernel
theorem wd_K_told_3 : decode method_12_code 3 = .ok (.iload_n 1, 1) := by decide +kernel
theorem wd_K_told_4 : decode method_12_code 4 = .ok (.invokevirtual 50, 3) := by decide +kernel
theorem wd_K_told_7 : decode method_12_code 7 = .ok (.i2l, 1) := by decide +kernel
theorem wd_K_told_8 : decode method_12_code 8 = .ok (.lastore, 1) := by decide +kernel
theorem wd_K_told_9 : decode method_12_code 9 = .ok (.goto 9, 3) := by decide +kernel
theorem wd_K_told_12 : decode method_12_code 12 = .ok (.astore_n 3, 1) := by decide +kernel
theorem wd_K_told_13 : decode method_12_code 13 = .ok (.iconst 1, 1) := by decide +kernel
theorem wd_K_told_14 : decode method_12_code 14 = .ok (.ireturn, 1) := by decide +kernel
theorem wd_K_told_15 : decode method_12_code 15 = .ok (.astore_n 3, 1) := by decide +kernel
theorem wd_K_told_16 : decode method_12_code 16 = .ok (.iconst 2, 1) := by decide +kernel
theorem wd_K_told_17 : decode method_12_code 17 = .ok (.ireturn, 1) := by decide +kernel
theorem wd_K_told_18 : decode method_12_code 18 = .ok (.iconst 0, 1) := by decide +kernel
theorem wd_K_told_19 : decode method_12_code 19 = .ok (.ireturn, 1) := by decide +kernel
end
section

theorem wd_K_change_0 : decode method_13_code 0 = .ok (.aload_n 2, 1) := by decide +kernel
theorem wd_K_change_1 : decode method_13_code 1 = .ok (.iconst 0, 1) := by decide +kernel
theorem wd_K_change_2 : decode method_13_code 2 = .ok (.aload_n 0, 1) := by decide +kernel
theorem wd_K_change_3 : decode method_13_code 3 = .ok (.iload_n 1, 1) := by decide +kernel
theorem wd_K_change_4 : decode method_13_code 4 = .ok (.invokevirtual 53, 3) := by decide +kernel
theorem wd_K_change_7 : decode method_13_code 7 = .ok (.ifCond .eq 7, 3) := by decide +kernel
theorem wd_K_change_10 : decode method_13_code 10 = .ok (.lconst 1, 1) := by decide +kernel
theorem wd_K_change_11 : decode method_13_code 11 = .ok (.goto 4, 3) := by decide +kernel
theorem wd_K_change_14 : decode method_13_code 14 = .ok (.lconst 0, 1) := by decide +kernel
theorem wd_K_change_15 : decode method_13_code 15 = .ok (.lastore, 1) := by decide +kernel
theorem wd_K_change_16 : decode method_13_code 16 = .ok (.goto 9, 3) := by decide +kernel
theorem wd_K_change_19 : decode method_13_code 19 = .ok (.astore_n 3, 1) := by decide +kernel
theorem wd_K_change_20 : decode method_13_code 20 = .ok (.iconst 1, 1) := by decide +kernel
theorem wd_K_change_21 : decode method_13_code 21 = .ok (.ireturn, 1) := by decide +kernel
theorem wd_K_change_22 : decode method_13_code 22 = .ok (.astore_n 3, 1) := by decide +kernel
theorem wd_K_change_23 : decode method_13_code 23 = .ok (.iconst 2, 1) := by decide +kernel
theorem wd_K_change_24 : decode method_13_code 24 = .ok (.ireturn, 1) := by decide +kernel
theorem wd_K_change_25 : decode method_13_code 25 = .ok (.iconst 0, 1) := by decide +kernel
theorem wd_K_change_26 : decode method_13_code 26 = .ok (.ireturn, 1) := by decide +kernel
end
section

theorem wd_K_jump_0 : decode method_14_code 0 = .ok (.aload_n 3, 1) := by decide +kernel
theorem wd_K_jump_1 : decode method_14_code 1 = .ok (.iconst 0, 1) := by decide +kernel
theorem wd_K_jump_2 : decode method_14_code 2 = .ok (.aload_n 0, 1) := by decide +kernel
theorem wd_K_jump_3 : decode method_14_code 3 = .ok (.iload_n 1, 1) := by decide +kernel
theorem wd_K_jump_4 : decode method_14_code 4 = .ok (.iload_n 2, 1) := by decide +kernel
theorem wd_K_jump_5 : decode method_14_code 5 = .ok (.invokevirtual 57, 3) := by decide +kernel
theorem wd_K_jump_8 : decode method_14_code 8 = .ok (.i2l, 1) := by decide +kernel
theorem wd_K_jump_9 : decode method_14_code 9 = .ok (.lastore, 1) := by decide +kernel
theorem wd_K_jump_10 : decode method_14_code 10 = .ok (.goto 7, 3) := by decide +kernel
theorem wd_K_jump_13 : decode method_14_code 13 = .ok (.astore 4, 2) := by decide +kernel
theorem wd_K_jump_15 : decode method_14_code 15 = .ok (.iconst 1, 1) := by decide +kernel
theorem wd_K_jump_16 : decode method_14_code 16 = .ok (.ireturn, 1) := by decide +kernel
theorem wd_K_jump_17 : decode method_14_code 17 = .ok (.iconst 0, 1) := by decide +kernel
theorem wd_K_jump_18 : decode method_14_code 18 = .ok (.ireturn, 1) := by decide +kernel
end
section

theorem wd_K_tell_0 : decode method_15_code 0 = .ok (.aload_n 0, 1) := by decide +kernel
theorem wd_K_tell_1 : decode method_15_code 1 = .ok (.lload_n 1, 1) := by decide +kernel
theorem wd_K_tell_2 : decode method_15_code 2 = .ok (.invokevirtual 61, 3) := by decide +kernel
theorem wd_K_tell_5 : decode method_15_code 5 = .ok (.goto 9, 3) := by decide +kernel
theorem wd_K_tell_8 : decode method_15_code 8 = .ok (.astore_n 3, 1) := by decide +kernel
theorem wd_K_tell_9 : decode method_15_code 9 = .ok (.iconst 1, 1) := by decide +kernel
theorem wd_K_tell_10 : decode method_15_code 10 = .ok (.ireturn, 1) := by decide +kernel
theorem wd_K_tell_11 : decode method_15_code 11 = .ok (.astore_n 3, 1) := by decide +kernel
theorem wd_K_tell_12 : decode method_15_code 12 = .ok (.iconst 2, 1) := by decide +kernel
theorem wd_K_tell_13 : decode method_15_code 13 = .ok (.ireturn, 1) := by decide +kernel
theorem wd_K_tell_14 : decode method_15_code 14 = .ok (.iconst 0, 1) := by decide +kernel
theorem wd_K_tell_15 : decode method_15_code 15 = .ok (.ireturn, 1) := by decide +kernel
end
section

theorem wd_K_improve_0 : decode method_16_code 0 = .ok (.aload_n 2, 1) := by decide +kernel
theorem wd_K_improve_1 : decode method_16_code 1 = .ok (.iconst 0, 1) := by decide +kernel
theorem wd_K_improve_2 : decode method_16_code 2 = .ok (.aload_n 0, 1) := by decide +kernel
theorem wd_K_improve_3 : decode method_16_code 3 = .ok (.iload_n 1, 1) := by decide +kernel
theorem wd_K_improve_4 : decode method_16_code 4 = .ok (.invokevirtual 65, 3) := by decide +kernel
theorem wd_K_improve_7 : decode method_16_code 7 = .ok (.i2l, 1) := by decide +kernel
theorem wd_K_improve_8 : decode method_16_code 8 = .ok (.lastore, 1) := by decide +kernel
theorem wd_K_improve_9 : decode method_16_code 9 = .ok (.goto 9, 3) := by decide +kernel
theorem wd_K_improve_12 : decode method_16_code 12 = .ok (.astore_n 3, 1) := by decide +kernel
theorem wd_K_improve_13 : decode method_16_code 13 = .ok (.iconst 1, 1) := by decide +kernel
theorem wd_K_improve_14 : decode method_16_code 14 = .ok (.ireturn, 1) := by decide +kernel
theorem wd_K_improve_15 : decode method_16_code 15 = .ok (.astore_n 3, 1) := by decide +kernel
theorem wd_K_improve_16 : decode method_16_code 16 = .ok (.iconst 2, 1) := by decide +kernel
theorem wd_K_improve_17 : decode method_16_code 17 = .ok (.ireturn, 1) := by decide +kernel
theorem wd_K_improve_18 : decode method_16_code 18 = .ok (.iconst 0, 1) := by decide +kernel
theorem wd_K_improve_19 : decode method_16_code 19 = .ok (.ireturn, 1) := by decide +kernel
end
