section

theorem wd_W_coil_0 : decode prog_1_method_2_code 0 = .ok (.iload_n 1, 1) := by decide +kernel
theorem wd_W_coil_1 : decode prog_1_method_2_code 1 = .ok (.iconst 1, 1) := by decide +kernel
theorem wd_W_coil_2 : decode prog_1_method_2_code 2 = .ok (.sipush 2000, 3) := by decide +kernel
theorem wd_W_coil_5 : decode prog_1_method_2_code 5 = .ok (.invokestatic 41, 3) := by decide +kernel
theorem wd_W_coil_8 : decode prog_1_method_2_code 8 = .ok (.ifCond .ne 35, 3) := by decide +kernel
theorem wd_W_coil_11 : decode prog_1_method_2_code 11 = .ok (.iload_n 2, 1) := by decide +kernel
theorem wd_W_coil_12 : decode prog_1_method_2_code 12 = .ok (.iconst 1, 1) := by decide +kernel
theorem wd_W_coil_13 : decode prog_1_method_2_code 13 = .ok (.sipush 1000, 3) := by decide +kernel
theorem wd_W_coil_16 : decode prog_1_method_2_code 16 = .ok (.invokestatic 41, 3) := by decide +kernel
theorem wd_W_coil_19 : decode prog_1_method_2_code 19 = .ok (.ifCond .ne 24, 3) := by decide +kernel
theorem wd_W_coil_22 : decode prog_1_method_2_code 22 = .ok (.iload_n 3, 1) := by decide +kernel
theorem wd_W_coil_23 : decode prog_1_method_2_code 23 = .ok (.iconst 0, 1) := by decide +kernel
theorem wd_W_coil_24 : decode prog_1_method_2_code 24 = .ok (.bipush 9, 2) := by decide +kernel
theorem wd_W_coil_26 : decode prog_1_method_2_code 26 = .ok (.invokestatic 41, 3) := by decide +kernel
theorem wd_W_coil_29 : decode prog_1_method_2_code 29 = .ok (.ifCond .ne 14, 3) := by decide +kernel
theorem wd_W_coil_32 : decode prog_1_method_2_code 32 = .ok (.iload 4, 2) := by decide +kernel
theorem wd_W_coil_34 : decode prog_1_method_2_code 34 = .ok (.iconst 1, 1) := by decide +kernel
theorem wd_W_coil_35 : decode prog_1_method_2_code 35 = .ok (.bipush 100, 2) := by decide +kernel
theorem wd_W_coil_37 : decode prog_1_method_2_code 37 = .ok (.invokestatic 41, 3) := by decide +kernel
theorem wd_W_coil_40 : decode prog_1_method_2_code 40 = .ok (.ifCond .eq 13, 3) := by decide +kernel
theorem wd_W_coil_43 : decode prog_1_method_2_code 43 = .ok (.new 45, 3) := by decide +kernel
theorem wd_W_coil_46 : decode prog_1_method_2_code 46 = .ok (.dup, 1) := by decide +kernel
theorem wd_W_coil_47 : decode prog_1_method_2_code 47 = .ok (.ldc 47, 2) := by decide +kernel
theorem wd_W_coil_49 : decode prog_1_method_2_code 49 = .ok (.invokespecial 49, 3) := by decide +kernel
theorem wd_W_coil_52 : decode prog_1_method_2_code 52 = .ok (.athrow, 1) := by decide +kernel
theorem wd_W_coil_53 : decode prog_1_method_2_code 53 = .ok (.aload_n 0, 1) := by decide +kernel
theorem wd_W_coil_54 : decode prog_1_method_2_code 54 = .ok (.getfield 10, 3) := by decide +kernel
theorem wd_W_coil_57 : decode prog_1_method_2_code 57 = .ok (.getfield 52, 3) := by decide +kernel
theorem wd_W_coil_60 : decode prog_1_method_2_code 60 = .ok (.bipush 9, 2) := by decide +kernel
theorem wd_W_coil_62 : decode prog_1_method_2_code 62 = .ok (.if_icmp .lt 13, 3) := by decide +kernel
theorem wd_W_coil_65 : decode prog_1_method_2_code 65 = .ok (.new 56, 3) := by decide +kernel
theorem wd_W_coil_68 : decode prog_1_method_2_code 68 = .ok (.dup, 1) := by decide +kernel
theorem wd_W_coil_69 : decode prog_1_method_2_code 69 = .ok (.ldc 58, 2) := by decide +kernel
theorem wd_W_coil_71 : decode prog_1_method_2_code 71 = .ok (.invokespecial 60, 3) := by decide +kernel
theorem wd_W_coil_74 : decode prog_1_method_2_code 74 = .ok (.athrow, 1) := by decide +kernel
theorem wd_W_coil_75 : decode prog_1_method_2_code 75 = .ok (.aload_n 0, 1) := by decide +kernel
theorem wd_W_coil_76 : decode prog_1_method_2_code 76 = .ok (.invokevirtual 61, 3) := by decide +kernel
theorem wd_W_coil_79 : decode prog_1_method_2_code 79 = .ok (.aload_n 0, 1) := by decide +kernel
theorem wd_W_coil_80 : decode prog_1_method_2_code 80 = .ok (.getfield 10, 3) := by decide +kernel
theorem wd_W_coil_83 : decode prog_1_method_2_code 83 = .ok (.iload_n 1, 1) := by decide +kernel
theorem wd_W_coil_84 : decode prog_1_method_2_code 84 = .ok (.iload_n 2, 1) := by decide +kernel
theorem wd_W_coil_85 : decode prog_1_method_2_code 85 = .ok (.iload_n 3, 1) := by decide +kernel
theorem wd_W_coil_86 : decode prog_1_method_2_code 86 = .ok (.iload 4, 2) := by decide +kernel
theorem wd_W_coil_88 : decode prog_1_method_2_code 88 = .ok (.invokevirtual 64, 3) := by decide +kernel
theorem wd_W_coil_91 : decode prog_1_method_2_code 91 = .ok (.ireturn, 1) := by decide +kernel
end
section

theorem wd_W_table_0 : decode prog_1_method_3_code 0 = .ok (.iload_n 1, 1) := by decide +kernel
theorem wd_W_table_1 : decode prog_1_method_3_code 1 = .ok (.iconst 0, 1) := by decide +kernel
theorem wd_W_table_2 : decode prog_1_method_3_code 2 = .ok (.iconst 1, 1) := by decide +kernel
theorem wd_W_table_3 : decode prog_1_method_3_code 3 = .ok (.invokestatic 41, 3) := by decide +kernel
theorem wd_W_table_6 : decode prog_1_method_3_code 6 = .ok (.ifCond .eq 13, 3) := by decide +kernel
theorem wd_W_table_9 : decode prog_1_method_3_code 9 = .ok (.new 68, 3) := by decide +kernel
theorem wd_W_table_12 : decode prog_1_method_3_code 12 = .ok (.dup, 1) := by decide +kernel
theorem wd_W_table_13 : decode prog_1_method_3_code 13 = .ok (.ldc 70, 2) := by decide +kernel
theorem wd_W_table_15 : decode prog_1_method_3_code 15 = .ok (.invokespecial 72, 3) := by decide +kernel
theorem wd_W_table_18 : decode prog_1_method_3_code 18 = .ok (.athrow, 1) := by decide +kernel
theorem wd_W_table_19 : decode prog_1_method_3_code 19 = .ok (.iload_n 2, 1) := by decide +kernel
theorem wd_W_table_20 : decode prog_1_method_3_code 20 = .ok (.iconst 0, 1) := by decide +kernel
theorem wd_W_table_21 : decode prog_1_method_3_code 21 = .ok (.sipush 1000, 3) := by decide +kernel
theorem wd_W_table_24 : decode prog_1_method_3_code 24 = .ok (.invokestatic 41, 3) := by decide +kernel
theorem wd_W_table_27 : decode prog_1_method_3_code 27 = .ok (.ifCond .ne 26, 3) := by decide +kernel
theorem wd_W_table_30 : decode prog_1_method_3_code 30 = .ok (.iload_n 3, 1) := by decide +kernel
theorem wd_W_table_31 : decode prog_1_method_3_code 31 = .ok (.iload_n 2, 1) := by decide +kernel
theorem wd_W_table_32 : decode prog_1_method_3_code 32 = .ok (.sipush 1000, 3) := by decide +kernel
theorem wd_W_table_35 : decode prog_1_method_3_code 35 = .ok (.invokestatic 41, 3) := by decide +kernel
theorem wd_W_table_38 : decode prog_1_method_3_code 38 = .ok (.ifCond .ne 15, 3) := by decide +kernel
theorem wd_W_table_41 : decode prog_1_method_3_code 41 = .ok (.iload 4, 2) := by decide +kernel
theorem wd_W_table_43 : decode prog_1_method_3_code 43 = .ok (.iconst 0, 1) := by decide +kernel
theorem wd_W_table_44 : decode prog_1_method_3_code 44 = .ok (.sipush 10000, 3) := by decide +kernel
theorem wd_W_table_47 : decode prog_1_method_3_code 47 = .ok (.invokestatic 41, 3) := by decide +kernel
theorem wd_W_table_50 : decode prog_1_method_3_code 50 = .ok (.ifCond .eq 13, 3) := by decide +kernel
theorem wd_W_table_53 : decode prog_1_method_3_code 53 = .ok (.new 45, 3) := by decide +kernel
theorem wd_W_table_56 : decode prog_1_method_3_code 56 = .ok (.dup, 1) := by decide +kernel
theorem wd_W_table_57 : decode prog_1_method_3_code 57 = .ok (.ldc 73, 2) := by decide +kernel
theorem wd_W_table_59 : decode prog_1_method_3_code 59 = .ok (.invokespecial 49, 3) := by decide +kernel
theorem wd_W_table_62 : decode prog_1_method_3_code 62 = .ok (.athrow, 1) := by decide +kernel
theorem wd_W_table_63 : decode prog_1_method_3_code 63 = .ok (.iload_n 1, 1) := by decide +kernel
theorem wd_W_table_64 : decode prog_1_method_3_code 64 = .ok (.ifCond .ne 13, 3) := by decide +kernel
theorem wd_W_table_67 : decode prog_1_method_3_code 67 = .ok (.aload_n 0, 1) := by decide +kernel
theorem wd_W_table_68 : decode prog_1_method_3_code 68 = .ok (.getfield 10, 3) := by decide +kernel
theorem wd_W_table_71 : decode prog_1_method_3_code 71 = .ok (.getfield 75, 3) := by decide +kernel
theorem wd_W_table_74 : decode prog_1_method_3_code 74 = .ok (.goto 10, 3) := by decide +kernel
theorem wd_W_table_77 : decode prog_1_method_3_code 77 = .ok (.aload_n 0, 1) := by decide +kernel
theorem wd_W_table_78 : decode prog_1_method_3_code 78 = .ok (.getfield 10, 3) := by decide +kernel
theorem wd_W_table_81 : decode prog_1_method_3_code 81 = .ok (.getfield 79, 3) := by decide +kernel
theorem wd_W_table_84 : decode prog_1_method_3_code 84 = .ok (.astore 5, 2) := by decide +kernel
theorem wd_W_table_86 : decode prog_1_method_3_code 86 = .ok (.aload 5, 2) := by decide +kernel
theorem wd_W_table_88 : decode prog_1_method_3_code 88 = .ok (.getfield 82, 3) := by decide +kernel
theorem wd_W_table_91 : decode prog_1_method_3_code 91 = .ok (.bipush 8, 2) := by decide +kernel
theorem wd_W_table_93 : decode prog_1_method_3_code 93 = .ok (.if_icmp .lt 13, 3) := by decide +kernel
theorem wd_W_table_96 : decode prog_1_method_3_code 96 = .ok (.new 56, 3) := by decide +kernel
theorem wd_W_table_99 : decode prog_1_method_3_code 99 = .ok (.dup, 1) := by decide +kernel
theorem wd_W_table_100 : decode prog_1_method_3_code 100 = .ok (.ldc 87, 2) := by decide +kernel
theorem wd_W_table_102 : decode prog_1_method_3_code 102 = .ok (.invokespecial 60, 3) := by decide +kernel
theorem wd_W_table_105 : decode prog_1_method_3_code 105 = .ok (.athrow, 1) := by decide +kernel
theorem wd_W_table_106 : decode prog_1_method_3_code 106 = .ok (.aload_n 0, 1) := by decide +kernel
theorem wd_W_table_107 : decode prog_1_method_3_code 107 = .ok (.invokevirtual 61, 3) := by decide +kernel
theorem wd_W_table_110 : decode prog_1_method_3_code 110 = .ok (.aload 5, 2) := by decide +kernel
theorem wd_W_table_112 : decode prog_1_method_3_code 112 = .ok (.iload_n 2, 1) := by decide +kernel
theorem wd_W_table_113 : decode prog_1_method_3_code 113 = .ok (.iload_n 3, 1) := by decide +kernel
theorem wd_W_table_114 : decode prog_1_method_3_code 114 = .ok (.iload 4, 2) := by decide +kernel
theorem wd_W_table_116 : decode prog_1_method_3_code 116 = .ok (.invokevirtual 89, 3) := by decide +kernel
theorem wd_W_table_119 : decode prog_1_method_3_code 119 = .ok (.aload_n 0, 1) := by decide +kernel
theorem wd_W_table_120 : decode prog_1_method_3_code 120 = .ok (.getfield 10, 3) := by decide +kernel
theorem wd_W_table_123 : decode prog_1_method_3_code 123 = .ok (.invokevirtual 93, 3) := by decide +kernel
theorem wd_W_table_126 : decode prog_1_method_3_code 126 = .ok (.aload 5, 2) := by decide +kernel
theorem wd_W_table_128 : decode prog_1_method_3_code 128 = .ok (.getfield 82, 3) := by decide +kernel
theorem wd_W_table_131 : decode prog_1_method_3_code 131 = .ok (.ireturn, 1) := by decide +kernel
end
section

theorem wd_W_group_0 : decode prog_1_method_4_code 0 = .ok (.iload_n 1, 1) := by decide +kernel
theorem wd_W_group_1 : decode prog_1_method_4_code 1 = .ok (.iconst 1, 1) := by decide +kernel
theorem wd_W_group_2 : decode prog_1_method_4_code 2 = .ok (.sipush 2000, 3) := by decide +kernel
theorem wd_W_group_5 : decode prog_1_method_4_code 5 = .ok (.invokestatic 41, 3) := by decide +kernel
theorem wd_W_group_8 : decode prog_1_method_4_code 8 = .ok (.ifCond .ne 25, 3) := by decide +kernel
theorem wd_W_group_11 : decode prog_1_method_4_code 11 = .ok (.iload_n 2, 1) := by decide +kernel
theorem wd_W_group_12 : decode prog_1_method_4_code 12 = .ok (.iload_n 1, 1) := by decide +kernel
theorem wd_W_group_13 : decode prog_1_method_4_code 13 = .ok (.sipush 2000, 3) := by decide +kernel
theorem wd_W_group_16 : decode prog_1_method_4_code 16 = .ok (.invokestatic 41, 3) := by decide +kernel
theorem wd_W_group_19 : decode prog_1_method_4_code 19 = .ok (.ifCond .ne 14, 3) := by decide +kernel
theorem wd_W_group_22 : decode prog_1_method_4_code 22 = .ok (.iload_n 3, 1) := by decide +kernel
theorem wd_W_group_23 : decode prog_1_method_4_code 23 = .ok (.iconst 1, 1) := by decide +kernel
theorem wd_W_group_24 : decode prog_1_method_4_code 24 = .ok (.sipush 1000, 3) := by decide +kernel
theorem wd_W_group_27 : decode prog_1_method_4_code 27 = .ok (.invokestatic 41, 3) := by decide +kernel
theorem wd_W_group_30 : decode prog_1_method_4_code 30 = .ok (.ifCond .eq 13, 3) := by decide +kernel
theorem wd_W_group_33 : decode prog_1_method_4_code 33 = .ok (.new 45, 3) := by decide +kernel
theorem wd_W_group_36 : decode prog_1_method_4_code 36 = .ok (.dup, 1) := by decide +kernel
theorem wd_W_group_37 : decode prog_1_method_4_code 37 = .ok (.ldc 96, 2) := by decide +kernel
theorem wd_W_group_39 : decode prog_1_method_4_code 39 = .ok (.invokespecial 49, 3) := by decide +kernel
theorem wd_W_group_42 : decode prog_1_method_4_code 42 = .ok (.athrow, 1) := by decide +kernel
theorem wd_W_group_43 : decode prog_1_method_4_code 43 = .ok (.aload_n 0, 1) := by decide +kernel
theorem wd_W_group_44 : decode prog_1_method_4_code 44 = .ok (.getfield 10, 3) := by decide +kernel
theorem wd_W_group_47 : decode prog_1_method_4_code 47 = .ok (.getfield 98, 3) := by decide +kernel
theorem wd_W_group_50 : decode prog_1_method_4_code 50 = .ok (.getfield 102, 3) := by decide +kernel
theorem wd_W_group_53 : decode prog_1_method_4_code 53 = .ok (.iconst 4, 1) := by decide +kernel
theorem wd_W_group_54 : decode prog_1_method_4_code 54 = .ok (.if_icmp .lt 13, 3) := by decide +kernel
theorem wd_W_group_57 : decode prog_1_method_4_code 57 = .ok (.new 56, 3) := by decide +kernel
theorem wd_W_group_60 : decode prog_1_method_4_code 60 = .ok (.dup, 1) := by decide +kernel
theorem wd_W_group_61 : decode prog_1_method_4_code 61 = .ok (.ldc 105, 2) := by decide +kernel
theorem wd_W_group_63 : decode prog_1_method_4_code 63 = .ok (.invokespecial 60, 3) := by decide +kernel
theorem wd_W_group_66 : decode prog_1_method_4_code 66 = .ok (.athrow, 1) := by decide +kernel
theorem wd_W_group_67 : decode prog_1_method_4_code 67 = .ok (.aload_n 0, 1) := by decide +kernel
theorem wd_W_group_68 : decode prog_1_method_4_code 68 = .ok (.invokevirtual 61, 3) := by decide +kernel
theorem wd_W_group_71 : decode prog_1_method_4_code 71 = .ok (.aload_n 0, 1) := by decide +kernel
theorem wd_W_group_72 : decode prog_1_method_4_code 72 = .ok (.getfield 10, 3) := by decide +kernel
theorem wd_W_group_75 : decode prog_1_method_4_code 75 = .ok (.getfield 98, 3) := by decide +kernel
theorem wd_W_group_78 : decode prog_1_method_4_code 78 = .ok (.iload_n 1, 1) := by decide +kernel
theorem wd_W_group_79 : decode prog_1_method_4_code 79 = .ok (.iload_n 2, 1) := by decide +kernel
theorem wd_W_group_80 : decode prog_1_method_4_code 80 = .ok (.iload_n 3, 1) := by decide +kernel
theorem wd_W_group_81 : decode prog_1_method_4_code 81 = .ok (.invokevirtual 107, 3) := by decide +kernel
theorem wd_W_group_84 : decode prog_1_method_4_code 84 = .ok (.aload_n 0, 1) := by decide +kernel
theorem wd_W_group_85 : decode prog_1_method_4_code 85 = .ok (.getfield 10, 3) := by decide +kernel
theorem wd_W_group_88 : decode prog_1_method_4_code 88 = .ok (.getfield 98, 3) := by decide +kernel
theorem wd_W_group_91 : decode prog_1_method_4_code 91 = .ok (.getfield 102, 3) := by decide +kernel
theorem wd_W_group_94 : decode prog_1_method_4_code 94 = .ok (.ireturn, 1) := by decide +kernel
end
section

theorem wd_W_urgent_0 : decode prog_1_method_5_code 0 = .ok (.aload_n 0, 1) := by decide +kernel
theorem wd_W_urgent_1 : decode prog_1_method_5_code 1 = .ok (.iload_n 1, 1) := by decide +kernel
theorem wd_W_urgent_2 : decode prog_1_method_5_code 2 = .ok (.invokevirtual 110, 3) := by decide +kernel
theorem wd_W_urgent_5 : decode prog_1_method_5_code 5 = .ok (.ifCond .eq 13, 3) := by decide +kernel
theorem wd_W_urgent_8 : decode prog_1_method_5_code 8 = .ok (.new 68, 3) := by decide +kernel
theorem wd_W_urgent_11 : decode prog_1_method_5_code 11 = .ok (.dup, 1) := by decide +kernel
theorem wd_W_urgent_12 : decode prog_1_method_5_code 12 = .ok (.ldc 114, 2) := by decide +kernel
theorem wd_W_urgent_14 : decode prog_1_method_5_code 14 = .ok (.invokespecial 72, 3) := by decide +kernel
theorem wd_W_urgent_17 : decode prog_1_method_5_code 17 = .ok (.athrow, 1) := by decide +kernel
theorem wd_W_urgent_18 : decode prog_1_method_5_code 18 = .ok (.iload_n 2, 1) := by decide +kernel
theorem wd_W_urgent_19 : decode prog_1_method_5_code 19 = .ok (.iconst 0, 1) := by decide +kernel
theorem wd_W_urgent_20 : decode prog_1_method_5_code 20 = .ok (.bipush 8, 2) := by decide +kernel
theorem wd_W_urgent_22 : decode prog_1_method_5_code 22 = .ok (.invokestatic 41, 3) := by decide +kernel
theorem wd_W_urgent_25 : decode prog_1_method_5_code 25 = .ok (.ifCond .eq 13, 3) := by decide +kernel
theorem wd_W_urgent_28 : decode prog_1_method_5_code 28 = .ok (.new 45, 3) := by decide +kernel
theorem wd_W_urgent_31 : decode prog_1_method_5_code 31 = .ok (.dup, 1) := by decide +kernel
theorem wd_W_urgent_32 : decode prog_1_method_5_code 32 = .ok (.ldc 116, 2) := by decide +kernel
theorem wd_W_urgent_34 : decode prog_1_method_5_code 34 = .ok (.invokespecial 49, 3) := by decide +kernel
theorem wd_W_urgent_37 : decode prog_1_method_5_code 37 = .ok (.athrow, 1) := by decide +kernel
theorem wd_W_urgent_38 : decode prog_1_method_5_code 38 = .ok (.aload_n 0, 1) := by decide +kernel
theorem wd_W_urgent_39 : decode prog_1_method_5_code 39 = .ok (.invokevirtual 61, 3) := by decide +kernel
theorem wd_W_urgent_42 : decode prog_1_method_5_code 42 = .ok (.aload_n 0, 1) := by decide +kernel
theorem wd_W_urgent_43 : decode prog_1_method_5_code 43 = .ok (.getfield 10, 3) := by decide +kernel
theorem wd_W_urgent_46 : decode prog_1_method_5_code 46 = .ok (.getfield 118, 3) := by decide +kernel
theorem wd_W_urgent_49 : decode prog_1_method_5_code 49 = .ok (.iload_n 1, 1) := by decide +kernel
theorem wd_W_urgent_50 : decode prog_1_method_5_code 50 = .ok (.iload_n 2, 1) := by decide +kernel
theorem wd_W_urgent_51 : decode prog_1_method_5_code 51 = .ok (.iastore, 1) := by decide +kernel
theorem wd_W_urgent_52 : decode prog_1_method_5_code 52 = .ok (.return_, 1) := by decide +kernel
end
section

theorem wd_W_old_0 : decode prog_1_method_6_code 0 = .ok (.aload_n 0, 1) := by decide +kernel
theorem wd_W_old_1 : decode prog_1_method_6_code 1 = .ok (.iload_n 1, 1) := by decide +kernel
theorem wd_W_old_2 : decode prog_1_method_6_code 2 = .ok (.invokevirtual 110, 3) := by decide +kernel
theorem wd_W_old_5 : decode prog_1_method_6_code 5 = .ok (.ifCond .eq 13, 3) := by decide +kernel
theorem wd_W_old_8 : decode prog_1_method_6_code 8 = .ok (.new 68, 3) := by decide +kernel
theorem wd_W_old_11 : decode prog_1_method_6_code 11 = .ok (.dup, 1) := by decide +kernel
theorem wd_W_old_12 : decode prog_1_method_6_code 12 = .ok (.ldc 114, 2) := by decide +kernel
theorem wd_W_old_14 : decode prog_1_method_6_code 14 = .ok (.invokespecial 72, 3) := by decide +kernel
theorem wd_W_old_17 : decode prog_1_method_6_code 17 = .ok (.athrow, 1) := by decide +kernel
theorem wd_W_old_18 : decode prog_1_method_6_code 18 = .ok (.iload_n 2, 1) := by decide +kernel
theorem wd_W_old_19 : decode prog_1_method_6_code 19 = .ok (.iconst (-1), 1) := by decide +kernel
theorem wd_W_old_20 : decode prog_1_method_6_code 20 = .ok (.bipush 8, 2) := by decide +kernel
theorem wd_W_old_22 : decode prog_1_method_6_code 22 = .ok (.invokestatic 41, 3) := by decide +kernel
theorem wd_W_old_25 : decode prog_1_method_6_code 25 = .ok (.ifCond .eq 13, 3) := by decide +kernel
theorem wd_W_old_28 : decode prog_1_method_6_code 28 = .ok (.new 45, 3) := by decide +kernel
theorem wd_W_old_31 : decode prog_1_method_6_code 31 = .ok (.dup, 1) := by decide +kernel
theorem wd_W_old_32 : decode prog_1_method_6_code 32 = .ok (.ldc 121, 2) := by decide +kernel
theorem wd_W_old_34 : decode prog_1_method_6_code 34 = .ok (.invokespecial 49, 3) := by decide +kernel
theorem wd_W_old_37 : decode prog_1_method_6_code 37 = .ok (.athrow, 1) := by decide +kernel
theorem wd_W_old_38 : decode prog_1_method_6_code 38 = .ok (.aload_n 0, 1) := by decide +kernel
theorem wd_W_old_39 : decode prog_1_method_6_code 39 = .ok (.invokevirtual 61, 3) := by decide +kernel
theorem wd_W_old_42 : decode prog_1_method_6_code 42 = .ok (.aload_n 0, 1) := by decide +kernel
theorem wd_W_old_43 : decode prog_1_method_6_code 43 = .ok (.getfield 10, 3) := by decide +kernel
theorem wd_W_old_46 : decode prog_1_method_6_code 46 = .ok (.getfield 123, 3) := by decide +kernel
theorem wd_W_old_49 : decode prog_1_method_6_code 49 = .ok (.iload_n 1, 1) := by decide +kernel
theorem wd_W_old_50 : decode prog_1_method_6_code 50 = .ok (.iload_n 2, 1) := by decide +kernel
theorem wd_W_old_51 : decode prog_1_method_6_code 51 = .ok (.iastore, 1) := by decide +kernel
theorem wd_W_old_52 : decode prog_1_method_6_code 52 = .ok (.return_, 1) := by decide +kernel
end
section

theorem wd_W_rules_0 : decode prog_1_method_7_code 0 = .ok (.iload_n 1, 1) := by decide +kernel
theorem wd_W_rules_1 : decode prog_1_method_7_code 1 = .ok (.iconst 0, 1) := by decide +kernel
theorem wd_W_rules_2 : decode prog_1_method_7_code 2 = .ok (.bipush 9, 2) := by decide +kernel
theorem wd_W_rules_4 : decode prog_1_method_7_code 4 = .ok (.invokestatic 41, 3) := by decide +kernel
theorem wd_W_rules_7 : decode prog_1_method_7_code 7 = .ok (.ifCond .ne 37, 3) := by decide +kernel
theorem wd_W_rules_10 : decode prog_1_method_7_code 10 = .ok (.iload_n 2, 1) := by decide +kernel
theorem wd_W_rules_11 : decode prog_1_method_7_code 11 = .ok (.iconst 1, 1) := by decide +kernel
theorem wd_W_rules_12 : decode prog_1_method_7_code 12 = .ok (.sipush 1000, 3) := by decide +kernel
theorem wd_W_rules_15 : decode prog_1_method_7_code 15 = .ok (.invokestatic 41, 3) := by decide +kernel
theorem wd_W_rules_18 : decode prog_1_method_7_code 18 = .ok (.ifCond .ne 26, 3) := by decide +kernel
theorem wd_W_rules_21 : decode prog_1_method_7_code 21 = .ok (.iload_n 3, 1) := by decide +kernel
theorem wd_W_rules_22 : decode prog_1_method_7_code 22 = .ok (.iconst 0, 1) := by decide +kernel
theorem wd_W_rules_23 : decode prog_1_method_7_code 23 = .ok (.sipush 10000, 3) := by decide +kernel
theorem wd_W_rules_26 : decode prog_1_method_7_code 26 = .ok (.invokestatic 41, 3) := by decide +kernel
theorem wd_W_rules_29 : decode prog_1_method_7_code 29 = .ok (.ifCond .ne 15, 3) := by decide +kernel
theorem wd_W_rules_32 : decode prog_1_method_7_code 32 = .ok (.iload 4, 2) := by decide +kernel
theorem wd_W_rules_34 : decode prog_1_method_7_code 34 = .ok (.iconst 0, 1) := by decide +kernel
theorem wd_W_rules_35 : decode prog_1_method_7_code 35 = .ok (.sipush 10000, 3) := by decide +kernel
theorem wd_W_rules_38 : decode prog_1_method_7_code 38 = .ok (.invokestatic 41, 3) := by decide +kernel
theorem wd_W_rules_41 : decode prog_1_method_7_code 41 = .ok (.ifCond .eq 13, 3) := by decide +kernel
theorem wd_W_rules_44 : decode prog_1_method_7_code 44 = .ok (.new 45, 3) := by decide +kernel
theorem wd_W_rules_47 : decode prog_1_method_7_code 47 = .ok (.dup, 1) := by decide +kernel
theorem wd_W_rules_48 : decode prog_1_method_7_code 48 = .ok (.ldc 126, 2) := by decide +kernel
theorem wd_W_rules_50 : decode prog_1_method_7_code 50 = .ok (.invokespecial 49, 3) := by decide +kernel
theorem wd_W_rules_53 : decode prog_1_method_7_code 53 = .ok (.athrow, 1) := by decide +kernel
theorem wd_W_rules_54 : decode prog_1_method_7_code 54 = .ok (.aload_n 0, 1) := by decide +kernel
theorem wd_W_rules_55 : decode prog_1_method_7_code 55 = .ok (.invokevirtual 61, 3) := by decide +kernel
theorem wd_W_rules_58 : decode prog_1_method_7_code 58 = .ok (.aload_n 0, 1) := by decide +kernel
theorem wd_W_rules_59 : decode prog_1_method_7_code 59 = .ok (.getfield 10, 3) := by decide +kernel
theorem wd_W_rules_62 : decode prog_1_method_7_code 62 = .ok (.iload_n 1, 1) := by decide +kernel
theorem wd_W_rules_63 : decode prog_1_method_7_code 63 = .ok (.putfield 128, 3) := by decide +kernel
theorem wd_W_rules_66 : decode prog_1_method_7_code 66 = .ok (.aload_n 0, 1) := by decide +kernel
theorem wd_W_rules_67 : decode prog_1_method_7_code 67 = .ok (.getfield 10, 3) := by decide +kernel
theorem wd_W_rules_70 : decode prog_1_method_7_code 70 = .ok (.iload_n 2, 1) := by decide +kernel
theorem wd_W_rules_71 : decode prog_1_method_7_code 71 = .ok (.putfield 131, 3) := by decide +kernel
theorem wd_W_rules_74 : decode prog_1_method_7_code 74 = .ok (.aload_n 0, 1) := by decide +kernel
theorem wd_W_rules_75 : decode prog_1_method_7_code 75 = .ok (.getfield 10, 3) := by decide +kernel
theorem wd_W_rules_78 : decode prog_1_method_7_code 78 = .ok (.iload_n 3, 1) := by decide +kernel
theorem wd_W_rules_79 : decode prog_1_method_7_code 79 = .ok (.putfield 134, 3) := by decide +kernel
theorem wd_W_rules_82 : decode prog_1_method_7_code 82 = .ok (.aload_n 0, 1) := by decide +kernel
theorem wd_W_rules_83 : decode prog_1_method_7_code 83 = .ok (.getfield 10, 3) := by decide +kernel
theorem wd_W_rules_86 : decode prog_1_method_7_code 86 = .ok (.iload 4, 2) := by decide +kernel
theorem wd_W_rules_88 : decode prog_1_method_7_code 88 = .ok (.putfield 137, 3) := by decide +kernel
theorem wd_W_rules_91 : decode prog_1_method_7_code 91 = .ok (.return_, 1) := by decide +kernel
end
section

theorem wd_W_run_0 : decode prog_1_method_8_code 0 = .ok (.iload_n 1, 1) := by decide +kernel
theorem wd_W_run_1 : decode prog_1_method_8_code 1 = .ok (.iconst 0, 1) := by decide +kernel
theorem wd_W_run_2 : decode prog_1_method_8_code 2 = .ok (.ldc 140, 2) := by decide +kernel
theorem wd_W_run_4 : decode prog_1_method_8_code 4 = .ok (.invokestatic 41, 3) := by decide +kernel
theorem wd_W_run_7 : decode prog_1_method_8_code 7 = .ok (.ifCond .eq 13, 3) := by decide +kernel
theorem wd_W_run_10 : decode prog_1_method_8_code 10 = .ok (.new 45, 3) := by decide +kernel
theorem wd_W_run_13 : decode prog_1_method_8_code 13 = .ok (.dup, 1) := by decide +kernel
theorem wd_W_run_14 : decode prog_1_method_8_code 14 = .ok (.ldc 141, 2) := by decide +kernel
theorem wd_W_run_16 : decode prog_1_method_8_code 16 = .ok (.invokespecial 49, 3) := by decide +kernel
theorem wd_W_run_19 : decode prog_1_method_8_code 19 = .ok (.athrow, 1) := by decide +kernel
theorem wd_W_run_20 : decode prog_1_method_8_code 20 = .ok (.aload_n 0, 1) := by decide +kernel
theorem wd_W_run_21 : decode prog_1_method_8_code 21 = .ok (.getfield 33, 3) := by decide +kernel
theorem wd_W_run_24 : decode prog_1_method_8_code 24 = .ok (.iload_n 1, 1) := by decide +kernel
theorem wd_W_run_25 : decode prog_1_method_8_code 25 = .ok (.invokevirtual 143, 3) := by decide +kernel
theorem wd_W_run_28 : decode prog_1_method_8_code 28 = .ok (.aload_n 0, 1) := by decide +kernel
theorem wd_W_run_29 : decode prog_1_method_8_code 29 = .ok (.iconst 1, 1) := by decide +kernel
theorem wd_W_run_30 : decode prog_1_method_8_code 30 = .ok (.putfield 147, 3) := by decide +kernel
theorem wd_W_run_33 : decode prog_1_method_8_code 33 = .ok (.aload_n 0, 1) := by decide +kernel
theorem wd_W_run_34 : decode prog_1_method_8_code 34 = .ok (.aload_n 0, 1) := by decide +kernel
theorem wd_W_run_35 : decode prog_1_method_8_code 35 = .ok (.getfield 33, 3) := by decide +kernel
theorem wd_W_run_38 : decode prog_1_method_8_code 38 = .ok (.getfield 151, 3) := by decide +kernel
theorem wd_W_run_41 : decode prog_1_method_8_code 41 = .ok (.putfield 154, 3) := by decide +kernel
theorem wd_W_run_44 : decode prog_1_method_8_code 44 = .ok (.aload_n 0, 1) := by decide +kernel
theorem wd_W_run_45 : decode prog_1_method_8_code 45 = .ok (.getfield 154, 3) := by decide +kernel
theorem wd_W_run_48 : decode prog_1_method_8_code 48 = .ok (.ifCond .ne 5, 3) := by decide +kernel
theorem wd_W_run_51 : decode prog_1_method_8_code 51 = .ok (.iconst (-1), 1) := by decide +kernel
theorem wd_W_run_52 : decode prog_1_method_8_code 52 = .ok (.ireturn, 1) := by decide +kernel
theorem wd_W_run_53 : decode prog_1_method_8_code 53 = .ok (.aload_n 0, 1) := by decide +kernel
theorem wd_W_run_54 : decode prog_1_method_8_code 54 = .ok (.getfield 25, 3) := by decide +kernel
theorem wd_W_run_57 : decode prog_1_method_8_code 57 = .ok (.aload_n 0, 1) := by decide +kernel
theorem wd_W_run_58 : decode prog_1_method_8_code 58 = .ok (.getfield 33, 3) := by decide +kernel
theorem wd_W_run_61 : decode prog_1_method_8_code 61 = .ok (.getfield 157, 3) := by decide +kernel
theorem wd_W_run_64 : decode prog_1_method_8_code 64 = .ok (.invokevirtual 160, 3) := by decide +kernel
theorem wd_W_run_67 : decode prog_1_method_8_code 67 = .ok (.pop, 1) := by decide +kernel
theorem wd_W_run_68 : decode prog_1_method_8_code 68 = .ok (.aload_n 0, 1) := by decide +kernel
theorem wd_W_run_69 : decode prog_1_method_8_code 69 = .ok (.getfield 10, 3) := by decide +kernel
theorem wd_W_run_72 : decode prog_1_method_8_code 72 = .ok (.getfield 52, 3) := by decide +kernel
theorem wd_W_run_75 : decode prog_1_method_8_code 75 = .ok (.ireturn, 1) := by decide +kernel
end
section

theorem wd_W_proved_0 : decode prog_1_method_9_code 0 = .ok (.aload_n 0, 1) := by decide +kernel
theorem wd_W_proved_1 : decode prog_1_method_9_code 1 = .ok (.getfield 147, 3) := by decide +kernel
theorem wd_W_proved_4 : decode prog_1_method_9_code 4 = .ok (.ifCond .ne 13, 3) := by decide +kernel
theorem wd_W_proved_7 : decode prog_1_method_9_code 7 = .ok (.new 164, 3) := by decide +kernel
theorem wd_W_proved_10 : decode prog_1_method_9_code 10 = .ok (.dup, 1) := by decide +kernel
theorem wd_W_proved_11 : decode prog_1_method_9_code 11 = .ok (.ldc 166, 2) := by decide +kernel
theorem wd_W_proved_13 : decode prog_1_method_9_code 13 = .ok (.invokespecial 168, 3) := by decide +kernel
theorem wd_W_proved_16 : decode prog_1_method_9_code 16 = .ok (.athrow, 1) := by decide +kernel
theorem wd_W_proved_17 : decode prog_1_method_9_code 17 = .ok (.aload_n 0, 1) := by decide +kernel
theorem wd_W_proved_18 : decode prog_1_method_9_code 18 = .ok (.getfield 33, 3) := by decide +kernel
theorem wd_W_proved_21 : decode prog_1_method_9_code 21 = .ok (.getfield 169, 3) := by decide +kernel
theorem wd_W_proved_24 : decode prog_1_method_9_code 24 = .ok (.ifCond .ne 7, 3) := by decide +kernel
theorem wd_W_proved_27 : decode prog_1_method_9_code 27 = .ok (.iconst 1, 1) := by decide +kernel
theorem wd_W_proved_28 : decode prog_1_method_9_code 28 = .ok (.goto 4, 3) := by decide +kernel
theorem wd_W_proved_31 : decode prog_1_method_9_code 31 = .ok (.iconst 0, 1) := by decide +kernel
theorem wd_W_proved_32 : decode prog_1_method_9_code 32 = .ok (.ireturn, 1) := by decide +kernel
end
section

theorem wd_W_order_0 : decode prog_1_method_10_code 0 = .ok (.aload_n 0, 1) := by decide +kernel
theorem wd_W_order_1 : decode prog_1_method_10_code 1 = .ok (.invokevirtual 172, 3) := by decide +kernel
theorem wd_W_order_4 : decode prog_1_method_10_code 4 = .ok (.aload_n 0, 1) := by decide +kernel
theorem wd_W_order_5 : decode prog_1_method_10_code 5 = .ok (.iload_n 1, 1) := by decide +kernel
theorem wd_W_order_6 : decode prog_1_method_10_code 6 = .ok (.invokevirtual 175, 3) := by decide +kernel
theorem wd_W_order_9 : decode prog_1_method_10_code 9 = .ok (.aload_n 0, 1) := by decide +kernel
theorem wd_W_order_10 : decode prog_1_method_10_code 10 = .ok (.getfield 25, 3) := by decide +kernel
theorem wd_W_order_13 : decode prog_1_method_10_code 13 = .ok (.getfield 178, 3) := by decide +kernel
theorem wd_W_order_16 : decode prog_1_method_10_code 16 = .ok (.iload_n 1, 1) := by decide +kernel
theorem wd_W_order_17 : decode prog_1_method_10_code 17 = .ok (.iaload, 1) := by decide +kernel
theorem wd_W_order_18 : decode prog_1_method_10_code 18 = .ok (.ireturn, 1) := by decide +kernel
end
