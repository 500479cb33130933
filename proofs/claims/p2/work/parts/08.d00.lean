section

theorem wd_J_addRow_0 : decode prog_2_method_2_code 0 = .ok (.aload_n 0, 1) := by decide +kernel
theorem wd_J_addRow_1 : decode prog_2_method_2_code 1 = .ok (.getfield 9, 3) := by decide +kernel
theorem wd_J_addRow_4 : decode prog_2_method_2_code 4 = .ok (.aload_n 0, 1) := by decide +kernel
theorem wd_J_addRow_5 : decode prog_2_method_2_code 5 = .ok (.getfield 21, 3) := by decide +kernel
theorem wd_J_addRow_8 : decode prog_2_method_2_code 8 = .ok (.iload_n 1, 1) := by decide +kernel
theorem wd_J_addRow_9 : decode prog_2_method_2_code 9 = .ok (.iastore, 1) := by decide +kernel
theorem wd_J_addRow_10 : decode prog_2_method_2_code 10 = .ok (.aload_n 0, 1) := by decide +kernel
theorem wd_J_addRow_11 : decode prog_2_method_2_code 11 = .ok (.getfield 15, 3) := by decide +kernel
theorem wd_J_addRow_14 : decode prog_2_method_2_code 14 = .ok (.aload_n 0, 1) := by decide +kernel
theorem wd_J_addRow_15 : decode prog_2_method_2_code 15 = .ok (.getfield 21, 3) := by decide +kernel
theorem wd_J_addRow_18 : decode prog_2_method_2_code 18 = .ok (.iload_n 2, 1) := by decide +kernel
theorem wd_J_addRow_19 : decode prog_2_method_2_code 19 = .ok (.iastore, 1) := by decide +kernel
theorem wd_J_addRow_20 : decode prog_2_method_2_code 20 = .ok (.aload_n 0, 1) := by decide +kernel
theorem wd_J_addRow_21 : decode prog_2_method_2_code 21 = .ok (.getfield 18, 3) := by decide +kernel
theorem wd_J_addRow_24 : decode prog_2_method_2_code 24 = .ok (.aload_n 0, 1) := by decide +kernel
theorem wd_J_addRow_25 : decode prog_2_method_2_code 25 = .ok (.getfield 21, 3) := by decide +kernel
theorem wd_J_addRow_28 : decode prog_2_method_2_code 28 = .ok (.iload_n 3, 1) := by decide +kernel
theorem wd_J_addRow_29 : decode prog_2_method_2_code 29 = .ok (.iastore, 1) := by decide +kernel
theorem wd_J_addRow_30 : decode prog_2_method_2_code 30 = .ok (.aload_n 0, 1) := by decide +kernel
theorem wd_J_addRow_31 : decode prog_2_method_2_code 31 = .ok (.dup, 1) := by decide +kernel
theorem wd_J_addRow_32 : decode prog_2_method_2_code 32 = .ok (.getfield 21, 3) := by decide +kernel
theorem wd_J_addRow_35 : decode prog_2_method_2_code 35 = .ok (.iconst 1, 1) := by decide +kernel
theorem wd_J_addRow_36 : decode prog_2_method_2_code 36 = .ok (.iadd, 1) := by decide +kernel
theorem wd_J_addRow_37 : decode prog_2_method_2_code 37 = .ok (.putfield 21, 3) := by decide +kernel
theorem wd_J_addRow_40 : decode prog_2_method_2_code 40 = .ok (.return_, 1) := by decide +kernel
end
section

theorem wd_J_costOf_0 : decode prog_2_method_3_code 0 = .ok (.aload_n 0, 1) := by decide +kernel
theorem wd_J_costOf_1 : decode prog_2_method_3_code 1 = .ok (.getfield 21, 3) := by decide +kernel
theorem wd_J_costOf_4 : decode prog_2_method_3_code 4 = .ok (.ifCond .ne 5, 3) := by decide +kernel
theorem wd_J_costOf_7 : decode prog_2_method_3_code 7 = .ok (.iconst 0, 1) := by decide +kernel
theorem wd_J_costOf_8 : decode prog_2_method_3_code 8 = .ok (.ireturn, 1) := by decide +kernel
theorem wd_J_costOf_9 : decode prog_2_method_3_code 9 = .ok (.iconst 0, 1) := by decide +kernel
theorem wd_J_costOf_10 : decode prog_2_method_3_code 10 = .ok (.istore_n 2, 1) := by decide +kernel
theorem wd_J_costOf_11 : decode prog_2_method_3_code 11 = .ok (.iload_n 2, 1) := by decide +kernel
theorem wd_J_costOf_12 : decode prog_2_method_3_code 12 = .ok (.aload_n 0, 1) := by decide +kernel
theorem wd_J_costOf_13 : decode prog_2_method_3_code 13 = .ok (.getfield 21, 3) := by decide +kernel
theorem wd_J_costOf_16 : decode prog_2_method_3_code 16 = .ok (.if_icmp .ge 36, 3) := by decide +kernel
theorem wd_J_costOf_19 : decode prog_2_method_3_code 19 = .ok (.aload_n 0, 1) := by decide +kernel
theorem wd_J_costOf_20 : decode prog_2_method_3_code 20 = .ok (.getfield 9, 3) := by decide +kernel
theorem wd_J_costOf_23 : decode prog_2_method_3_code 23 = .ok (.iload_n 2, 1) := by decide +kernel
theorem wd_J_costOf_24 : decode prog_2_method_3_code 24 = .ok (.iaload, 1) := by decide +kernel
theorem wd_J_costOf_25 : decode prog_2_method_3_code 25 = .ok (.iload_n 1, 1) := by decide +kernel
theorem wd_J_costOf_26 : decode prog_2_method_3_code 26 = .ok (.if_icmp .gt 20, 3) := by decide +kernel
theorem wd_J_costOf_29 : decode prog_2_method_3_code 29 = .ok (.iload_n 1, 1) := by decide +kernel
theorem wd_J_costOf_30 : decode prog_2_method_3_code 30 = .ok (.aload_n 0, 1) := by decide +kernel
theorem wd_J_costOf_31 : decode prog_2_method_3_code 31 = .ok (.getfield 15, 3) := by decide +kernel
theorem wd_J_costOf_34 : decode prog_2_method_3_code 34 = .ok (.iload_n 2, 1) := by decide +kernel
theorem wd_J_costOf_35 : decode prog_2_method_3_code 35 = .ok (.iaload, 1) := by decide +kernel
theorem wd_J_costOf_36 : decode prog_2_method_3_code 36 = .ok (.if_icmp .gt 10, 3) := by decide +kernel
theorem wd_J_costOf_39 : decode prog_2_method_3_code 39 = .ok (.aload_n 0, 1) := by decide +kernel
theorem wd_J_costOf_40 : decode prog_2_method_3_code 40 = .ok (.getfield 18, 3) := by decide +kernel
theorem wd_J_costOf_43 : decode prog_2_method_3_code 43 = .ok (.iload_n 2, 1) := by decide +kernel
theorem wd_J_costOf_44 : decode prog_2_method_3_code 44 = .ok (.iaload, 1) := by decide +kernel
theorem wd_J_costOf_45 : decode prog_2_method_3_code 45 = .ok (.ireturn, 1) := by decide +kernel
theorem wd_J_costOf_46 : decode prog_2_method_3_code 46 = .ok (.iinc 2 1, 3) := by decide +kernel
theorem wd_J_costOf_49 : decode prog_2_method_3_code 49 = .ok (.goto (-38), 3) := by decide +kernel
theorem wd_J_costOf_52 : decode prog_2_method_3_code 52 = .ok (.iconst (-1), 1) := by decide +kernel
theorem wd_J_costOf_53 : decode prog_2_method_3_code 53 = .ok (.ireturn, 1) := by decide +kernel
end
section

theorem wd_G_addGroup_0 : decode prog_6_method_2_code 0 = .ok (.aload_n 0, 1) := by decide +kernel
theorem wd_G_addGroup_1 : decode prog_6_method_2_code 1 = .ok (.getfield 9, 3) := by decide +kernel
theorem wd_G_addGroup_4 : decode prog_6_method_2_code 4 = .ok (.aload_n 0, 1) := by decide +kernel
theorem wd_G_addGroup_5 : decode prog_6_method_2_code 5 = .ok (.getfield 21, 3) := by decide +kernel
theorem wd_G_addGroup_8 : decode prog_6_method_2_code 8 = .ok (.iload_n 1, 1) := by decide +kernel
theorem wd_G_addGroup_9 : decode prog_6_method_2_code 9 = .ok (.iastore, 1) := by decide +kernel
theorem wd_G_addGroup_10 : decode prog_6_method_2_code 10 = .ok (.aload_n 0, 1) := by decide +kernel
theorem wd_G_addGroup_11 : decode prog_6_method_2_code 11 = .ok (.getfield 15, 3) := by decide +kernel
theorem wd_G_addGroup_14 : decode prog_6_method_2_code 14 = .ok (.aload_n 0, 1) := by decide +kernel
theorem wd_G_addGroup_15 : decode prog_6_method_2_code 15 = .ok (.getfield 21, 3) := by decide +kernel
theorem wd_G_addGroup_18 : decode prog_6_method_2_code 18 = .ok (.iload_n 2, 1) := by decide +kernel
theorem wd_G_addGroup_19 : decode prog_6_method_2_code 19 = .ok (.iastore, 1) := by decide +kernel
theorem wd_G_addGroup_20 : decode prog_6_method_2_code 20 = .ok (.aload_n 0, 1) := by decide +kernel
theorem wd_G_addGroup_21 : decode prog_6_method_2_code 21 = .ok (.getfield 18, 3) := by decide +kernel
theorem wd_G_addGroup_24 : decode prog_6_method_2_code 24 = .ok (.aload_n 0, 1) := by decide +kernel
theorem wd_G_addGroup_25 : decode prog_6_method_2_code 25 = .ok (.getfield 21, 3) := by decide +kernel
theorem wd_G_addGroup_28 : decode prog_6_method_2_code 28 = .ok (.iload_n 3, 1) := by decide +kernel
theorem wd_G_addGroup_29 : decode prog_6_method_2_code 29 = .ok (.iastore, 1) := by decide +kernel
theorem wd_G_addGroup_30 : decode prog_6_method_2_code 30 = .ok (.aload_n 0, 1) := by decide +kernel
theorem wd_G_addGroup_31 : decode prog_6_method_2_code 31 = .ok (.dup, 1) := by decide +kernel
theorem wd_G_addGroup_32 : decode prog_6_method_2_code 32 = .ok (.getfield 21, 3) := by decide +kernel
theorem wd_G_addGroup_35 : decode prog_6_method_2_code 35 = .ok (.iconst 1, 1) := by decide +kernel
theorem wd_G_addGroup_36 : decode prog_6_method_2_code 36 = .ok (.iadd, 1) := by decide +kernel
theorem wd_G_addGroup_37 : decode prog_6_method_2_code 37 = .ok (.putfield 21, 3) := by decide +kernel
theorem wd_G_addGroup_40 : decode prog_6_method_2_code 40 = .ok (.return_, 1) := by decide +kernel
end
section

theorem wd_P_reckonJump_0 : decode prog_4_method_4_code 0 = .ok (.aload_n 0, 1) := by decide +kernel
theorem wd_P_reckonJump_1 : decode prog_4_method_4_code 1 = .ok (.getfield 38, 3) := by decide +kernel
theorem wd_P_reckonJump_4 : decode prog_4_method_4_code 4 = .ok (.aload_n 0, 1) := by decide +kernel
theorem wd_P_reckonJump_5 : decode prog_4_method_4_code 5 = .ok (.getfield 18, 3) := by decide +kernel
theorem wd_P_reckonJump_8 : decode prog_4_method_4_code 8 = .ok (.iload_n 1, 1) := by decide +kernel
theorem wd_P_reckonJump_9 : decode prog_4_method_4_code 9 = .ok (.iaload, 1) := by decide +kernel
theorem wd_P_reckonJump_10 : decode prog_4_method_4_code 10 = .ok (.aload_n 0, 1) := by decide +kernel
theorem wd_P_reckonJump_11 : decode prog_4_method_4_code 11 = .ok (.getfield 18, 3) := by decide +kernel
theorem wd_P_reckonJump_14 : decode prog_4_method_4_code 14 = .ok (.iload_n 2, 1) := by decide +kernel
theorem wd_P_reckonJump_15 : decode prog_4_method_4_code 15 = .ok (.iaload, 1) := by decide +kernel
theorem wd_P_reckonJump_16 : decode prog_4_method_4_code 16 = .ok (.isub, 1) := by decide +kernel
theorem wd_P_reckonJump_17 : decode prog_4_method_4_code 17 = .ok (.invokestatic 72, 3) := by decide +kernel
theorem wd_P_reckonJump_20 : decode prog_4_method_4_code 20 = .ok (.invokevirtual 78, 3) := by decide +kernel
theorem wd_P_reckonJump_23 : decode prog_4_method_4_code 23 = .ok (.istore_n 3, 1) := by decide +kernel
theorem wd_P_reckonJump_24 : decode prog_4_method_4_code 24 = .ok (.aload_n 0, 1) := by decide +kernel
theorem wd_P_reckonJump_25 : decode prog_4_method_4_code 25 = .ok (.getfield 42, 3) := by decide +kernel
theorem wd_P_reckonJump_28 : decode prog_4_method_4_code 28 = .ok (.aload_n 0, 1) := by decide +kernel
theorem wd_P_reckonJump_29 : decode prog_4_method_4_code 29 = .ok (.getfield 15, 3) := by decide +kernel
theorem wd_P_reckonJump_32 : decode prog_4_method_4_code 32 = .ok (.iload_n 1, 1) := by decide +kernel
theorem wd_P_reckonJump_33 : decode prog_4_method_4_code 33 = .ok (.iaload, 1) := by decide +kernel
theorem wd_P_reckonJump_34 : decode prog_4_method_4_code 34 = .ok (.aload_n 0, 1) := by decide +kernel
theorem wd_P_reckonJump_35 : decode prog_4_method_4_code 35 = .ok (.getfield 15, 3) := by decide +kernel
theorem wd_P_reckonJump_38 : decode prog_4_method_4_code 38 = .ok (.iload_n 2, 1) := by decide +kernel
theorem wd_P_reckonJump_39 : decode prog_4_method_4_code 39 = .ok (.iaload, 1) := by decide +kernel
theorem wd_P_reckonJump_40 : decode prog_4_method_4_code 40 = .ok (.isub, 1) := by decide +kernel
theorem wd_P_reckonJump_41 : decode prog_4_method_4_code 41 = .ok (.invokestatic 72, 3) := by decide +kernel
theorem wd_P_reckonJump_44 : decode prog_4_method_4_code 44 = .ok (.invokevirtual 78, 3) := by decide +kernel
theorem wd_P_reckonJump_47 : decode prog_4_method_4_code 47 = .ok (.istore 4, 2) := by decide +kernel
theorem wd_P_reckonJump_49 : decode prog_4_method_4_code 49 = .ok (.iload_n 3, 1) := by decide +kernel
theorem wd_P_reckonJump_50 : decode prog_4_method_4_code 50 = .ok (.iconst (-1), 1) := by decide +kernel
theorem wd_P_reckonJump_51 : decode prog_4_method_4_code 51 = .ok (.if_icmp .eq 9, 3) := by decide +kernel
theorem wd_P_reckonJump_54 : decode prog_4_method_4_code 54 = .ok (.iload 4, 2) := by decide +kernel
theorem wd_P_reckonJump_56 : decode prog_4_method_4_code 56 = .ok (.iconst (-1), 1) := by decide +kernel
theorem wd_P_reckonJump_57 : decode prog_4_method_4_code 57 = .ok (.if_icmp .ne 5, 3) := by decide +kernel
theorem wd_P_reckonJump_60 : decode prog_4_method_4_code 60 = .ok (.iconst (-1), 1) := by decide +kernel
theorem wd_P_reckonJump_61 : decode prog_4_method_4_code 61 = .ok (.ireturn, 1) := by decide +kernel
theorem wd_P_reckonJump_62 : decode prog_4_method_4_code 62 = .ok (.iload_n 3, 1) := by decide +kernel
theorem wd_P_reckonJump_63 : decode prog_4_method_4_code 63 = .ok (.iload 4, 2) := by decide +kernel
theorem wd_P_reckonJump_65 : decode prog_4_method_4_code 65 = .ok (.iadd, 1) := by decide +kernel
theorem wd_P_reckonJump_66 : decode prog_4_method_4_code 66 = .ok (.ireturn, 1) := by decide +kernel
end
section

theorem wd_P_reckonJumps_0 : decode prog_4_method_3_code 0 = .ok (.iconst 0, 1) := by decide +kernel
theorem wd_P_reckonJumps_1 : decode prog_4_method_3_code 1 = .ok (.istore_n 1, 1) := by decide +kernel
theorem wd_P_reckonJumps_2 : decode prog_4_method_3_code 2 = .ok (.iload_n 1, 1) := by decide +kernel
theorem wd_P_reckonJumps_3 : decode prog_4_method_3_code 3 = .ok (.aload_n 0, 1) := by decide +kernel
theorem wd_P_reckonJumps_4 : decode prog_4_method_3_code 4 = .ok (.getfield 62, 3) := by decide +kernel
theorem wd_P_reckonJumps_7 : decode prog_4_method_3_code 7 = .ok (.if_icmp .ge 39, 3) := by decide +kernel
theorem wd_P_reckonJumps_10 : decode prog_4_method_3_code 10 = .ok (.iconst 0, 1) := by decide +kernel
theorem wd_P_reckonJumps_11 : decode prog_4_method_3_code 11 = .ok (.istore_n 2, 1) := by decide +kernel
theorem wd_P_reckonJumps_12 : decode prog_4_method_3_code 12 = .ok (.iload_n 2, 1) := by decide +kernel
theorem wd_P_reckonJumps_13 : decode prog_4_method_3_code 13 = .ok (.aload_n 0, 1) := by decide +kernel
theorem wd_P_reckonJumps_14 : decode prog_4_method_3_code 14 = .ok (.getfield 62, 3) := by decide +kernel
theorem wd_P_reckonJumps_17 : decode prog_4_method_3_code 17 = .ok (.if_icmp .ge 23, 3) := by decide +kernel
theorem wd_P_reckonJumps_20 : decode prog_4_method_3_code 20 = .ok (.aload_n 0, 1) := by decide +kernel
theorem wd_P_reckonJumps_21 : decode prog_4_method_3_code 21 = .ok (.getfield 32, 3) := by decide +kernel
theorem wd_P_reckonJumps_24 : decode prog_4_method_3_code 24 = .ok (.iload_n 1, 1) := by decide +kernel
theorem wd_P_reckonJumps_25 : decode prog_4_method_3_code 25 = .ok (.aaload, 1) := by decide +kernel
theorem wd_P_reckonJumps_26 : decode prog_4_method_3_code 26 = .ok (.iload_n 2, 1) := by decide +kernel
theorem wd_P_reckonJumps_27 : decode prog_4_method_3_code 27 = .ok (.aload_n 0, 1) := by decide +kernel
theorem wd_P_reckonJumps_28 : decode prog_4_method_3_code 28 = .ok (.iload_n 1, 1) := by decide +kernel
theorem wd_P_reckonJumps_29 : decode prog_4_method_3_code 29 = .ok (.iload_n 2, 1) := by decide +kernel
theorem wd_P_reckonJumps_30 : decode prog_4_method_3_code 30 = .ok (.invokevirtual 68, 3) := by decide +kernel
theorem wd_P_reckonJumps_33 : decode prog_4_method_3_code 33 = .ok (.iastore, 1) := by decide +kernel
theorem wd_P_reckonJumps_34 : decode prog_4_method_3_code 34 = .ok (.iinc 2 1, 3) := by decide +kernel
theorem wd_P_reckonJumps_37 : decode prog_4_method_3_code 37 = .ok (.goto (-25), 3) := by decide +kernel
theorem wd_P_reckonJumps_40 : decode prog_4_method_3_code 40 = .ok (.iinc 1 1, 3) := by decide +kernel
theorem wd_P_reckonJumps_43 : decode prog_4_method_3_code 43 = .ok (.goto (-41), 3) := by decide +kernel
theorem wd_P_reckonJumps_46 : decode prog_4_method_3_code 46 = .ok (.return_, 1) := by decide +kernel
end
section

theorem wd_P_addCoil_0 : decode prog_4_method_2_code 0 = .ok (.aload_n 0, 1) := by decide +kernel
theorem wd_P_addCoil_1 : decode prog_4_method_2_code 1 = .ok (.getfield 62, 3) := by decide +kernel
theorem wd_P_addCoil_4 : decode prog_4_method_2_code 4 = .ok (.istore 5, 2) := by decide +kernel
theorem wd_P_addCoil_6 : decode prog_4_method_2_code 6 = .ok (.aload_n 0, 1) := by decide +kernel
theorem wd_P_addCoil_7 : decode prog_4_method_2_code 7 = .ok (.getfield 9, 3) := by decide +kernel
theorem wd_P_addCoil_10 : decode prog_4_method_2_code 10 = .ok (.iload 5, 2) := by decide +kernel
theorem wd_P_addCoil_12 : decode prog_4_method_2_code 12 = .ok (.iload_n 1, 1) := by decide +kernel
theorem wd_P_addCoil_13 : decode prog_4_method_2_code 13 = .ok (.iastore, 1) := by decide +kernel
theorem wd_P_addCoil_14 : decode prog_4_method_2_code 14 = .ok (.aload_n 0, 1) := by decide +kernel
theorem wd_P_addCoil_15 : decode prog_4_method_2_code 15 = .ok (.getfield 15, 3) := by decide +kernel
theorem wd_P_addCoil_18 : decode prog_4_method_2_code 18 = .ok (.iload 5, 2) := by decide +kernel
theorem wd_P_addCoil_20 : decode prog_4_method_2_code 20 = .ok (.iload_n 2, 1) := by decide +kernel
theorem wd_P_addCoil_21 : decode prog_4_method_2_code 21 = .ok (.iastore, 1) := by decide +kernel
theorem wd_P_addCoil_22 : decode prog_4_method_2_code 22 = .ok (.aload_n 0, 1) := by decide +kernel
theorem wd_P_addCoil_23 : decode prog_4_method_2_code 23 = .ok (.getfield 18, 3) := by decide +kernel
theorem wd_P_addCoil_26 : decode prog_4_method_2_code 26 = .ok (.iload 5, 2) := by decide +kernel
theorem wd_P_addCoil_28 : decode prog_4_method_2_code 28 = .ok (.iload_n 3, 1) := by decide +kernel
theorem wd_P_addCoil_29 : decode prog_4_method_2_code 29 = .ok (.iastore, 1) := by decide +kernel
theorem wd_P_addCoil_30 : decode prog_4_method_2_code 30 = .ok (.aload_n 0, 1) := by decide +kernel
theorem wd_P_addCoil_31 : decode prog_4_method_2_code 31 = .ok (.getfield 21, 3) := by decide +kernel
theorem wd_P_addCoil_34 : decode prog_4_method_2_code 34 = .ok (.iload 5, 2) := by decide +kernel
theorem wd_P_addCoil_36 : decode prog_4_method_2_code 36 = .ok (.iload 4, 2) := by decide +kernel
theorem wd_P_addCoil_38 : decode prog_4_method_2_code 38 = .ok (.iastore, 1) := by decide +kernel
theorem wd_P_addCoil_39 : decode prog_4_method_2_code 39 = .ok (.aload_n 0, 1) := by decide +kernel
theorem wd_P_addCoil_40 : decode prog_4_method_2_code 40 = .ok (.getfield 24, 3) := by decide +kernel
theorem wd_P_addCoil_43 : decode prog_4_method_2_code 43 = .ok (.iload 5, 2) := by decide +kernel
theorem wd_P_addCoil_45 : decode prog_4_method_2_code 45 = .ok (.bipush 8, 2) := by decide +kernel
theorem wd_P_addCoil_47 : decode prog_4_method_2_code 47 = .ok (.iastore, 1) := by decide +kernel
theorem wd_P_addCoil_48 : decode prog_4_method_2_code 48 = .ok (.aload_n 0, 1) := by decide +kernel
theorem wd_P_addCoil_49 : decode prog_4_method_2_code 49 = .ok (.getfield 27, 3) := by decide +kernel
theorem wd_P_addCoil_52 : decode prog_4_method_2_code 52 = .ok (.iload 5, 2) := by decide +kernel
theorem wd_P_addCoil_54 : decode prog_4_method_2_code 54 = .ok (.iconst (-1), 1) := by decide +kernel
theorem wd_P_addCoil_55 : decode prog_4_method_2_code 55 = .ok (.iastore, 1) := by decide +kernel
theorem wd_P_addCoil_56 : decode prog_4_method_2_code 56 = .ok (.aload_n 0, 1) := by decide +kernel
theorem wd_P_addCoil_57 : decode prog_4_method_2_code 57 = .ok (.dup, 1) := by decide +kernel
theorem wd_P_addCoil_58 : decode prog_4_method_2_code 58 = .ok (.getfield 62, 3) := by decide +kernel
theorem wd_P_addCoil_61 : decode prog_4_method_2_code 61 = .ok (.iconst 1, 1) := by decide +kernel
theorem wd_P_addCoil_62 : decode prog_4_method_2_code 62 = .ok (.iadd, 1) := by decide +kernel
theorem wd_P_addCoil_63 : decode prog_4_method_2_code 63 = .ok (.putfield 62, 3) := by decide +kernel
theorem wd_P_addCoil_66 : decode prog_4_method_2_code 66 = .ok (.aload_n 0, 1) := by decide +kernel
theorem wd_P_addCoil_67 : decode prog_4_method_2_code 67 = .ok (.invokevirtual 65, 3) := by decide +kernel
theorem wd_P_addCoil_70 : decode prog_4_method_2_code 70 = .ok (.iload 5, 2) := by decide +kernel
theorem wd_P_addCoil_72 : decode prog_4_method_2_code 72 = .ok (.ireturn, 1) := by decide +kernel
end
section

theorem wd_P_leastJumpTo_0 : decode prog_4_method_5_code 0 = .ok (.iconst (-1), 1) := by decide +kernel
theorem wd_P_leastJumpTo_1 : decode prog_4_method_5_code 1 = .ok (.istore_n 2, 1) := by decide +kernel
theorem wd_P_leastJumpTo_2 : decode prog_4_method_5_code 2 = .ok (.iconst 0, 1) := by decide +kernel
theorem wd_P_leastJumpTo_3 : decode prog_4_method_5_code 3 = .ok (.istore_n 3, 1) := by decide +kernel
theorem wd_P_leastJumpTo_4 : decode prog_4_method_5_code 4 = .ok (.iload_n 3, 1) := by decide +kernel
theorem wd_P_leastJumpTo_5 : decode prog_4_method_5_code 5 = .ok (.aload_n 0, 1) := by decide +kernel
theorem wd_P_leastJumpTo_6 : decode prog_4_method_5_code 6 = .ok (.getfield 62, 3) := by decide +kernel
theorem wd_P_leastJumpTo_9 : decode prog_4_method_5_code 9 = .ok (.if_icmp .ge 44, 3) := by decide +kernel
theorem wd_P_leastJumpTo_12 : decode prog_4_method_5_code 12 = .ok (.aload_n 0, 1) := by decide +kernel
theorem wd_P_leastJumpTo_13 : decode prog_4_method_5_code 13 = .ok (.getfield 32, 3) := by decide +kernel
theorem wd_P_leastJumpTo_16 : decode prog_4_method_5_code 16 = .ok (.iload_n 3, 1) := by decide +kernel
theorem wd_P_leastJumpTo_17 : decode prog_4_method_5_code 17 = .ok (.aaload, 1) := by decide +kernel
theorem wd_P_leastJumpTo_18 : decode prog_4_method_5_code 18 = .ok (.iload_n 1, 1) := by decide +kernel
theorem wd_P_leastJumpTo_19 : decode prog_4_method_5_code 19 = .ok (.iaload, 1) := by decide +kernel
theorem wd_P_leastJumpTo_20 : decode prog_4_method_5_code 20 = .ok (.istore 4, 2) := by decide +kernel
theorem wd_P_leastJumpTo_22 : decode prog_4_method_5_code 22 = .ok (.iload_n 3, 1) := by decide +kernel
theorem wd_P_leastJumpTo_23 : decode prog_4_method_5_code 23 = .ok (.iload_n 1, 1) := by decide +kernel
theorem wd_P_leastJumpTo_24 : decode prog_4_method_5_code 24 = .ok (.if_icmp .eq 23, 3) := by decide +kernel
theorem wd_P_leastJumpTo_27 : decode prog_4_method_5_code 27 = .ok (.iload 4, 2) := by decide +kernel
theorem wd_P_leastJumpTo_29 : decode prog_4_method_5_code 29 = .ok (.iconst (-1), 1) := by decide +kernel
theorem wd_P_leastJumpTo_30 : decode prog_4_method_5_code 30 = .ok (.if_icmp .eq 17, 3) := by decide +kernel
theorem wd_P_leastJumpTo_33 : decode prog_4_method_5_code 33 = .ok (.iload_n 2, 1) := by decide +kernel
theorem wd_P_leastJumpTo_34 : decode prog_4_method_5_code 34 = .ok (.iconst (-1), 1) := by decide +kernel
theorem wd_P_leastJumpTo_35 : decode prog_4_method_5_code 35 = .ok (.if_icmp .eq 9, 3) := by decide +kernel
theorem wd_P_leastJumpTo_38 : decode prog_4_method_5_code 38 = .ok (.iload 4, 2) := by decide +kernel
theorem wd_P_leastJumpTo_40 : decode prog_4_method_5_code 40 = .ok (.iload_n 2, 1) := by decide +kernel
theorem wd_P_leastJumpTo_41 : decode prog_4_method_5_code 41 = .ok (.if_icmp .ge 6, 3) := by decide +kernel
theorem wd_P_leastJumpTo_44 : decode prog_4_method_5_code 44 = .ok (.iload 4, 2) := by decide +kernel
theorem wd_P_leastJumpTo_46 : decode prog_4_method_5_code 46 = .ok (.istore_n 2, 1) := by decide +kernel
theorem wd_P_leastJumpTo_47 : decode prog_4_method_5_code 47 = .ok (.iinc 3 1, 3) := by decide +kernel
theorem wd_P_leastJumpTo_50 : decode prog_4_method_5_code 50 = .ok (.goto (-46), 3) := by decide +kernel
theorem wd_P_leastJumpTo_53 : decode prog_4_method_5_code 53 = .ok (.iload_n 2, 1) := by decide +kernel
theorem wd_P_leastJumpTo_54 : decode prog_4_method_5_code 54 = .ok (.iconst (-1), 1) := by decide +kernel
theorem wd_P_leastJumpTo_55 : decode prog_4_method_5_code 55 = .ok (.if_icmp .ne 7, 3) := by decide +kernel
theorem wd_P_leastJumpTo_58 : decode prog_4_method_5_code 58 = .ok (.iconst 0, 1) := by decide +kernel
theorem wd_P_leastJumpTo_59 : decode prog_4_method_5_code 59 = .ok (.goto 4, 3) := by decide +kernel
theorem wd_P_leastJumpTo_62 : decode prog_4_method_5_code 62 = .ok (.iload_n 2, 1) := by decide +kernel
theorem wd_P_leastJumpTo_63 : decode prog_4_method_5_code 63 = .ok (.ireturn, 1) := by decide +kernel
end
section

theorem wd_P_kilometresInGroup_0 : decode prog_4_method_6_code 0 = .ok (.aload_n 0, 1) := by decide +kernel
theorem wd_P_kilometresInGroup_1 : decode prog_4_method_6_code 1 = .ok (.getfield 48, 3) := by decide +kernel
theorem wd_P_kilometresInGroup_4 : decode prog_4_method_6_code 4 = .ok (.getfield 81, 3) := by decide +kernel
theorem wd_P_kilometresInGroup_7 : decode prog_4_method_6_code 7 = .ok (.iload_n 1, 1) := by decide +kernel
theorem wd_P_kilometresInGroup_8 : decode prog_4_method_6_code 8 = .ok (.iaload, 1) := by decide +kernel
theorem wd_P_kilometresInGroup_9 : decode prog_4_method_6_code 9 = .ok (.aload_n 0, 1) := by decide +kernel
theorem wd_P_kilometresInGroup_10 : decode prog_4_method_6_code 10 = .ok (.getfield 9, 3) := by decide +kernel
theorem wd_P_kilometresInGroup_13 : decode prog_4_method_6_code 13 = .ok (.iload_n 2, 1) := by decide +kernel
theorem wd_P_kilometresInGroup_14 : decode prog_4_method_6_code 14 = .ok (.iaload, 1) := by decide +kernel
theorem wd_P_kilometresInGroup_15 : decode prog_4_method_6_code 15 = .ok (.if_icmp .gt 25, 3) := by decide +kernel
theorem wd_P_kilometresInGroup_18 : decode prog_4_method_6_code 18 = .ok (.aload_n 0, 1) := by decide +kernel
theorem wd_P_kilometresInGroup_19 : decode prog_4_method_6_code 19 = .ok (.getfield 9, 3) := by decide +kernel
theorem wd_P_kilometresInGroup_22 : decode prog_4_method_6_code 22 = .ok (.iload_n 2, 1) := by decide +kernel
theorem wd_P_kilometresInGroup_23 : decode prog_4_method_6_code 23 = .ok (.iaload, 1) := by decide +kernel
theorem wd_P_kilometresInGroup_24 : decode prog_4_method_6_code 24 = .ok (.aload_n 0, 1) := by decide +kernel
theorem wd_P_kilometresInGroup_25 : decode prog_4_method_6_code 25 = .ok (.getfield 48, 3) := by decide +kernel
theorem wd_P_kilometresInGroup_28 : decode prog_4_method_6_code 28 = .ok (.getfield 84, 3) := by decide +kernel
theorem wd_P_kilometresInGroup_31 : decode prog_4_method_6_code 31 = .ok (.iload_n 1, 1) := by decide +kernel
theorem wd_P_kilometresInGroup_32 : decode prog_4_method_6_code 32 = .ok (.iaload, 1) := by decide +kernel
theorem wd_P_kilometresInGroup_33 : decode prog_4_method_6_code 33 = .ok (.if_icmp .gt 7, 3) := by decide +kernel
theorem wd_P_kilometresInGroup_36 : decode prog_4_method_6_code 36 = .ok (.iconst 1, 1) := by decide +kernel
theorem wd_P_kilometresInGroup_37 : decode prog_4_method_6_code 37 = .ok (.goto 4, 3) := by decide +kernel
theorem wd_P_kilometresInGroup_40 : decode prog_4_method_6_code 40 = .ok (.iconst 0, 1) := by decide +kernel
theorem wd_P_kilometresInGroup_41 : decode prog_4_method_6_code 41 = .ok (.istore_n 3, 1) := by decide +kernel
theorem wd_P_kilometresInGroup_42 : decode prog_4_method_6_code 42 = .ok (.iload_n 3, 1) := by decide +kernel
theorem wd_P_kilometresInGroup_43 : decode prog_4_method_6_code 43 = .ok (.ifCond .eq 12, 3) := by decide +kernel
theorem wd_P_kilometresInGroup_46 : decode prog_4_method_6_code 46 = .ok (.aload_n 0, 1) := by decide +kernel
theorem wd_P_kilometresInGroup_47 : decode prog_4_method_6_code 47 = .ok (.getfield 21, 3) := by decide +kernel
theorem wd_P_kilometresInGroup_50 : decode prog_4_method_6_code 50 = .ok (.iload_n 2, 1) := by decide +kernel
theorem wd_P_kilometresInGroup_51 : decode prog_4_method_6_code 51 = .ok (.iaload, 1) := by decide +kernel
theorem wd_P_kilometresInGroup_52 : decode prog_4_method_6_code 52 = .ok (.goto 4, 3) := by decide +kernel
theorem wd_P_kilometresInGroup_55 : decode prog_4_method_6_code 55 = .ok (.iconst 0, 1) := by decide +kernel
theorem wd_P_kilometresInGroup_56 : decode prog_4_method_6_code 56 = .ok (.ireturn, 1) := by decide +kernel
end
section

theorem wd_L_penaltySoFar_0 : decode prog_3_method_2_code 0 = .ok (.aload_n 0, 1) := by decide +kernel
theorem wd_L_penaltySoFar_1 : decode prog_3_method_2_code 1 = .ok (.getfield 22, 3) := by decide +kernel
theorem wd_L_penaltySoFar_4 : decode prog_3_method_2_code 4 = .ok (.aload_n 0, 1) := by decide +kernel
theorem wd_L_penaltySoFar_5 : decode prog_3_method_2_code 5 = .ok (.getfield 43, 3) := by decide +kernel
theorem wd_L_penaltySoFar_8 : decode prog_3_method_2_code 8 = .ok (.iaload, 1) := by decide +kernel
theorem wd_L_penaltySoFar_9 : decode prog_3_method_2_code 9 = .ok (.ireturn, 1) := by decide +kernel
end
section

theorem wd_L_changesSoFar_0 : decode prog_3_method_3_code 0 = .ok (.aload_n 0, 1) := by decide +kernel
theorem wd_L_changesSoFar_1 : decode prog_3_method_3_code 1 = .ok (.getfield 25, 3) := by decide +kernel
theorem wd_L_changesSoFar_4 : decode prog_3_method_3_code 4 = .ok (.aload_n 0, 1) := by decide +kernel
theorem wd_L_changesSoFar_5 : decode prog_3_method_3_code 5 = .ok (.getfield 43, 3) := by decide +kernel
theorem wd_L_changesSoFar_8 : decode prog_3_method_3_code 8 = .ok (.iaload, 1) := by decide +kernel
theorem wd_L_changesSoFar_9 : decode prog_3_method_3_code 9 = .ok (.ireturn, 1) := by decide +kernel
end
section

theorem wd_L_movedSoFar_0 : decode prog_3_method_4_code 0 = .ok (.aload_n 0, 1) := by decide +kernel
theorem wd_L_movedSoFar_1 : decode prog_3_method_4_code 1 = .ok (.getfield 28, 3) := by decide +kernel
theorem wd_L_movedSoFar_4 : decode prog_3_method_4_code 4 = .ok (.aload_n 0, 1) := by decide +kernel
theorem wd_L_movedSoFar_5 : decode prog_3_method_4_code 5 = .ok (.getfield 43, 3) := by decide +kernel
theorem wd_L_movedSoFar_8 : decode prog_3_method_4_code 8 = .ok (.iaload, 1) := by decide +kernel
theorem wd_L_movedSoFar_9 : decode prog_3_method_4_code 9 = .ok (.ireturn, 1) := by decide +kernel
end
section

theorem wd_L_clear_0 : decode prog_3_method_5_code 0 = .ok (.aload_n 0, 1) := by decide +kernel
theorem wd_L_clear_1 : decode prog_3_method_5_code 1 = .ok (.iconst 0, 1) := by decide +kernel
theorem wd_L_clear_2 : decode prog_3_method_5_code 2 = .ok (.putfield 43, 3) := by decide +kernel
theorem wd_L_clear_5 : decode prog_3_method_5_code 5 = .ok (.iconst 0, 1) := by decide +kernel
theorem wd_L_clear_6 : decode prog_3_method_5_code 6 = .ok (.istore_n 1, 1) := by decide +kernel
theorem wd_L_clear_7 : decode prog_3_method_5_code 7 = .ok (.iload_n 1, 1) := by decide +kernel
theorem wd_L_clear_8 : decode prog_3_method_5_code 8 = .ok (.bipush 9, 2) := by decide +kernel
theorem wd_L_clear_10 : decode prog_3_method_5_code 10 = .ok (.if_icmp .ge 16, 3) := by decide +kernel
theorem wd_L_clear_13 : decode prog_3_method_5_code 13 = .ok (.aload_n 0, 1) := by decide +kernel
theorem wd_L_clear_14 : decode prog_3_method_5_code 14 = .ok (.getfield 15, 3) := by decide +kernel
theorem wd_L_clear_17 : decode prog_3_method_5_code 17 = .ok (.iload_n 1, 1) := by decide +kernel
theorem wd_L_clear_18 : decode prog_3_method_5_code 18 = .ok (.iconst 0, 1) := by decide +kernel
theorem wd_L_clear_19 : decode prog_3_method_5_code 19 = .ok (.bastore, 1) := by decide +kernel
theorem wd_L_clear_20 : decode prog_3_method_5_code 20 = .ok (.iinc 1 1, 3) := by decide +kernel
theorem wd_L_clear_23 : decode prog_3_method_5_code 23 = .ok (.goto (-16), 3) := by decide +kernel
theorem wd_L_clear_26 : decode prog_3_method_5_code 26 = .ok (.return_, 1) := by decide +kernel
end
