section

theorem wd_J_addRow_0 : decode prog_2_method_2_code 0 = .ok (.aload_n 0, 1) := by decide +kernel
theorem wd_J_addRow_1 : decode prog_2_method_2_code 1 = .ok (.getfield 9, 3) := by decide +kernel
theorem wd_J_addRow_4 : decode prog_2_method_2_code 4 = .ok (.aload_n 0, 1) := by decide +kernel
theorem wd_J_addRow_5 : decode prog_2_method_2_code 5 = .ok (.getfield 21, 3) := by decide +kernel
theorem wd_J_addRow_8 : decode prog_2_method_2_code 8 = .ok (.iload_n 1, 1) := by decide +kernel
theorem wd_J_addRow_9 : decode prog_2_method_2_code 9 = .ok (.iastore, 1) := by decide +kernel
theorem wd_J_addRow_10 : decode prog_2_method_2_code 10 = .ok (.aload_n 0, 1) := by decide +kernel
theorem wd_J_addRow_11 : decode prog_2_method_2_code 11 = .ok (.getfield 15, 3) := by decide +kernel
theorem wd_J_addRow_14 : decode prog_2_method_2_code 14 = .ok (.aload_n 0, 1) := by decide +kernel
theorem wd_J_addRow_15 : decode prog_2_method_2_code 15 = .ok (.getfield 21, 3) := by decide +kernel
theorem wd_J_addRow_18 : decode prog_2_method_2_code 18 = .ok (.iload_n 2, 1) := by decide +kernel
theorem wd_J_addRow_19 : decode prog_2_method_2_code 19 = .ok (.iastore, 1) := by decide +kernel
theorem wd_J_addRow_20 : decode prog_2_method_2_code 20 = .ok (.aload_n 0, 1) := by decide +kernel
theorem wd_J_addRow_21 : decode prog_2_method_2_code 21 = .ok (.getfield 18, 3) := by decide +kernel
theorem wd_J_addRow_24 : decode prog_2_method_2_code 24 = .ok (.aload_n 0, 1) := by decide +kernel
theorem wd_J_addRow_25 : decode prog_2_method_2_code 25 = .ok (.getfield 21, 3) := by decide +kernel
theorem wd_J_addRow_28 : decode prog_2_method_2_code 28 = .ok (.iload_n 3, 1) := by decide +kernel
theorem wd_J_addRow_29 : decode prog_2_method_2_code 29 = .ok (.iastore, 1) := by decide +kernel
theorem wd_J_addRow_30 : decode prog_2_method_2_code 30 = .ok (.aload_n 0, 1) := by decide +kernel
theorem wd_J_addRow_31 : decode prog_2_method_2_code 31 = .ok (.dup, 1) := by decide +kernel
theorem wd_J_addRow_32 : decode prog_2_method_2_code 32 = .ok (.getfield 21, 3) := by decide +kernel
theorem wd_J_addRow_35 : decode prog_2_method_2_code 35 = .ok (.iconst 1, 1) := by decide +kernel
theorem wd_J_addRow_36 : decode prog_2_method_2_code 36 = .ok (.iadd, 1) := by decide +kernel
theorem wd_J_addRow_37 : decode prog_2_method_2_code 37 = .ok (.putfield 21, 3) := by decide +kernel
theorem wd_J_addRow_40 : decode prog_2_method_2_code 40 = .ok (.return_, 1) := by decide +kernel
end
section

theorem wd_J_costOf_0 : decode prog_2_method_3_code 0 = .ok (.aload_n 0, 1) := by decide +kernel
theorem wd_J_costOf_1 : decode prog_2_method_3_code 1 = .ok (.getfield 21, 3) := by decide +kernel
theorem wd_J_costOf_4 : decode prog_2_method_3_code 4 = .ok (.ifCond .ne 5, 3) := by decide +kernel
theorem wd_J_costOf_7 : decode prog_2_method_3_code 7 = .ok (.iconst 0, 1) := by decide +kernel
theorem wd_J_costOf_8 : decode prog_2_method_3_code 8 = .ok (.ireturn, 1) := by decide +kernel
theorem wd_J_costOf_9 : decode prog_2_method_3_code 9 = .ok (.iconst 0, 1) := by decide +kernel
theorem wd_J_costOf_10 : decode prog_2_method_3_code 10 = .ok (.istore_n 2, 1) := by decide +kernel
theorem wd_J_costOf_11 : decode prog_2_method_3_code 11 = .ok (.iload_n 2, 1) := by decide +kernel
theorem wd_J_costOf_12 : decode prog_2_method_3_code 12 = .ok (.aload_n 0, 1) := by decide +kernel
theorem wd_J_costOf_13 : decode prog_2_method_3_code 13 = .ok (.getfield 21, 3) := by decide +kernel
theorem wd_J_costOf_16 : decode prog_2_method_3_code 16 = .ok (.if_icmp .ge 36, 3) := by decide +kernel
theorem wd_J_costOf_19 : decode prog_2_method_3_code 19 = .ok (.aload_n 0, 1) := by decide +kernel
theorem wd_J_costOf_20 : decode prog_2_method_3_code 20 = .ok (.getfield 9, 3) := by decide +kernel
theorem wd_J_costOf_23 : decode prog_2_method_3_code 23 = .ok (.iload_n 2, 1) := by decide +kernel
theorem wd_J_costOf_24 : decode prog_2_method_3_code 24 = .ok (.iaload, 1) := by decide +kernel
theorem wd_J_costOf_25 : decode prog_2_method_3_code 25 = .ok (.iload_n 1, 1) := by decide +kernel
theorem wd_J_costOf_26 : decode prog_2_method_3_code 26 = .ok (.if_icmp .gt 20, 3) := by decide +kernel
theorem wd_J_costOf_29 : decode prog_2_method_3_code 29 = .ok (.iload_n 1, 1) := by decide +kernel
theorem wd_J_costOf_30 : decode prog_2_method_3_code 30 = .ok (.aload_n 0, 1) := by decide +kernel
theorem wd_J_costOf_31 : decode prog_2_method_3_code 31 = .ok (.getfield 15, 3) := by decide +kernel
theorem wd_J_costOf_34 : decode prog_2_method_3_code 34 = .ok (.iload_n 2, 1) := by decide +kernel
theorem wd_J_costOf_35 : decode prog_2_method_3_code 35 = .ok (.iaload, 1) := by decide +kernel
theorem wd_J_costOf_36 : decode prog_2_method_3_code 36 = .ok (.if_icmp .gt 10, 3) := by decide +kernel
theorem wd_J_costOf_39 : decode prog_2_method_3_code 39 = .ok (.aload_n 0, 1) := by decide +kernel
theorem wd_J_costOf_40 : decode prog_2_method_3_code 40 = .ok (.getfield 18, 3) := by decide +kernel
theorem wd_J_costOf_43 : decode prog_2_method_3_code 43 = .ok (.iload_n 2, 1) := by decide +kernel
theorem wd_J_costOf_44 : decode prog_2_method_3_code 44 = .ok (.iaload, 1) := by decide +kernel
theorem wd_J_costOf_45 : decode prog_2_method_3_code 45 = .ok (.ireturn, 1) := by decide +kernel
theorem wd_J_costOf_46 : decode prog_2_method_3_code 46 = .ok (.iinc 2 1, 3) := by decide +kernel
theorem wd_J_costOf_49 : decode prog_2_method_3_code 49 = .ok (.goto (-38), 3) := by decide +kernel
theorem wd_J_costOf_52 : decode prog_2_method_3_code 52 = .ok (.iconst (-1), 1) := by decide +kernel
theorem wd_J_costOf_53 : decode prog_2_method_3_code 53 = .ok (.ireturn, 1) := by decide +kernel
end
section

theorem wd_G_addGroup_0 : decode prog_6_method_2_code 0 = .ok (.aload_n 0, 1) := by decide +kernel
theorem wd_G_addGroup_1 : decode prog_6_method_2_code 1 = .ok (.getfield 9, 3) := by decide +kernel
theorem wd_G_addGroup_4 : decode prog_6_method_2_code 4 = .ok (.aload_n 0, 1) := by decide +kernel
theorem wd_G_addGroup_5 : decode prog_6_method_2_code 5 = .ok (.getfield 21, 3) := by decide +kernel
theorem wd_G_addGroup_8 : decode prog_6_method_2_code 8 = .ok (.iload_n 1, 1) := by decide +kernel
theorem wd_G_addGroup_9 : decode prog_6_method_2_code 9 = .ok (.iastore, 1) := by decide +kernel
theorem wd_G_addGroup_10 : decode prog_6_method_2_code 10 = .ok (.aload_n 0, 1) := by decide +kernel
theorem wd_G_addGroup_11 : decode prog_6_method_2_code 11 = .ok (.getfield 15, 3) := by decide +kernel
theorem wd_G_addGroup_14 : decode prog_6_method_2_code 14 = .ok (.aload_n 0, 1) := by decide +kernel
theorem wd_G_addGroup_15 : decode prog_6_method_2_code 15 = .ok (.getfield 21, 3) := by decide +kernel
theorem wd_G_addGroup_18 : decode prog_6_method_2_code 18 = .ok (.iload_n 2, 1) := by decide +kernel
theorem wd_G_addGroup_19 : decode prog_6_method_2_code 19 = .ok (.iastore, 1) := by decide +kernel
theorem wd_G_addGroup_20 : decode prog_6_method_2_code 20 = .ok (.aload_n 0, 1) := by decide +kernel
theorem wd_G_addGroup_21 : decode prog_6_method_2_code 21 = .ok (.getfield 18, 3) := by decide +kernel
theorem wd_G_addGroup_24 : decode prog_6_method_2_code 24 = .ok (.aload_n 0, 1) := by decide +kernel
theorem wd_G_addGroup_25 : decode prog_6_method_2_code 25 = .ok (.getfield 21, 3) := by decide +kernel
theorem wd_G_addGroup_28 : decode prog_6_method_2_code 28 = .ok (.iload_n 3, 1) := by decide +kernel
theorem wd_G_addGroup_29 : decode prog_6_method_2_code 29 = .ok (.iastore, 1) := by decide +kernel
theorem wd_G_addGroup_30 : decode prog_6_method_2_code 30 = .ok (.aload_n 0, 1) := by decide +kernel
theorem wd_G_addGroup_31 : decode prog_6_method_2_code 31 = .ok (.dup, 1) := by decide +kernel
theorem wd_G_addGroup_32 : decode prog_6_method_2_code 32 = .ok (.getfield 21, 3) := by decide +kernel
theorem wd_G_addGroup_35 : decode prog_6_method_2_code 35 = .ok (.iconst 1, 1) := by decide +kernel
theorem wd_G_addGroup_36 : decode prog_6_method_2_code 36 = .ok (.iadd, 1) := by decide +kernel
theorem wd_G_addGroup_37 : decode prog_6_method_2_code 37 = .ok (.putfield 21, 3) := by decide +kernel
theorem wd_G_addGroup_40 : decode prog_6_method_2_code 40 = .ok (.return_, 1) := by decide +kernel
end
section

theorem wd_P_reckonJump_0 : decode prog_4_method_4_code 0 = .ok (.aload_n 0, 1) := by decide +kernel
theorem wd_P_reckonJump_1 : decode prog_4_method_4_code 1 = .ok (.getfield 38, 3) := by decide +kernel
theorem wd_P_reckonJump_4 : decode prog_4_method_4_code 4 = .ok (.aload_n 0, 1) := by decide +kernel
theorem wd_P_reckonJump_5 : decode prog_4_method_4_code 5 = .ok (.getfield 18, 3) := by decide +kernel
theorem wd_P_reckonJump_8 : decode prog_4_method_4_code 8 = .ok (.iload_n 1, 1) := by decide +kernel
theorem wd_P_reckonJump_9 : decode prog_4_method_4_code 9 = .ok (.iaload, 1) := by decide +kernel
theorem wd_P_reckonJump_10 : decode prog_4_method_4_code 10 = .ok (.aload_n 0, 1) := by decide +kernel
theorem wd_P_reckonJump_11 : decode prog_4_method_4_code 11 = .ok (.getfield 18, 3) := by decide +kernel
theorem wd_P_reckonJump_14 : decode prog_4_method_4_code 14 = .ok (.iload_n 2, 1) := by decide +kernel
theorem wd_P_reckonJump_15 : decode prog_4_method_4_code 15 = .ok (.iaload, 1) := by decide +kernel
theorem wd_P_reckonJump_16 : decode prog_4_method_4_code 16 = .ok (.isub, 1) := by decide +kernel
theorem wd_P_reckonJump_17 : decode prog_4_method_4_code 17 = .ok (.invokestatic 72, 3) := by decide +kernel
theorem wd_P_reckonJump_20 : decode prog_4_method_4_code 20 = .ok (.invokevirtual 78, 3) := by decide +kernel
theorem wd_P_reckonJump_23 : decode prog_4_method_4_code 23 = .ok (.istore_n 3, 1) := by decide +kernel
theorem wd_P_reckonJump_24 : decode prog_4_method_4_code 24 = .ok (.aload_n 0, 1) := by decide +kernel
theorem wd_P_reckonJump_25 : decode prog_4_method_4_code 25 = .ok (.getfield 42, 3) := by decide +kernel
theorem wd_P_reckonJump_28 : decode prog_4_method_4_code 28 = .ok (.aload_n 0, 1) := by decide +kernel
theorem wd_P_reckonJump_29 : decode prog_4_method_4_code 29 = .ok (.getfield 15, 3) := by decide +kernel
theorem wd_P_reckonJump_32 : decode prog_4_method_4_code 32 = .ok (.iload_n 1, 1) := by decide +kernel
theorem wd_P_reckonJump_33 : decode prog_4_method_4_code 33 = .ok (.iaload, 1) := by decide +kernel
theorem wd_P_reckonJump_34 : decode prog_4_method_4_code 34 = .ok (.aload_n 0, 1) := by decide +kernel
theorem wd_P_reckonJump_35 : decode prog_4_method_4_code 35 = .ok (.getfield 15, 3) := by decide +kernel
theorem wd_P_reckonJump_38 : decode prog_4_method_4_code 38 = .ok (.iload_n 2, 1) := by decide +kernel
theorem wd_P_reckonJump_39 : decode prog_4_method_4_code 39 = .ok (.iaload, 1) := by decide +kernel
theorem wd_P_reckonJump_40 : decode prog_4_method_4_code 40 = .ok (.isub, 1) := by decide +kernel
theorem wd_P_reckonJump_41 : decode prog_4_method_4_code 41 = .ok (.invokestatic 72, 3) := by decide +kernel
theorem wd_P_reckonJump_44 : decode prog_4_method_4_code 44 = .ok (.invokevirtual 78, 3) := by decide +kernel
theorem wd_P_reckonJump_47 : decode prog_4_method_4_code 47 = .ok (.istore 4, 2) := by decide +kernel
theorem wd_P_reckonJump_49 : decode prog_4_method_4_code 49 = .ok (.iload_n 3, 1) := by decide +kernel
theorem wd_P_reckonJump_50 : decode prog_4_method_4_code 50 = .ok (.iconst (-1), 1) := by decide +kernel
theorem wd_P_reckonJump_51 : decode prog_4_method_4_code 51 = .ok (.if_icmp .eq 9, 3) := by decide +kernel
theorem wd_P_reckonJump_54 : decode prog_4_method_4_code 54 = .ok (.iload 4, 2) := by decide +kernel
theorem wd_P_reckonJump_56 : decode prog_4_method_4_code 56 = .ok (.iconst (-1), 1) := by decide +kernel
theorem wd_P_reckonJump_57 : decode prog_4_method_4_code 57 = .ok (.if_icmp .ne 5, 3) := by decide +kernel
theorem wd_P_reckonJump_60 : decode prog_4_method_4_code 60 = .ok (.iconst (-1), 1) := by decide +kernel
theorem wd_P_reckonJump_61 : decode prog_4_method_4_code 61 = .ok (.ireturn, 1) := by decide +kernel
theorem wd_P_reckonJump_62 : decode prog_4_method_4_code 62 = .ok (.iload_n 3, 1) := by decide +kernel
theorem wd_P_reckonJump_63 : decode prog_4_method_4_code 63 = .ok (.iload 4, 2) := by decide +kernel
theorem wd_P_reckonJump_65 : decode prog_4_method_4_code 65 = .ok (.iadd, 1) := by decide +kernel
theorem wd_P_reckonJump_66 : decode prog_4_method_4_code 66 = .ok (.ireturn, 1) := by decide +kernel
end
section

theorem wd_P_reckonJumps_0 : decode prog_4_method_3_code 0 = .ok (.iconst 0, 1) := by decide +kernel
theorem wd_P_reckonJumps_1 : decode prog_4_method_3_code 1 = .ok (.istore_n 1, 1) := by decide +kernel
theorem wd_P_reckonJumps_2 : decode prog_4_method_3_code 2 = .ok (.iload_n 1, 1) := by decide +kernel
theorem wd_P_reckonJumps_3 : decode prog_4_method_3_code 3 = .ok (.aload_n 0, 1) := by decide +kernel
theorem wd_P_reckonJumps_4 : decode prog_4_method_3_code 4 = .ok (.getfield 62, 3) := by decide +kernel
theorem wd_P_reckonJumps_7 : decode prog_4_method_3_code 7 = .ok (.if_icmp .ge 39, 3) := by decide +kernel
theorem wd_P_reckonJumps_10 : decode prog_4_method_3_code 10 = .ok (.iconst 0, 1) := by decide +kernel
theorem wd_P_reckonJumps_11 : decode prog_4_method_3_code 11 = .ok (.istore_n 2, 1) := by decide +kernel
theorem wd_P_reckonJumps_12 : decode prog_4_method_3_code 12 = .ok (.iload_n 2, 1) := by decide +kernel
theorem wd_P_reckonJumps_13 : decode prog_4_method_3_code 13 = .ok (.aload_n 0, 1) := by decide +kernel
theorem wd_P_reckonJumps_14 : decode prog_4_method_3_code 14 = .ok (.getfield 62, 3) := by decide +kernel
theorem wd_P_reckonJumps_17 : decode prog_4_method_3_code 17 = .ok (.if_icmp .ge 23, 3) := by decide +kernel
theorem wd_P_reckonJumps_20 : decode prog_4_method_3_code 20 = .ok (.aload_n 0, 1) := by decide +kernel
theorem wd_P_reckonJumps_21 : decode prog_4_method_3_code 21 = .ok (.getfield 32, 3) := by decide +kernel
theorem wd_P_reckonJumps_24 : decode prog_4_method_3_code 24 = .ok (.iload_n 1, 1) := by decide +kernel
theorem wd_P_reckonJumps_25 : decode prog_4_method_3_code 25 = .ok (.aaload, 1) := by decide +kernel
theorem wd_P_reckonJumps_26 : decode prog_4_method_3_code 26 = .ok (.iload_n 2, 1) := by decide +kernel
theorem wd_P_reckonJumps_27 : decode prog_4_method_3_code 27 = .ok (.aload_n 0, 1) := by decide +kernel
theorem wd_P_reckonJumps_28 : decode prog_4_method_3_code 28 = .ok (.iload_n 1, 1) := by decide +kernel
theorem wd_P_reckonJumps_29 : decode prog_4_method_3_code 29 = .ok (.iload_n 2, 1) := by decide +kernel
theorem wd_P_reckonJumps_30 : decode prog_4_method_3_code 30 = .ok (.invokevirtual 68, 3) := by decide +kernel
theorem wd_P_reckonJumps_33 : decode prog_4_method_3_code 33 = .ok (.iastore, 1) := by decide +kernel
theorem wd_P_reckonJumps_34 : decode prog_4_method_3_code 34 = .ok (.iinc 2 1, 3) := by decide +kernel
theorem wd_P_reckonJumps_37 : decode prog_4_method_3_code 37 = .ok (.goto (-25), 3) := by decide +kernel
theorem wd_P_reckonJumps_40 : decode prog_4_method_3_code 40 = .ok (.iinc 1 1, 3) := by decide +kernel
theorem wd_P_reckonJumps_43 : decode prog_4_method_3_code 43 = .ok (.goto (-41), 3) := by decide +kernel
theorem wd_P_reckonJumps_46 : decode prog_4_method_3_code 46 = .ok (.return_, 1) := by decide +kernel
end
section

theorem wd_P_addCoil_0 : decode prog_4_method_2_code 0 = .ok (.aload_n 0, 1) := by decide +kernel
theorem wd_P_addCoil_1 : decode prog_4_method_2_code 1 = .ok (.getfield 62, 3) := by decide +kernel
theorem wd_P_addCoil_4 : decode prog_4_method_2_code 4 = .ok (.istore 5, 2) := by decide +kernel
theorem wd_P_addCoil_6 : decode prog_4_method_2_code 6 = .ok (.aload_n 0, 1) := by decide +kernel
theorem wd_P_addCoil_7 : decode prog_4_method_2_code 7 = .ok (.getfield 9, 3) := by decide +kernel
theorem wd_P_addCoil_10 : decode prog_4_method_2_code 10 = .ok (.iload 5, 2) := by decide +kernel
theorem wd_P_addCoil_12 : decode prog_4_method_2_code 12 = .ok (.iload_n 1, 1) := by decide +kernel
theorem wd_P_addCoil_13 : decode prog_4_method_2_code 13 = .ok (.iastore, 1) := by decide +kernel
theorem wd_P_addCoil_14 : decode prog_4_method_2_code 14 = .ok (.aload_n 0, 1) := by decide +kernel
theorem wd_P_addCoil_15 : decode prog_4_method_2_code 15 = .ok (.getfield 15, 3) := by decide +kernel
theorem wd_P_addCoil_18 : decode prog_4_method_2_code 18 = .ok (.iload 5, 2) := by decide +kernel
theorem wd_P_addCoil_20 : decode prog_4_method_2_code 20 = .ok (.iload_n 2, 1) := by decide +kernel
theorem wd_P_addCoil_21 : decode prog_4_method_2_code 21 = .ok (.iastore, 1) := by decide +kernel
theorem wd_P_addCoil_22 : decode prog_4_method_2_code 22 = .ok (.aload_n 0, 1) := by decide +kernel
theorem wd_P_addCoil_23 : decode prog_4_method_2_code 23 = .ok (.getfield 18, 3) := by decide +kernel
theorem wd_P_addCoil_26 : decode prog_4_method_2_code 26 = .ok (.iload 5, 2) := by decide +kernel
theorem wd_P_addCoil_28 : decode prog_4_method_2_code 28 = .ok (.iload_n 3, 1) := by decide +kernel
theorem wd_P_addCoil_29 : decode prog_4_method_2_code 29 = .ok (.iastore, 1) := by decide +kernel
theorem wd_P_addCoil_30 : decode prog_4_method_2_code 30 = .ok (.aload_n 0, 1) := by decide +kernel
theorem wd_P_addCoil_31 : decode prog_4_method_2_code 31 = .ok (.getfield 21, 3) := by decide +kernel
theorem wd_P_addCoil_34 : decode prog_4_method_2_code 34 = .ok (.iload 5, 2) := by decide +kernel
theorem wd_P_addCoil_36 : decode prog_4_method_2_code 36 = .ok (.iload 4, 2) := by decide +kernel
theorem wd_P_addCoil_38 : decode prog_4_method_2_code 38 = .ok (.iastore, 1) := by decide +kernel
theorem wd_P_addCoil_39 : decode prog_4_method_2_code 39 = .ok (.aload_n 0, 1) := by decide +kernel
theorem wd_P_addCoil_40 : decode prog_4_method_2_code 40 = .ok (.getfield 24, 3) := by decide +kernel
theorem wd_P_addCoil_43 : decode prog_4_method_2_code 43 = .ok (.iload 5, 2) := by decide +kernel
theorem wd_P_addCoil_45 : decode prog_4_method_2_code 45 = .ok (.bipush 8, 2) := by decide +kernel
theorem wd_P_addCoil_47 : decode prog_4_method_2_code 47 = .ok (.iastore, 1) := by decide +kernel
theorem wd_P_addCoil_48 : decode prog_4_method_2_code 48 = .ok (.aload_n 0, 1) := by decide +kernel
theorem wd_P_addCoil_49 : decode prog_4_method_2_code 49 = .ok (.getfield 27, 3) := by decide +kernel
theorem wd_P_addCoil_52 : decode prog_4_method_2_code 52 = .ok (.iload 5, 2) := by decide +kernel
theorem wd_P_addCoil_54 : decode prog_4_method_2_code 54 = .ok (.iconst (-1), 1) := by decide +kernel
theorem wd_P_addCoil_55 : decode prog_4_method_2_code 55 = .ok (.iastore, 1) := by decide +kernel
theorem wd_P_addCoil_56 : decode prog_4_method_2_code 56 = .ok (.aload_n 0, 1) := by decide +kernel
theorem wd_P_addCoil_57 : decode prog_4_method_2_code 57 = .ok (.dup, 1) := by decide +kernel
theorem wd_P_addCoil_58 : decode prog_4_method_2_code 58 = .ok (.getfield 62, 3) := by decide +kernel
theorem wd_P_addCoil_61 : decode prog_4_method_2_code 61 = .ok (.iconst 1, 1) := by decide +kernel
theorem wd_P_addCoil_62 : decode prog_4_method_2_code 62 = .ok (.iadd, 1) := by decide +kernel
theorem wd_P_addCoil_63 : decode prog_4_method_2_code 63 = .ok (.putfield 62, 3) := by decide +kernel
theorem wd_P_addCoil_66 : decode prog_4_method_2_code 66 = .ok (.aload_n 0, 1) := by decide +kernel
theorem wd_P_addCoil_67 : decode prog_4_method_2_code 67 = .ok (.invokevirtual 65, 3) := by decide +kernel
theorem wd_P_addCoil_70 : decode prog_4_method_2_code 70 = .ok (.iload 5, 2) := by decide +kernel
theorem wd_P_addCoil_72 : decode prog_4_method_2_code 72 = .ok (.ireturn, 1) := by decide +kernel
end
section

theorem wd_P_leastJumpTo_0 : decode prog_4_method_5_code 0 = .ok (.iconst (-1), 1) := by decide +kernel
theorem wd_P_leastJumpTo_1 : decode prog_4_method_5_code 1 = .ok (.istore_n 2, 1) := by decide +kernel
theorem wd_P_leastJumpTo_2 : decode prog_4_method_5_code 2 = .ok (.iconst 0, 1) := by decide +kernel
theorem wd_P_leastJumpTo_3 : decode prog_4_method_5_code 3 = .ok (.istore_n 3, 1) := by decide +kernel
theorem wd_P_leastJumpTo_4 : decode prog_4_method_5_code 4 = .ok (.iload_n 3, 1) := by decide +kernel
theorem wd_P_leastJumpTo_5 : decode prog_4_method_5_code 5 = .ok (.aload_n 0, 1) := by decide +kernel
theorem wd_P_leastJumpTo_6 : decode prog_4_method_5_code 6 = .ok (.getfield 62, 3) := by decide +kernel
theorem wd_P_leastJumpTo_9 : decode prog_4_method_5_code 9 = .ok (.if_icmp .ge 44, 3) := by decide +kernel
theorem wd_P_leastJumpTo_12 : decode prog_4_method_5_code 12 = .ok (.aload_n 0, 1) := by decide +kernel
theorem wd_P_leastJumpTo_13 : decode prog_4_method_5_code 13 = .ok (.getfield 32, 3) := by decide +kernel
theorem wd_P_leastJumpTo_16 : decode prog_4_method_5_code 16 = .ok (.iload_n 3, 1) := by decide +kernel
theorem wd_P_leastJumpTo_17 : decode prog_4_method_5_code 17 = .ok (.aaload, 1) := by decide +kernel
theorem wd_P_leastJumpTo_18 : decode prog_4_method_5_code 18 = .ok (.iload_n 1, 1) := by decide +kernel
theorem wd_P_leastJumpTo_19 : decode prog_4_method_5_code 19 = .ok (.iaload, 1) := by decide +kernel
theorem wd_P_leastJumpTo_20 : decode prog_4_method_5_code 20 = .ok (.istore 4, 2) := by decide +kernel
theorem wd_P_leastJumpTo_22 : decode prog_4_method_5_code 22 = .ok (.iload_n 3, 1) := by decide +kernel
theorem wd_P_leastJumpTo_23 : decode prog_4_method_5_code 23 = .ok (.iload_n 1, 1) := by decide +kernel
theorem wd_P_leastJumpTo_24 : decode prog_4_method_5_code 24 = .ok (.if_icmp .eq 23, 3) := by decide +kernel
theorem wd_P_leastJumpTo_27 : decode prog_4_method_5_code 27 = .ok (.iload 4, 2) := by decide +kernel
theorem wd_P_leastJumpTo_29 : decode prog_4_method_5_code 29 = .ok (.iconst (-1), 1) := by decide +kernel
theorem wd_P_leastJumpTo_30 : decode prog_4_method_5_code 30 = .ok (.if_icmp .eq 17, 3) := by decide +kernel
theorem wd_P_leastJumpTo_33 : decode prog_4_method_5_code 33 = .ok (.iload_n 2, 1) := by decide +kernel
theorem wd_P_leastJumpTo_34 : decode prog_4_method_5_code 34 = .ok (.iconst (-1), 1) := by decide +kernel
theorem wd_P_leastJumpTo_35 : decode prog_4_method_5_code 35 = .ok (.if_icmp .eq 9, 3) := by decide +kernel
theorem wd_P_leastJumpTo_38 : decode prog_4_method_5_code 38 = .ok (.iload 4, 2) := by decide +kernel
theorem wd_P_leastJumpTo_40 : decode prog_4_method_5_code 40 = .ok (.iload_n 2, 1) := by decide +kernel
theorem wd_P_leastJumpTo_41 : decode prog_4_method_5_code 41 = .ok (.if_icmp .ge 6, 3) := by decide +kernel
theorem wd_P_leastJumpTo_44 : decode prog_4_method_5_code 44 = .ok (.iload 4, 2) := by decide +kernel
theorem wd_P_leastJumpTo_46 : decode prog_4_method_5_code 46 = .ok (.istore_n 2, 1) := by decide +kernel
theorem wd_P_leastJumpTo_47 : decode prog_4_method_5_code 47 = .ok (.iinc 3 1, 3) := by decide +kernel
theorem wd_P_leastJumpTo_50 : decode prog_4_method_5_code 50 = .ok (.goto (-46), 3) := by decide +kernel
theorem wd_P_leastJumpTo_53 : decode prog_4_method_5_code 53 = .ok (.iload_n 2, 1) := by decide +kernel
theorem wd_P_leastJumpTo_54 : decode prog_4_method_5_code 54 = .ok (.iconst (-1), 1) := by decide +kernel
theorem wd_P_leastJumpTo_55 : decode prog_4_method_5_code 55 = .ok (.if_icmp .ne 7, 3) := by decide +kernel
theorem wd_P_leastJumpTo_58 : decode prog_4_method_5_code 58 = .ok (.iconst 0, 1) := by decide +kernel
theorem wd_P_leastJumpTo_59 : decode prog_4_method_5_code 59 = .ok (.goto 4, 3) := by decide +kernel
theorem wd_P_leastJumpTo_62 : decode prog_4_method_5_code 62 = .ok (.iload_n 2, 1) := by decide +kernel
theorem wd_P_leastJumpTo_63 : decode prog_4_method_5_code 63 = .ok (.ireturn, 1) := by decide +kernel
end
section

theorem wd_P_kilometresInGroup_0 : decode prog_4_method_6_code 0 = .ok (.aload_n 0, 1) := by decide +kernel
theorem wd_P_kilometresInGroup_1 : decode prog_4_method_6_code 1 = .ok (.getfield 48, 3) := by decide +kernel
theorem wd_P_kilometresInGroup_4 : decode prog_4_method_6_code 4 = .ok (.getfield 81, 3) := by decide +kernel
theorem wd_P_kilometresInGroup_7 : decode prog_4_method_6_code 7 = .ok (.iload_n 1, 1) := by decide +kernel
theorem wd_P_kilometresInGroup_8 : decode prog_4_method_6_code 8 = .ok (.iaload, 1) := by decide +kernel
theorem wd_P_kilometresInGroup_9 : decode prog_4_method_6_code 9 = .ok (.aload_n 0, 1) := by decide +kernel
theorem wd_P_kilometresInGroup_10 : decode prog_4_method_6_code 10 = .ok (.getfield 9, 3) := by decide +kernel
theorem wd_P_kilometresInGroup_13 : decode prog_4_method_6_code 13 = .ok (.iload_n 2, 1) := by decide +kernel
theorem wd_P_kilometresInGroup_14 : decode prog_4_method_6_code 14 = .ok (.iaload, 1) := by decide +kernel
theorem wd_P_kilometresInGroup_15 : decode prog_4_method_6_code 15 = .ok (.if_icmp .gt 25, 3) := by decide +kernel
theorem wd_P_kilometresInGroup_18 : decode prog_4_method_6_code 18 = .ok (.aload_n 0, 1) := by decide +kernel
theorem wd_P_kilometresInGroup_19 : decode prog_4_method_6_code 19 = .ok (.getfield 9, 3) := by decide +kernel
theorem wd_P_kilometresInGroup_22 : decode prog_4_method_6_code 22 = .ok (.iload_n 2, 1) := by decide +kernel
theorem wd_P_kilometresInGroup_23 : decode prog_4_method_6_code 23 = .ok (.iaload, 1) := by decide +kernel
theorem wd_P_kilometresInGroup_24 : decode prog_4_method_6_code 24 = .ok (.aload_n 0, 1) := by decide +kernel
theorem wd_P_kilometresInGroup_25 : decode prog_4_method_6_code 25 = .ok (.getfield 48, 3) := by decide +kernel
theorem wd_P_kilometresInGroup_28 : decode prog_4_method_6_code 28 = .ok (.getfield 84, 3) := by decide +kernel
theorem wd_P_kilometresInGroup_31 : decode prog_4_method_6_code 31 = .ok (.iload_n 1, 1) := by decide +kernel
theorem wd_P_kilometresInGroup_32 : decode prog_4_method_6_code 32 = .ok (.iaload, 1) := by decide +kernel
theorem wd_P_kilometresInGroup_33 : decode prog_4_method_6_code 33 = .ok (.if_icmp .gt 7, 3) := by decide +kernel
theorem wd_P_kilometresInGroup_36 : decode prog_4_method_6_code 36 = .ok (.iconst 1, 1) := by decide +kernel
theorem wd_P_kilometresInGroup_37 : decode prog_4_method_6_code 37 = .ok (.goto 4, 3) := by decide +kernel
theorem wd_P_kilometresInGroup_40 : decode prog_4_method_6_code 40 = .ok (.iconst 0, 1) := by decide +kernel
theorem wd_P_kilometresInGroup_41 : decode prog_4_method_6_code 41 = .ok (.istore_n 3, 1) := by decide +kernel
theorem wd_P_kilometresInGroup_42 : decode prog_4_method_6_code 42 = .ok (.iload_n 3, 1) := by decide +kernel
theorem wd_P_kilometresInGroup_43 : decode prog_4_method_6_code 43 = .ok (.ifCond .eq 12, 3) := by decide +kernel
theorem wd_P_kilometresInGroup_46 : decode prog_4_method_6_code 46 = .ok (.aload_n 0, 1) := by decide +kernel
theorem wd_P_kilometresInGroup_47 : decode prog_4_method_6_code 47 = .ok (.getfield 21, 3) := by decide +kernel
theorem wd_P_kilometresInGroup_50 : decode prog_4_method_6_code 50 = .ok (.iload_n 2, 1) := by decide +kernel
theorem wd_P_kilometresInGroup_51 : decode prog_4_method_6_code 51 = .ok (.iaload, 1) := by decide +kernel
theorem wd_P_kilometresInGroup_52 : decode prog_4_method_6_code 52 = .ok (.goto 4, 3) := by decide +kernel
theorem wd_P_kilometresInGroup_55 : decode prog_4_method_6_code 55 = .ok (.iconst 0, 1) := by decide +kernel
theorem wd_P_kilometresInGroup_56 : decode prog_4_method_6_code 56 = .ok (.ireturn, 1) := by decide +kernel
end
section

theorem wd_L_penaltySoFar_0 : decode prog_3_method_2_code 0 = .ok (.aload_n 0, 1) := by decide +kernel
theorem wd_L_penaltySoFar_1 : decode prog_3_method_2_code 1 = .ok (.getfield 22, 3) := by decide +kernel
theorem wd_L_penaltySoFar_4 : decode prog_3_method_2_code 4 = .ok (.aload_n 0, 1) := by decide +kernel
theorem wd_L_penaltySoFar_5 : decode prog_3_method_2_code 5 = .ok (.getfield 43, 3) := by decide +kernel
theorem wd_L_penaltySoFar_8 : decode prog_3_method_2_code 8 = .ok (.iaload, 1) := by decide +kernel
theorem wd_L_penaltySoFar_9 : decode prog_3_method_2_code 9 = .ok (.ireturn, 1) := by decide +kernel
end
section

theorem wd_L_changesSoFar_0 : decode prog_3_method_3_code 0 = .ok (.aload_n 0, 1) := by decide +kernel
theorem wd_L_changesSoFar_1 : decode prog_3_method_3_code 1 = .ok (.getfield 25, 3) := by decide +kernel
theorem wd_L_changesSoFar_4 : decode prog_3_method_3_code 4 = .ok (.aload_n 0, 1) := by decide +kernel
theorem wd_L_changesSoFar_5 : decode prog_3_method_3_code 5 = .ok (.getfield 43, 3) := by decide +kernel
theorem wd_L_changesSoFar_8 : decode prog_3_method_3_code 8 = .ok (.iaload, 1) := by decide +kernel
theorem wd_L_changesSoFar_9 : decode prog_3_method_3_code 9 = .ok (.ireturn, 1) := by decide +kernel
end
section

theorem wd_L_movedSoFar_0 : decode prog_3_method_4_code 0 = .ok (.aload_n 0, 1) := by decide +kernel
theorem wd_L_movedSoFar_1 : decode prog_3_method_4_code 1 = .ok (.getfield 28, 3) := by decide +kernel
theorem wd_L_movedSoFar_4 : decode prog_3_method_4_code 4 = .ok (.aload_n 0, 1) := by decide +kernel
theorem wd_L_movedSoFar_5 : decode prog_3_method_4_code 5 = .ok (.getfield 43, 3) := by decide +kernel
theorem wd_L_movedSoFar_8 : decode prog_3_method_4_code 8 = .ok (.iaload, 1) := by decide +kernel
theorem wd_L_movedSoFar_9 : decode prog_3_method_4_code 9 = .ok (.ireturn, 1) := by decide +kernel
end
section

theorem wd_L_clear_0 : decode prog_3_method_5_code 0 = .ok (.aload_n 0, 1) := by decide +kernel
theorem wd_L_clear_1 : decode prog_3_method_5_code 1 = .ok (.iconst 0, 1) := by decide +kernel
theorem wd_L_clear_2 : decode prog_3_method_5_code 2 = .ok (.putfield 43, 3) := by decide +kernel
theorem wd_L_clear_5 : decode prog_3_method_5_code 5 = .ok (.iconst 0, 1) := by decide +kernel
theorem wd_L_clear_6 : decode prog_3_method_5_code 6 = .ok (.istore_n 1, 1) := by decide +kernel
theorem wd_L_clear_7 : decode prog_3_method_5_code 7 = .ok (.iload_n 1, 1) := by decide +kernel
theorem wd_L_clear_8 : decode prog_3_method_5_code 8 = .ok (.bipush 9, 2) := by decide +kernel
theorem wd_L_clear_10 : decode prog_3_method_5_code 10 = .ok (.if_icmp .ge 16, 3) := by decide +kernel
theorem wd_L_clear_13 : decode prog_3_method_5_code 13 = .ok (.aload_n 0, 1) := by decide +kernel
theorem wd_L_clear_14 : decode prog_3_method_5_code 14 = .ok (.getfield 15, 3) := by decide +kernel
theorem wd_L_clear_17 : decode prog_3_method_5_code 17 = .ok (.iload_n 1, 1) := by decide +kernel
theorem wd_L_clear_18 : decode prog_3_method_5_code 18 = .ok (.iconst 0, 1) := by decide +kernel
theorem wd_L_clear_19 : decode prog_3_method_5_code 19 = .ok (.bastore, 1) := by decide +kernel
theorem wd_L_clear_20 : decode prog_3_method_5_code 20 = .ok (.iinc 1 1, 3) := by decide +kernel
theorem wd_L_clear_23 : decode prog_3_method_5_code 23 = .ok (.goto (-16), 3) := by decide +kernel
theorem wd_L_clear_26 : decode prog_3_method_5_code 26 = .ok (.return_, 1) := by decide +kernel
end
section

theorem wd_L_mayFollow_0 : decode prog_3_method_8_code 0 = .ok (.aload_n 0, 1) := by decide +kernel
theorem wd_L_mayFollow_1 : decode prog_3_method_8_code 1 = .ok (.getfield 39, 3) := by decide +kernel
theorem wd_L_mayFollow_4 : decode prog_3_method_8_code 4 = .ok (.getfield 70, 3) := by decide +kernel
theorem wd_L_mayFollow_7 : decode prog_3_method_8_code 7 = .ok (.iload_n 1, 1) := by decide +kernel
theorem wd_L_mayFollow_8 : decode prog_3_method_8_code 8 = .ok (.aaload, 1) := by decide +kernel
theorem wd_L_mayFollow_9 : decode prog_3_method_8_code 9 = .ok (.iload_n 2, 1) := by decide +kernel
theorem wd_L_mayFollow_10 : decode prog_3_method_8_code 10 = .ok (.iaload, 1) := by decide +kernel
theorem wd_L_mayFollow_11 : decode prog_3_method_8_code 11 = .ok (.iconst (-1), 1) := by decide +kernel
theorem wd_L_mayFollow_12 : decode prog_3_method_8_code 12 = .ok (.if_icmp .ne 5, 3) := by decide +kernel
theorem wd_L_mayFollow_15 : decode prog_3_method_8_code 15 = .ok (.iconst 0, 1) := by decide +kernel
theorem wd_L_mayFollow_16 : decode prog_3_method_8_code 16 = .ok (.ireturn, 1) := by decide +kernel
theorem wd_L_mayFollow_17 : decode prog_3_method_8_code 17 = .ok (.aload_n 0, 1) := by decide +kernel
theorem wd_L_mayFollow_18 : decode prog_3_method_8_code 18 = .ok (.getfield 39, 3) := by decide +kernel
theorem wd_L_mayFollow_21 : decode prog_3_method_8_code 21 = .ok (.getfield 73, 3) := by decide +kernel
theorem wd_L_mayFollow_24 : decode prog_3_method_8_code 24 = .ok (.iload_n 2, 1) := by decide +kernel
theorem wd_L_mayFollow_25 : decode prog_3_method_8_code 25 = .ok (.iaload, 1) := by decide +kernel
theorem wd_L_mayFollow_26 : decode prog_3_method_8_code 26 = .ok (.aload_n 0, 1) := by decide +kernel
theorem wd_L_mayFollow_27 : decode prog_3_method_8_code 27 = .ok (.getfield 39, 3) := by decide +kernel
theorem wd_L_mayFollow_30 : decode prog_3_method_8_code 30 = .ok (.getfield 73, 3) := by decide +kernel
theorem wd_L_mayFollow_33 : decode prog_3_method_8_code 33 = .ok (.iload_n 1, 1) := by decide +kernel
theorem wd_L_mayFollow_34 : decode prog_3_method_8_code 34 = .ok (.iaload, 1) := by decide +kernel
theorem wd_L_mayFollow_35 : decode prog_3_method_8_code 35 = .ok (.isub, 1) := by decide +kernel
theorem wd_L_mayFollow_36 : decode prog_3_method_8_code 36 = .ok (.istore_n 3, 1) := by decide +kernel
theorem wd_L_mayFollow_37 : decode prog_3_method_8_code 37 = .ok (.aload_n 0, 1) := by decide +kernel
theorem wd_L_mayFollow_38 : decode prog_3_method_8_code 38 = .ok (.getfield 43, 3) := by decide +kernel
theorem wd_L_mayFollow_41 : decode prog_3_method_8_code 41 = .ok (.aload_n 0, 1) := by decide +kernel
theorem wd_L_mayFollow_42 : decode prog_3_method_8_code 42 = .ok (.getfield 39, 3) := by decide +kernel
theorem wd_L_mayFollow_45 : decode prog_3_method_8_code 45 = .ok (.getfield 76, 3) := by decide +kernel
theorem wd_L_mayFollow_48 : decode prog_3_method_8_code 48 = .ok (.if_icmp .ge 15, 3) := by decide +kernel
theorem wd_L_mayFollow_51 : decode prog_3_method_8_code 51 = .ok (.iload_n 3, 1) := by decide +kernel
theorem wd_L_mayFollow_52 : decode prog_3_method_8_code 52 = .ok (.ifCond .lt 7, 3) := by decide +kernel
theorem wd_L_mayFollow_55 : decode prog_3_method_8_code 55 = .ok (.iconst 1, 1) := by decide +kernel
theorem wd_L_mayFollow_56 : decode prog_3_method_8_code 56 = .ok (.goto 16, 3) := by decide +kernel
theorem wd_L_mayFollow_59 : decode prog_3_method_8_code 59 = .ok (.iconst 0, 1) := by decide +kernel
theorem wd_L_mayFollow_60 : decode prog_3_method_8_code 60 = .ok (.goto 12, 3) := by decide +kernel
theorem wd_L_mayFollow_63 : decode prog_3_method_8_code 63 = .ok (.iload_n 3, 1) := by decide +kernel
theorem wd_L_mayFollow_64 : decode prog_3_method_8_code 64 = .ok (.ifCond .gt 7, 3) := by decide +kernel
theorem wd_L_mayFollow_67 : decode prog_3_method_8_code 67 = .ok (.iconst 1, 1) := by decide +kernel
theorem wd_L_mayFollow_68 : decode prog_3_method_8_code 68 = .ok (.goto 4, 3) := by decide +kernel
theorem wd_L_mayFollow_71 : decode prog_3_method_8_code 71 = .ok (.iconst 0, 1) := by decide +kernel
theorem wd_L_mayFollow_72 : decode prog_3_method_8_code 72 = .ok (.ireturn, 1) := by decide +kernel
end
section

theorem wd_L_mayPut_0 : decode prog_3_method_7_code 0 = .ok (.aload_n 0, 1) := by decide +kernel
theorem wd_L_mayPut_1 : decode prog_3_method_7_code 1 = .ok (.getfield 15, 3) := by decide +kernel
theorem wd_L_mayPut_4 : decode prog_3_method_7_code 4 = .ok (.iload_n 1, 1) := by decide +kernel
theorem wd_L_mayPut_5 : decode prog_3_method_7_code 5 = .ok (.baload, 1) := by decide +kernel
theorem wd_L_mayPut_6 : decode prog_3_method_7_code 6 = .ok (.ifCond .ne 19, 3) := by decide +kernel
theorem wd_L_mayPut_9 : decode prog_3_method_7_code 9 = .ok (.aload_n 0, 1) := by decide +kernel
theorem wd_L_mayPut_10 : decode prog_3_method_7_code 10 = .ok (.getfield 43, 3) := by decide +kernel
theorem wd_L_mayPut_13 : decode prog_3_method_7_code 13 = .ok (.aload_n 0, 1) := by decide +kernel
theorem wd_L_mayPut_14 : decode prog_3_method_7_code 14 = .ok (.getfield 39, 3) := by decide +kernel
theorem wd_L_mayPut_17 : decode prog_3_method_7_code 17 = .ok (.getfield 63, 3) := by decide +kernel
theorem wd_L_mayPut_20 : decode prog_3_method_7_code 20 = .ok (.iload_n 1, 1) := by decide +kernel
theorem wd_L_mayPut_21 : decode prog_3_method_7_code 21 = .ok (.iaload, 1) := by decide +kernel
theorem wd_L_mayPut_22 : decode prog_3_method_7_code 22 = .ok (.if_icmp .le 5, 3) := by decide +kernel
theorem wd_L_mayPut_25 : decode prog_3_method_7_code 25 = .ok (.iconst 0, 1) := by decide +kernel
theorem wd_L_mayPut_26 : decode prog_3_method_7_code 26 = .ok (.ireturn, 1) := by decide +kernel
theorem wd_L_mayPut_27 : decode prog_3_method_7_code 27 = .ok (.aload_n 0, 1) := by decide +kernel
theorem wd_L_mayPut_28 : decode prog_3_method_7_code 28 = .ok (.getfield 43, 3) := by decide +kernel
theorem wd_L_mayPut_31 : decode prog_3_method_7_code 31 = .ok (.ifCond .eq 22, 3) := by decide +kernel
theorem wd_L_mayPut_34 : decode prog_3_method_7_code 34 = .ok (.aload_n 0, 1) := by decide +kernel
theorem wd_L_mayPut_35 : decode prog_3_method_7_code 35 = .ok (.aload_n 0, 1) := by decide +kernel
theorem wd_L_mayPut_36 : decode prog_3_method_7_code 36 = .ok (.getfield 9, 3) := by decide +kernel
theorem wd_L_mayPut_39 : decode prog_3_method_7_code 39 = .ok (.aload_n 0, 1) := by decide +kernel
theorem wd_L_mayPut_40 : decode prog_3_method_7_code 40 = .ok (.getfield 43, 3) := by decide +kernel
theorem wd_L_mayPut_43 : decode prog_3_method_7_code 43 = .ok (.iconst 1, 1) := by decide +kernel
theorem wd_L_mayPut_44 : decode prog_3_method_7_code 44 = .ok (.isub, 1) := by decide +kernel
theorem wd_L_mayPut_45 : decode prog_3_method_7_code 45 = .ok (.iaload, 1) := by decide +kernel
theorem wd_L_mayPut_46 : decode prog_3_method_7_code 46 = .ok (.iload_n 1, 1) := by decide +kernel
theorem wd_L_mayPut_47 : decode prog_3_method_7_code 47 = .ok (.invokevirtual 66, 3) := by decide +kernel
theorem wd_L_mayPut_50 : decode prog_3_method_7_code 50 = .ok (.ifCond .eq 7, 3) := by decide +kernel
theorem wd_L_mayPut_53 : decode prog_3_method_7_code 53 = .ok (.iconst 1, 1) := by decide +kernel
theorem wd_L_mayPut_54 : decode prog_3_method_7_code 54 = .ok (.goto 4, 3) := by decide +kernel
theorem wd_L_mayPut_57 : decode prog_3_method_7_code 57 = .ok (.iconst 0, 1) := by decide +kernel
theorem wd_L_mayPut_58 : decode prog_3_method_7_code 58 = .ok (.ireturn, 1) := by decide +kernel
end
section

theorem wd_L_isWornWith_0 : decode prog_3_method_11_code 0 = .ok (.aload_n 0, 1) := by decide +kernel
theorem wd_L_isWornWith_1 : decode prog_3_method_11_code 1 = .ok (.getfield 31, 3) := by decide +kernel
theorem wd_L_isWornWith_4 : decode prog_3_method_11_code 4 = .ok (.aload_n 0, 1) := by decide +kernel
theorem wd_L_isWornWith_5 : decode prog_3_method_11_code 5 = .ok (.getfield 43, 3) := by decide +kernel
theorem wd_L_isWornWith_8 : decode prog_3_method_11_code 8 = .ok (.iaload, 1) := by decide +kernel
theorem wd_L_isWornWith_9 : decode prog_3_method_11_code 9 = .ok (.aload_n 0, 1) := by decide +kernel
theorem wd_L_isWornWith_10 : decode prog_3_method_11_code 10 = .ok (.getfield 39, 3) := by decide +kernel
theorem wd_L_isWornWith_13 : decode prog_3_method_11_code 13 = .ok (.getfield 89, 3) := by decide +kernel
theorem wd_L_isWornWith_16 : decode prog_3_method_11_code 16 = .ok (.iload_n 1, 1) := by decide +kernel
theorem wd_L_isWornWith_17 : decode prog_3_method_11_code 17 = .ok (.iaload, 1) := by decide +kernel
theorem wd_L_isWornWith_18 : decode prog_3_method_11_code 18 = .ok (.iadd, 1) := by decide +kernel
theorem wd_L_isWornWith_19 : decode prog_3_method_11_code 19 = .ok (.aload_n 0, 1) := by decide +kernel
theorem wd_L_isWornWith_20 : decode prog_3_method_11_code 20 = .ok (.getfield 39, 3) := by decide +kernel
theorem wd_L_isWornWith_23 : decode prog_3_method_11_code 23 = .ok (.getfield 92, 3) := by decide +kernel
theorem wd_L_isWornWith_26 : decode prog_3_method_11_code 26 = .ok (.if_icmp .le 5, 3) := by decide +kernel
theorem wd_L_isWornWith_29 : decode prog_3_method_11_code 29 = .ok (.iconst 1, 1) := by decide +kernel
theorem wd_L_isWornWith_30 : decode prog_3_method_11_code 30 = .ok (.ireturn, 1) := by decide +kernel
theorem wd_L_isWornWith_31 : decode prog_3_method_11_code 31 = .ok (.iconst 0, 1) := by decide +kernel
theorem wd_L_isWornWith_32 : decode prog_3_method_11_code 32 = .ok (.istore_n 2, 1) := by decide +kernel
theorem wd_L_isWornWith_33 : decode prog_3_method_11_code 33 = .ok (.iload_n 2, 1) := by decide +kernel
theorem wd_L_isWornWith_34 : decode prog_3_method_11_code 34 = .ok (.aload_n 0, 1) := by decide +kernel
theorem wd_L_isWornWith_35 : decode prog_3_method_11_code 35 = .ok (.getfield 39, 3) := by decide +kernel
theorem wd_L_isWornWith_38 : decode prog_3_method_11_code 38 = .ok (.getfield 95, 3) := by decide +kernel
theorem wd_L_isWornWith_41 : decode prog_3_method_11_code 41 = .ok (.getfield 99, 3) := by decide +kernel
theorem wd_L_isWornWith_44 : decode prog_3_method_11_code 44 = .ok (.if_icmp .ge 49, 3) := by decide +kernel
theorem wd_L_isWornWith_47 : decode prog_3_method_11_code 47 = .ok (.aload_n 0, 1) := by decide +kernel
theorem wd_L_isWornWith_48 : decode prog_3_method_11_code 48 = .ok (.getfield 36, 3) := by decide +kernel
theorem wd_L_isWornWith_51 : decode prog_3_method_11_code 51 = .ok (.aload_n 0, 1) := by decide +kernel
theorem wd_L_isWornWith_52 : decode prog_3_method_11_code 52 = .ok (.getfield 43, 3) := by decide +kernel
theorem wd_L_isWornWith_55 : decode prog_3_method_11_code 55 = .ok (.aaload, 1) := by decide +kernel
theorem wd_L_isWornWith_56 : decode prog_3_method_11_code 56 = .ok (.iload_n 2, 1) := by decide +kernel
theorem wd_L_isWornWith_57 : decode prog_3_method_11_code 57 = .ok (.iaload, 1) := by decide +kernel
theorem wd_L_isWornWith_58 : decode prog_3_method_11_code 58 = .ok (.aload_n 0, 1) := by decide +kernel
theorem wd_L_isWornWith_59 : decode prog_3_method_11_code 59 = .ok (.getfield 39, 3) := by decide +kernel
theorem wd_L_isWornWith_62 : decode prog_3_method_11_code 62 = .ok (.iload_n 2, 1) := by decide +kernel
theorem wd_L_isWornWith_63 : decode prog_3_method_11_code 63 = .ok (.iload_n 1, 1) := by decide +kernel
theorem wd_L_isWornWith_64 : decode prog_3_method_11_code 64 = .ok (.invokevirtual 102, 3) := by decide +kernel
theorem wd_L_isWornWith_67 : decode prog_3_method_11_code 67 = .ok (.iadd, 1) := by decide +kernel
theorem wd_L_isWornWith_68 : decode prog_3_method_11_code 68 = .ok (.istore_n 3, 1) := by decide +kernel
theorem wd_L_isWornWith_69 : decode prog_3_method_11_code 69 = .ok (.iload_n 3, 1) := by decide +kernel
theorem wd_L_isWornWith_70 : decode prog_3_method_11_code 70 = .ok (.aload_n 0, 1) := by decide +kernel
theorem wd_L_isWornWith_71 : decode prog_3_method_11_code 71 = .ok (.getfield 39, 3) := by decide +kernel
theorem wd_L_isWornWith_74 : decode prog_3_method_11_code 74 = .ok (.getfield 95, 3) := by decide +kernel
theorem wd_L_isWornWith_77 : decode prog_3_method_11_code 77 = .ok (.getfield 106, 3) := by decide +kernel
theorem wd_L_isWornWith_80 : decode prog_3_method_11_code 80 = .ok (.iload_n 2, 1) := by decide +kernel
theorem wd_L_isWornWith_81 : decode prog_3_method_11_code 81 = .ok (.iaload, 1) := by decide +kernel
theorem wd_L_isWornWith_82 : decode prog_3_method_11_code 82 = .ok (.if_icmp .le 5, 3) := by decide +kernel
theorem wd_L_isWornWith_85 : decode prog_3_method_11_code 85 = .ok (.iconst 1, 1) := by decide +kernel
theorem wd_L_isWornWith_86 : decode prog_3_method_11_code 86 = .ok (.ireturn, 1) := by decide +kernel
theorem wd_L_isWornWith_87 : decode prog_3_method_11_code 87 = .ok (.iinc 2 1, 3) := by decide +kernel
theorem wd_L_isWornWith_90 : decode prog_3_method_11_code 90 = .ok (.goto (-57), 3) := by decide +kernel
theorem wd_L_isWornWith_93 : decode prog_3_method_11_code 93 = .ok (.iconst 0, 1) := by decide +kernel
theorem wd_L_isWornWith_94 : decode prog_3_method_11_code 94 = .ok (.ireturn, 1) := by decide +kernel
end
section

theorem wd_L_countKilometres_0 : decode prog_3_method_12_code 0 = .ok (.aload_n 0, 1) := by decide +kernel
theorem wd_L_countKilometres_1 : decode prog_3_method_12_code 1 = .ok (.getfield 43, 3) := by decide +kernel
theorem wd_L_countKilometres_4 : decode prog_3_method_12_code 4 = .ok (.iconst 1, 1) := by decide +kernel
theorem wd_L_countKilometres_5 : decode prog_3_method_12_code 5 = .ok (.iadd, 1) := by decide +kernel
theorem wd_L_countKilometres_6 : decode prog_3_method_12_code 6 = .ok (.istore_n 3, 1) := by decide +kernel
theorem wd_L_countKilometres_7 : decode prog_3_method_12_code 7 = .ok (.aload_n 0, 1) := by decide +kernel
theorem wd_L_countKilometres_8 : decode prog_3_method_12_code 8 = .ok (.getfield 31, 3) := by decide +kernel
theorem wd_L_countKilometres_11 : decode prog_3_method_12_code 11 = .ok (.iload_n 3, 1) := by decide +kernel
theorem wd_L_countKilometres_12 : decode prog_3_method_12_code 12 = .ok (.iload_n 2, 1) := by decide +kernel
theorem wd_L_countKilometres_13 : decode prog_3_method_12_code 13 = .ok (.ifCond .eq 7, 3) := by decide +kernel
theorem wd_L_countKilometres_16 : decode prog_3_method_12_code 16 = .ok (.iconst 0, 1) := by decide +kernel
theorem wd_L_countKilometres_17 : decode prog_3_method_12_code 17 = .ok (.goto 12, 3) := by decide +kernel
theorem wd_L_countKilometres_20 : decode prog_3_method_12_code 20 = .ok (.aload_n 0, 1) := by decide +kernel
theorem wd_L_countKilometres_21 : decode prog_3_method_12_code 21 = .ok (.getfield 31, 3) := by decide +kernel
theorem wd_L_countKilometres_24 : decode prog_3_method_12_code 24 = .ok (.aload_n 0, 1) := by decide +kernel
theorem wd_L_countKilometres_25 : decode prog_3_method_12_code 25 = .ok (.getfield 43, 3) := by decide +kernel
theorem wd_L_countKilometres_28 : decode prog_3_method_12_code 28 = .ok (.iaload, 1) := by decide +kernel
theorem wd_L_countKilometres_29 : decode prog_3_method_12_code 29 = .ok (.aload_n 0, 1) := by decide +kernel
theorem wd_L_countKilometres_30 : decode prog_3_method_12_code 30 = .ok (.getfield 39, 3) := by decide +kernel
theorem wd_L_countKilometres_33 : decode prog_3_method_12_code 33 = .ok (.getfield 89, 3) := by decide +kernel
theorem wd_L_countKilometres_36 : decode prog_3_method_12_code 36 = .ok (.iload_n 1, 1) := by decide +kernel
theorem wd_L_countKilometres_37 : decode prog_3_method_12_code 37 = .ok (.iaload, 1) := by decide +kernel
theorem wd_L_countKilometres_38 : decode prog_3_method_12_code 38 = .ok (.iadd, 1) := by decide +kernel
theorem wd_L_countKilometres_39 : decode prog_3_method_12_code 39 = .ok (.iastore, 1) := by decide +kernel
theorem wd_L_countKilometres_40 : decode prog_3_method_12_code 40 = .ok (.iconst 0, 1) := by decide +kernel
theorem wd_L_countKilometres_41 : decode prog_3_method_12_code 41 = .ok (.istore 4, 2) := by decide +kernel
theorem wd_L_countKilometres_43 : decode prog_3_method_12_code 43 = .ok (.iload 4, 2) := by decide +kernel
theorem wd_L_countKilometres_45 : decode prog_3_method_12_code 45 = .ok (.aload_n 0, 1) := by decide +kernel
theorem wd_L_countKilometres_46 : decode prog_3_method_12_code 46 = .ok (.getfield 39, 3) := by decide +kernel
theorem wd_L_countKilometres_49 : decode prog_3_method_12_code 49 = .ok (.getfield 95, 3) := by decide +kernel
theorem wd_L_countKilometres_52 : decode prog_3_method_12_code 52 = .ok (.getfield 99, 3) := by decide +kernel
theorem wd_L_countKilometres_55 : decode prog_3_method_12_code 55 = .ok (.if_icmp .ge 53, 3) := by decide +kernel
theorem wd_L_countKilometres_58 : decode prog_3_method_12_code 58 = .ok (.iload_n 2, 1) := by decide +kernel
theorem wd_L_countKilometres_59 : decode prog_3_method_12_code 59 = .ok (.ifCond .eq 7, 3) := by decide +kernel
theorem wd_L_countKilometres_62 : decode prog_3_method_12_code 62 = .ok (.iconst 0, 1) := by decide +kernel
theorem wd_L_countKilometres_63 : decode prog_3_method_12_code 63 = .ok (.goto 15, 3) := by decide +kernel
theorem wd_L_countKilometres_66 : decode prog_3_method_12_code 66 = .ok (.aload_n 0, 1) := by decide +kernel
theorem wd_L_countKilometres_67 : decode prog_3_method_12_code 67 = .ok (.getfield 36, 3) := by decide +kernel
theorem wd_L_countKilometres_70 : decode prog_3_method_12_code 70 = .ok (.aload_n 0, 1) := by decide +kernel
theorem wd_L_countKilometres_71 : decode prog_3_method_12_code 71 = .ok (.getfield 43, 3) := by decide +kernel
theorem wd_L_countKilometres_74 : decode prog_3_method_12_code 74 = .ok (.aaload, 1) := by decide +kernel
theorem wd_L_countKilometres_75 : decode prog_3_method_12_code 75 = .ok (.iload 4, 2) := by decide +kernel
theorem wd_L_countKilometres_77 : decode prog_3_method_12_code 77 = .ok (.iaload, 1) := by decide +kernel
theorem wd_L_countKilometres_78 : decode prog_3_method_12_code 78 = .ok (.istore 5, 2) := by decide +kernel
theorem wd_L_countKilometres_80 : decode prog_3_method_12_code 80 = .ok (.aload_n 0, 1) := by decide +kernel
theorem wd_L_countKilometres_81 : decode prog_3_method_12_code 81 = .ok (.getfield 36, 3) := by decide +kernel
theorem wd_L_countKilometres_84 : decode prog_3_method_12_code 84 = .ok (.iload_n 3, 1) := by decide +kernel
theorem wd_L_countKilometres_85 : decode prog_3_method_12_code 85 = .ok (.aaload, 1) := by decide +kernel
theorem wd_L_countKilometres_86 : decode prog_3_method_12_code 86 = .ok (.iload 4, 2) := by decide +kernel
theorem wd_L_countKilometres_88 : decode prog_3_method_12_code 88 = .ok (.iload 5, 2) := by decide +kernel
theorem wd_L_countKilometres_90 : decode prog_3_method_12_code 90 = .ok (.aload_n 0, 1) := by decide +kernel
theorem wd_L_countKilometres_91 : decode prog_3_method_12_code 91 = .ok (.getfield 39, 3) := by decide +kernel
theorem wd_L_countKilometres_94 : decode prog_3_method_12_code 94 = .ok (.iload 4, 2) := by decide +kernel
theorem wd_L_countKilometres_96 : decode prog_3_method_12_code 96 = .ok (.iload_n 1, 1) := by decide +kernel
theorem wd_L_countKilometres_97 : decode prog_3_method_12_code 97 = .ok (.invokevirtual 102, 3) := by decide +kernel
theorem wd_L_countKilometres_100 : decode prog_3_method_12_code 100 = .ok (.iadd, 1) := by decide +kernel
theorem wd_L_countKilometres_101 : decode prog_3_method_12_code 101 = .ok (.iastore, 1) := by decide +kernel
theorem wd_L_countKilometres_102 : decode prog_3_method_12_code 102 = .ok (.iinc 4 1, 3) := by decide +kernel
theorem wd_L_countKilometres_105 : decode prog_3_method_12_code 105 = .ok (.goto (-62), 3) := by decide +kernel
theorem wd_L_countKilometres_108 : decode prog_3_method_12_code 108 = .ok (.return_, 1) := by decide +kernel
end
section

theorem wd_L_countCosts_0 : decode prog_3_method_13_code 0 = .ok (.aload_n 0, 1) := by decide +kernel
theorem wd_L_countCosts_1 : decode prog_3_method_13_code 1 = .ok (.getfield 43, 3) := by decide +kernel
theorem wd_L_countCosts_4 : decode prog_3_method_13_code 4 = .ok (.iconst 1, 1) := by decide +kernel
theorem wd_L_countCosts_5 : decode prog_3_method_13_code 5 = .ok (.iadd, 1) := by decide +kernel
theorem wd_L_countCosts_6 : decode prog_3_method_13_code 6 = .ok (.istore_n 3, 1) := by decide +kernel
theorem wd_L_countCosts_7 : decode prog_3_method_13_code 7 = .ok (.aload_n 0, 1) := by decide +kernel
theorem wd_L_countCosts_8 : decode prog_3_method_13_code 8 = .ok (.getfield 39, 3) := by decide +kernel
theorem wd_L_countCosts_11 : decode prog_3_method_13_code 11 = .ok (.getfield 109, 3) := by decide +kernel
theorem wd_L_countCosts_14 : decode prog_3_method_13_code 14 = .ok (.iload_n 1, 1) := by decide +kernel
theorem wd_L_countCosts_15 : decode prog_3_method_13_code 15 = .ok (.iaload, 1) := by decide +kernel
theorem wd_L_countCosts_16 : decode prog_3_method_13_code 16 = .ok (.istore 4, 2) := by decide +kernel
theorem wd_L_countCosts_18 : decode prog_3_method_13_code 18 = .ok (.iload 4, 2) := by decide +kernel
theorem wd_L_countCosts_20 : decode prog_3_method_13_code 20 = .ok (.iconst (-1), 1) := by decide +kernel
theorem wd_L_countCosts_21 : decode prog_3_method_13_code 21 = .ok (.if_icmp .eq 16, 3) := by decide +kernel
theorem wd_L_countCosts_24 : decode prog_3_method_13_code 24 = .ok (.iload 4, 2) := by decide +kernel
theorem wd_L_countCosts_26 : decode prog_3_method_13_code 26 = .ok (.aload_n 0, 1) := by decide +kernel
theorem wd_L_countCosts_27 : decode prog_3_method_13_code 27 = .ok (.getfield 43, 3) := by decide +kernel
theorem wd_L_countCosts_30 : decode prog_3_method_13_code 30 = .ok (.if_icmp .eq 7, 3) := by decide +kernel
theorem wd_L_countCosts_33 : decode prog_3_method_13_code 33 = .ok (.iconst 1, 1) := by decide +kernel
theorem wd_L_countCosts_34 : decode prog_3_method_13_code 34 = .ok (.goto 4, 3) := by decide +kernel
theorem wd_L_countCosts_37 : decode prog_3_method_13_code 37 = .ok (.iconst 0, 1) := by decide +kernel
theorem wd_L_countCosts_38 : decode prog_3_method_13_code 38 = .ok (.istore 5, 2) := by decide +kernel
theorem wd_L_countCosts_40 : decode prog_3_method_13_code 40 = .ok (.aload_n 0, 1) := by decide +kernel
theorem wd_L_countCosts_41 : decode prog_3_method_13_code 41 = .ok (.getfield 43, 3) := by decide +kernel
theorem wd_L_countCosts_44 : decode prog_3_method_13_code 44 = .ok (.ifCond .le 27, 3) := by decide +kernel
theorem wd_L_countCosts_47 : decode prog_3_method_13_code 47 = .ok (.aload_n 0, 1) := by decide +kernel
theorem wd_L_countCosts_48 : decode prog_3_method_13_code 48 = .ok (.getfield 39, 3) := by decide +kernel
theorem wd_L_countCosts_51 : decode prog_3_method_13_code 51 = .ok (.getfield 70, 3) := by decide +kernel
theorem wd_L_countCosts_54 : decode prog_3_method_13_code 54 = .ok (.aload_n 0, 1) := by decide +kernel
theorem wd_L_countCosts_55 : decode prog_3_method_13_code 55 = .ok (.getfield 9, 3) := by decide +kernel
theorem wd_L_countCosts_58 : decode prog_3_method_13_code 58 = .ok (.aload_n 0, 1) := by decide +kernel
theorem wd_L_countCosts_59 : decode prog_3_method_13_code 59 = .ok (.getfield 43, 3) := by decide +kernel
theorem wd_L_countCosts_62 : decode prog_3_method_13_code 62 = .ok (.iconst 1, 1) := by decide +kernel
theorem wd_L_countCosts_63 : decode prog_3_method_13_code 63 = .ok (.isub, 1) := by decide +kernel
theorem wd_L_countCosts_64 : decode prog_3_method_13_code 64 = .ok (.iaload, 1) := by decide +kernel
theorem wd_L_countCosts_65 : decode prog_3_method_13_code 65 = .ok (.aaload, 1) := by decide +kernel
theorem wd_L_countCosts_66 : decode prog_3_method_13_code 66 = .ok (.iload_n 1, 1) := by decide +kernel
theorem wd_L_countCosts_67 : decode prog_3_method_13_code 67 = .ok (.iaload, 1) := by decide +kernel
theorem wd_L_countCosts_68 : decode prog_3_method_13_code 68 = .ok (.goto 4, 3) := by decide +kernel
theorem wd_L_countCosts_71 : decode prog_3_method_13_code 71 = .ok (.iconst 0, 1) := by decide +kernel
theorem wd_L_countCosts_72 : decode prog_3_method_13_code 72 = .ok (.istore 6, 2) := by decide +kernel
theorem wd_L_countCosts_74 : decode prog_3_method_13_code 74 = .ok (.aload_n 0, 1) := by decide +kernel
theorem wd_L_countCosts_75 : decode prog_3_method_13_code 75 = .ok (.getfield 25, 3) := by decide +kernel
theorem wd_L_countCosts_78 : decode prog_3_method_13_code 78 = .ok (.iload_n 3, 1) := by decide +kernel
theorem wd_L_countCosts_79 : decode prog_3_method_13_code 79 = .ok (.aload_n 0, 1) := by decide +kernel
theorem wd_L_countCosts_80 : decode prog_3_method_13_code 80 = .ok (.getfield 25, 3) := by decide +kernel
theorem wd_L_countCosts_83 : decode prog_3_method_13_code 83 = .ok (.aload_n 0, 1) := by decide +kernel
theorem wd_L_countCosts_84 : decode prog_3_method_13_code 84 = .ok (.getfield 43, 3) := by decide +kernel
theorem wd_L_countCosts_87 : decode prog_3_method_13_code 87 = .ok (.iaload, 1) := by decide +kernel
theorem wd_L_countCosts_88 : decode prog_3_method_13_code 88 = .ok (.iload_n 2, 1) := by decide +kernel
theorem wd_L_countCosts_89 : decode prog_3_method_13_code 89 = .ok (.ifCond .eq 7, 3) := by decide +kernel
theorem wd_L_countCosts_92 : decode prog_3_method_13_code 92 = .ok (.iconst 1, 1) := by decide +kernel
theorem wd_L_countCosts_93 : decode prog_3_method_13_code 93 = .ok (.goto 4, 3) := by decide +kernel
theorem wd_L_countCosts_96 : decode prog_3_method_13_code 96 = .ok (.iconst 0, 1) := by decide +kernel
theorem wd_L_countCosts_97 : decode prog_3_method_13_code 97 = .ok (.iadd, 1) := by decide +kernel
theorem wd_L_countCosts_98 : decode prog_3_method_13_code 98 = .ok (.iastore, 1) := by decide +kernel
theorem wd_L_countCosts_99 : decode prog_3_method_13_code 99 = .ok (.aload_n 0, 1) := by decide +kernel
theorem wd_L_countCosts_100 : decode prog_3_method_13_code 100 = .ok (.getfield 28, 3) := by decide +kernel
theorem wd_L_countCosts_103 : decode prog_3_method_13_code 103 = .ok (.iload_n 3, 1) := by decide +kernel
theorem wd_L_countCosts_104 : decode prog_3_method_13_code 104 = .ok (.aload_n 0, 1) := by decide +kernel
theorem wd_L_countCosts_105 : decode prog_3_method_13_code 105 = .ok (.getfield 28, 3) := by decide +kernel
theorem wd_L_countCosts_108 : decode prog_3_method_13_code 108 = .ok (.aload_n 0, 1) := by decide +kernel
theorem wd_L_countCosts_109 : decode prog_3_method_13_code 109 = .ok (.getfield 43, 3) := by decide +kernel
theorem wd_L_countCosts_112 : decode prog_3_method_13_code 112 = .ok (.iaload, 1) := by decide +kernel
theorem wd_L_countCosts_113 : decode prog_3_method_13_code 113 = .ok (.iload 5, 2) := by decide +kernel
theorem wd_L_countCosts_115 : decode prog_3_method_13_code 115 = .ok (.ifCond .eq 7, 3) := by decide +kernel
theorem wd_L_countCosts_118 : decode prog_3_method_13_code 118 = .ok (.iconst 1, 1) := by decide +kernel
theorem wd_L_countCosts_119 : decode prog_3_method_13_code 119 = .ok (.goto 4, 3) := by decide +kernel
theorem wd_L_countCosts_122 : decode prog_3_method_13_code 122 = .ok (.iconst 0, 1) := by decide +kernel
theorem wd_L_countCosts_123 : decode prog_3_method_13_code 123 = .ok (.iadd, 1) := by decide +kernel
theorem wd_L_countCosts_124 : decode prog_3_method_13_code 124 = .ok (.iastore, 1) := by decide +kernel
theorem wd_L_countCosts_125 : decode prog_3_method_13_code 125 = .ok (.aload_n 0, 1) := by decide +kernel
theorem wd_L_countCosts_126 : decode prog_3_method_13_code 126 = .ok (.getfield 22, 3) := by decide +kernel
theorem wd_L_countCosts_129 : decode prog_3_method_13_code 129 = .ok (.iload_n 3, 1) := by decide +kernel
theorem wd_L_countCosts_130 : decode prog_3_method_13_code 130 = .ok (.aload_n 0, 1) := by decide +kernel
theorem wd_L_countCosts_131 : decode prog_3_method_13_code 131 = .ok (.getfield 22, 3) := by decide +kernel
theorem wd_L_countCosts_134 : decode prog_3_method_13_code 134 = .ok (.aload_n 0, 1) := by decide +kernel
theorem wd_L_countCosts_135 : decode prog_3_method_13_code 135 = .ok (.getfield 43, 3) := by decide +kernel
theorem wd_L_countCosts_138 : decode prog_3_method_13_code 138 = .ok (.iaload, 1) := by decide +kernel
theorem wd_L_countCosts_139 : decode prog_3_method_13_code 139 = .ok (.iload 6, 2) := by decide +kernel
theorem wd_L_countCosts_141 : decode prog_3_method_13_code 141 = .ok (.iadd, 1) := by decide +kernel
theorem wd_L_countCosts_142 : decode prog_3_method_13_code 142 = .ok (.iload_n 2, 1) := by decide +kernel
theorem wd_L_countCosts_143 : decode prog_3_method_13_code 143 = .ok (.ifCond .eq 13, 3) := by decide +kernel
theorem wd_L_countCosts_146 : decode prog_3_method_13_code 146 = .ok (.aload_n 0, 1) := by decide +kernel
theorem wd_L_countCosts_147 : decode prog_3_method_13_code 147 = .ok (.getfield 39, 3) := by decide +kernel
theorem wd_L_countCosts_150 : decode prog_3_method_13_code 150 = .ok (.getfield 112, 3) := by decide +kernel
theorem wd_L_countCosts_153 : decode prog_3_method_13_code 153 = .ok (.goto 4, 3) := by decide +kernel
theorem wd_L_countCosts_156 : decode prog_3_method_13_code 156 = .ok (.iconst 0, 1) := by decide +kernel
theorem wd_L_countCosts_157 : decode prog_3_method_13_code 157 = .ok (.iadd, 1) := by decide +kernel
theorem wd_L_countCosts_158 : decode prog_3_method_13_code 158 = .ok (.iload 5, 2) := by decide +kernel
theorem wd_L_countCosts_160 : decode prog_3_method_13_code 160 = .ok (.ifCond .eq 13, 3) := by decide +kernel
theorem wd_L_countCosts_163 : decode prog_3_method_13_code 163 = .ok (.aload_n 0, 1) := by decide +kernel
theorem wd_L_countCosts_164 : decode prog_3_method_13_code 164 = .ok (.getfield 39, 3) := by decide +kernel
theorem wd_L_countCosts_167 : decode prog_3_method_13_code 167 = .ok (.getfield 115, 3) := by decide +kernel
theorem wd_L_countCosts_170 : decode prog_3_method_13_code 170 = .ok (.goto 4, 3) := by decide +kernel
theorem wd_L_countCosts_173 : decode prog_3_method_13_code 173 = .ok (.iconst 0, 1) := by decide +kernel
theorem wd_L_countCosts_174 : decode prog_3_method_13_code 174 = .ok (.iadd, 1) := by decide +kernel
theorem wd_L_countCosts_175 : decode prog_3_method_13_code 175 = .ok (.iastore, 1) := by decide +kernel
theorem wd_L_countCosts_176 : decode prog_3_method_13_code 176 = .ok (.return_, 1) := by decide +kernel
end
section

theorem wd_L_put_0 : decode prog_3_method_9_code 0 = .ok (.aload_n 0, 1) := by decide +kernel
theorem wd_L_put_1 : decode prog_3_method_9_code 1 = .ok (.getfield 43, 3) := by decide +kernel
theorem wd_L_put_4 : decode prog_3_method_9_code 4 = .ok (.ifCond .le 15, 3) := by decide +kernel
theorem wd_L_put_7 : decode prog_3_method_9_code 7 = .ok (.aload_n 0, 1) := by decide +kernel
theorem wd_L_put_8 : decode prog_3_method_9_code 8 = .ok (.iload_n 1, 1) := by decide +kernel
theorem wd_L_put_9 : decode prog_3_method_9_code 9 = .ok (.invokevirtual 79, 3) := by decide +kernel
theorem wd_L_put_12 : decode prog_3_method_9_code 12 = .ok (.ifCond .eq 7, 3) := by decide +kernel
theorem wd_L_put_15 : decode prog_3_method_9_code 15 = .ok (.iconst 1, 1) := by decide +kernel
theorem wd_L_put_16 : decode prog_3_method_9_code 16 = .ok (.goto 4, 3) := by decide +kernel
theorem wd_L_put_19 : decode prog_3_method_9_code 19 = .ok (.iconst 0, 1) := by decide +kernel
theorem wd_L_put_20 : decode prog_3_method_9_code 20 = .ok (.istore_n 2, 1) := by decide +kernel
theorem wd_L_put_21 : decode prog_3_method_9_code 21 = .ok (.aload_n 0, 1) := by decide +kernel
theorem wd_L_put_22 : decode prog_3_method_9_code 22 = .ok (.getfield 19, 3) := by decide +kernel
theorem wd_L_put_25 : decode prog_3_method_9_code 25 = .ok (.aload_n 0, 1) := by decide +kernel
theorem wd_L_put_26 : decode prog_3_method_9_code 26 = .ok (.getfield 43, 3) := by decide +kernel
theorem wd_L_put_29 : decode prog_3_method_9_code 29 = .ok (.iload_n 2, 1) := by decide +kernel
theorem wd_L_put_30 : decode prog_3_method_9_code 30 = .ok (.bastore, 1) := by decide +kernel
theorem wd_L_put_31 : decode prog_3_method_9_code 31 = .ok (.aload_n 0, 1) := by decide +kernel
theorem wd_L_put_32 : decode prog_3_method_9_code 32 = .ok (.iload_n 1, 1) := by decide +kernel
theorem wd_L_put_33 : decode prog_3_method_9_code 33 = .ok (.iload_n 2, 1) := by decide +kernel
theorem wd_L_put_34 : decode prog_3_method_9_code 34 = .ok (.invokevirtual 82, 3) := by decide +kernel
theorem wd_L_put_37 : decode prog_3_method_9_code 37 = .ok (.aload_n 0, 1) := by decide +kernel
theorem wd_L_put_38 : decode prog_3_method_9_code 38 = .ok (.iload_n 1, 1) := by decide +kernel
theorem wd_L_put_39 : decode prog_3_method_9_code 39 = .ok (.iload_n 2, 1) := by decide +kernel
theorem wd_L_put_40 : decode prog_3_method_9_code 40 = .ok (.invokevirtual 86, 3) := by decide +kernel
theorem wd_L_put_43 : decode prog_3_method_9_code 43 = .ok (.aload_n 0, 1) := by decide +kernel
theorem wd_L_put_44 : decode prog_3_method_9_code 44 = .ok (.getfield 9, 3) := by decide +kernel
theorem wd_L_put_47 : decode prog_3_method_9_code 47 = .ok (.aload_n 0, 1) := by decide +kernel
theorem wd_L_put_48 : decode prog_3_method_9_code 48 = .ok (.getfield 43, 3) := by decide +kernel
theorem wd_L_put_51 : decode prog_3_method_9_code 51 = .ok (.iload_n 1, 1) := by decide +kernel
theorem wd_L_put_52 : decode prog_3_method_9_code 52 = .ok (.iastore, 1) := by decide +kernel
theorem wd_L_put_53 : decode prog_3_method_9_code 53 = .ok (.aload_n 0, 1) := by decide +kernel
theorem wd_L_put_54 : decode prog_3_method_9_code 54 = .ok (.getfield 15, 3) := by decide +kernel
theorem wd_L_put_57 : decode prog_3_method_9_code 57 = .ok (.iload_n 1, 1) := by decide +kernel
theorem wd_L_put_58 : decode prog_3_method_9_code 58 = .ok (.iconst 1, 1) := by decide +kernel
theorem wd_L_put_59 : decode prog_3_method_9_code 59 = .ok (.bastore, 1) := by decide +kernel
theorem wd_L_put_60 : decode prog_3_method_9_code 60 = .ok (.aload_n 0, 1) := by decide +kernel
theorem wd_L_put_61 : decode prog_3_method_9_code 61 = .ok (.dup, 1) := by decide +kernel
theorem wd_L_put_62 : decode prog_3_method_9_code 62 = .ok (.getfield 43, 3) := by decide +kernel
theorem wd_L_put_65 : decode prog_3_method_9_code 65 = .ok (.iconst 1, 1) := by decide +kernel
theorem wd_L_put_66 : decode prog_3_method_9_code 66 = .ok (.iadd, 1) := by decide +kernel
theorem wd_L_put_67 : decode prog_3_method_9_code 67 = .ok (.putfield 43, 3) := by decide +kernel
theorem wd_L_put_70 : decode prog_3_method_9_code 70 = .ok (.return_, 1) := by decide +kernel
end
section

theorem wd_L_takeBack_0 : decode prog_3_method_10_code 0 = .ok (.aload_n 0, 1) := by decide +kernel
theorem wd_L_takeBack_1 : decode prog_3_method_10_code 1 = .ok (.getfield 43, 3) := by decide +kernel
theorem wd_L_takeBack_4 : decode prog_3_method_10_code 4 = .ok (.ifCond .le 28, 3) := by decide +kernel
theorem wd_L_takeBack_7 : decode prog_3_method_10_code 7 = .ok (.aload_n 0, 1) := by decide +kernel
theorem wd_L_takeBack_8 : decode prog_3_method_10_code 8 = .ok (.dup, 1) := by decide +kernel
theorem wd_L_takeBack_9 : decode prog_3_method_10_code 9 = .ok (.getfield 43, 3) := by decide +kernel
theorem wd_L_takeBack_12 : decode prog_3_method_10_code 12 = .ok (.iconst 1, 1) := by decide +kernel
theorem wd_L_takeBack_13 : decode prog_3_method_10_code 13 = .ok (.isub, 1) := by decide +kernel
theorem wd_L_takeBack_14 : decode prog_3_method_10_code 14 = .ok (.putfield 43, 3) := by decide +kernel
theorem wd_L_takeBack_17 : decode prog_3_method_10_code 17 = .ok (.aload_n 0, 1) := by decide +kernel
theorem wd_L_takeBack_18 : decode prog_3_method_10_code 18 = .ok (.getfield 15, 3) := by decide +kernel
theorem wd_L_takeBack_21 : decode prog_3_method_10_code 21 = .ok (.aload_n 0, 1) := by decide +kernel
theorem wd_L_takeBack_22 : decode prog_3_method_10_code 22 = .ok (.getfield 9, 3) := by decide +kernel
theorem wd_L_takeBack_25 : decode prog_3_method_10_code 25 = .ok (.aload_n 0, 1) := by decide +kernel
theorem wd_L_takeBack_26 : decode prog_3_method_10_code 26 = .ok (.getfield 43, 3) := by decide +kernel
theorem wd_L_takeBack_29 : decode prog_3_method_10_code 29 = .ok (.iaload, 1) := by decide +kernel
theorem wd_L_takeBack_30 : decode prog_3_method_10_code 30 = .ok (.iconst 0, 1) := by decide +kernel
theorem wd_L_takeBack_31 : decode prog_3_method_10_code 31 = .ok (.bastore, 1) := by decide +kernel
theorem wd_L_takeBack_32 : decode prog_3_method_10_code 32 = .ok (.return_, 1) := by decide +kernel
end
section

theorem wd_L_layAll_0 : decode prog_3_method_6_code 0 = .ok (.aload_n 0, 1) := by decide +kernel
theorem wd_L_layAll_1 : decode prog_3_method_6_code 1 = .ok (.invokevirtual 47, 3) := by decide +kernel
theorem wd_L_layAll_4 : decode prog_3_method_6_code 4 = .ok (.iconst 0, 1) := by decide +kernel
theorem wd_L_layAll_5 : decode prog_3_method_6_code 5 = .ok (.istore_n 2, 1) := by decide +kernel
theorem wd_L_layAll_6 : decode prog_3_method_6_code 6 = .ok (.iload_n 2, 1) := by decide +kernel
theorem wd_L_layAll_7 : decode prog_3_method_6_code 7 = .ok (.aload_n 0, 1) := by decide +kernel
theorem wd_L_layAll_8 : decode prog_3_method_6_code 8 = .ok (.getfield 39, 3) := by decide +kernel
theorem wd_L_layAll_11 : decode prog_3_method_6_code 11 = .ok (.getfield 50, 3) := by decide +kernel
theorem wd_L_layAll_14 : decode prog_3_method_6_code 14 = .ok (.if_icmp .ge 28, 3) := by decide +kernel
theorem wd_L_layAll_17 : decode prog_3_method_6_code 17 = .ok (.aload_n 0, 1) := by decide +kernel
theorem wd_L_layAll_18 : decode prog_3_method_6_code 18 = .ok (.aload_n 1, 1) := by decide +kernel
theorem wd_L_layAll_19 : decode prog_3_method_6_code 19 = .ok (.iload_n 2, 1) := by decide +kernel
theorem wd_L_layAll_20 : decode prog_3_method_6_code 20 = .ok (.iaload, 1) := by decide +kernel
theorem wd_L_layAll_21 : decode prog_3_method_6_code 21 = .ok (.invokevirtual 55, 3) := by decide +kernel
theorem wd_L_layAll_24 : decode prog_3_method_6_code 24 = .ok (.ifCond .ne 5, 3) := by decide +kernel
theorem wd_L_layAll_27 : decode prog_3_method_6_code 27 = .ok (.iconst 0, 1) := by decide +kernel
theorem wd_L_layAll_28 : decode prog_3_method_6_code 28 = .ok (.ireturn, 1) := by decide +kernel
theorem wd_L_layAll_29 : decode prog_3_method_6_code 29 = .ok (.aload_n 0, 1) := by decide +kernel
theorem wd_L_layAll_30 : decode prog_3_method_6_code 30 = .ok (.aload_n 1, 1) := by decide +kernel
theorem wd_L_layAll_31 : decode prog_3_method_6_code 31 = .ok (.iload_n 2, 1) := by decide +kernel
theorem wd_L_layAll_32 : decode prog_3_method_6_code 32 = .ok (.iaload, 1) := by decide +kernel
theorem wd_L_layAll_33 : decode prog_3_method_6_code 33 = .ok (.invokevirtual 59, 3) := by decide +kernel
theorem wd_L_layAll_36 : decode prog_3_method_6_code 36 = .ok (.iinc 2 1, 3) := by decide +kernel
theorem wd_L_layAll_39 : decode prog_3_method_6_code 39 = .ok (.goto (-33), 3) := by decide +kernel
theorem wd_L_layAll_42 : decode prog_3_method_6_code 42 = .ok (.iconst 1, 1) := by decide +kernel
theorem wd_L_layAll_43 : decode prog_3_method_6_code 43 = .ok (.ireturn, 1) := by decide +kernel
end
section

theorem wd_S_keepBest_0 : decode prog_5_method_5_code 0 = .ok (.aload_n 0, 1) := by decide +kernel
theorem wd_S_keepBest_1 : decode prog_5_method_5_code 1 = .ok (.iconst 1, 1) := by decide +kernel
theorem wd_S_keepBest_2 : decode prog_5_method_5_code 2 = .ok (.putfield 33, 3) := by decide +kernel
theorem wd_S_keepBest_5 : decode prog_5_method_5_code 5 = .ok (.aload_n 0, 1) := by decide +kernel
theorem wd_S_keepBest_6 : decode prog_5_method_5_code 6 = .ok (.aload_n 0, 1) := by decide +kernel
theorem wd_S_keepBest_7 : decode prog_5_method_5_code 7 = .ok (.getfield 19, 3) := by decide +kernel
theorem wd_S_keepBest_10 : decode prog_5_method_5_code 10 = .ok (.invokevirtual 68, 3) := by decide +kernel
theorem wd_S_keepBest_13 : decode prog_5_method_5_code 13 = .ok (.putfield 30, 3) := by decide +kernel
theorem wd_S_keepBest_16 : decode prog_5_method_5_code 16 = .ok (.aload_n 0, 1) := by decide +kernel
theorem wd_S_keepBest_17 : decode prog_5_method_5_code 17 = .ok (.getfield 19, 3) := by decide +kernel
theorem wd_S_keepBest_20 : decode prog_5_method_5_code 20 = .ok (.getfield 75, 3) := by decide +kernel
theorem wd_S_keepBest_23 : decode prog_5_method_5_code 23 = .ok (.iconst 0, 1) := by decide +kernel
theorem wd_S_keepBest_24 : decode prog_5_method_5_code 24 = .ok (.aload_n 0, 1) := by decide +kernel
theorem wd_S_keepBest_25 : decode prog_5_method_5_code 25 = .ok (.getfield 9, 3) := by decide +kernel
theorem wd_S_keepBest_28 : decode prog_5_method_5_code 28 = .ok (.iconst 0, 1) := by decide +kernel
theorem wd_S_keepBest_29 : decode prog_5_method_5_code 29 = .ok (.aload_n 0, 1) := by decide +kernel
theorem wd_S_keepBest_30 : decode prog_5_method_5_code 30 = .ok (.getfield 15, 3) := by decide +kernel
theorem wd_S_keepBest_33 : decode prog_5_method_5_code 33 = .ok (.getfield 49, 3) := by decide +kernel
theorem wd_S_keepBest_36 : decode prog_5_method_5_code 36 = .ok (.invokestatic 78, 3) := by decide +kernel
theorem wd_S_keepBest_39 : decode prog_5_method_5_code 39 = .ok (.return_, 1) := by decide +kernel
end
section

theorem wd_S_putAndGoOn_0 : decode prog_5_method_4_code 0 = .ok (.aload_n 0, 1) := by decide +kernel
theorem wd_S_putAndGoOn_1 : decode prog_5_method_4_code 1 = .ok (.getfield 23, 3) := by decide +kernel
theorem wd_S_putAndGoOn_4 : decode prog_5_method_4_code 4 = .ok (.ifCond .gt 9, 3) := by decide +kernel
theorem wd_S_putAndGoOn_7 : decode prog_5_method_4_code 7 = .ok (.aload_n 0, 1) := by decide +kernel
theorem wd_S_putAndGoOn_8 : decode prog_5_method_4_code 8 = .ok (.iconst 1, 1) := by decide +kernel
theorem wd_S_putAndGoOn_9 : decode prog_5_method_4_code 9 = .ok (.putfield 37, 3) := by decide +kernel
theorem wd_S_putAndGoOn_12 : decode prog_5_method_4_code 12 = .ok (.return_, 1) := by decide +kernel
theorem wd_S_putAndGoOn_13 : decode prog_5_method_4_code 13 = .ok (.aload_n 0, 1) := by decide +kernel
theorem wd_S_putAndGoOn_14 : decode prog_5_method_4_code 14 = .ok (.dup, 1) := by decide +kernel
theorem wd_S_putAndGoOn_15 : decode prog_5_method_4_code 15 = .ok (.getfield 23, 3) := by decide +kernel
theorem wd_S_putAndGoOn_18 : decode prog_5_method_4_code 18 = .ok (.iconst 1, 1) := by decide +kernel
theorem wd_S_putAndGoOn_19 : decode prog_5_method_4_code 19 = .ok (.isub, 1) := by decide +kernel
theorem wd_S_putAndGoOn_20 : decode prog_5_method_4_code 20 = .ok (.putfield 23, 3) := by decide +kernel
theorem wd_S_putAndGoOn_23 : decode prog_5_method_4_code 23 = .ok (.aload_n 0, 1) := by decide +kernel
theorem wd_S_putAndGoOn_24 : decode prog_5_method_4_code 24 = .ok (.getfield 19, 3) := by decide +kernel
theorem wd_S_putAndGoOn_27 : decode prog_5_method_4_code 27 = .ok (.iload_n 1, 1) := by decide +kernel
theorem wd_S_putAndGoOn_28 : decode prog_5_method_4_code 28 = .ok (.invokevirtual 65, 3) := by decide +kernel
theorem wd_S_putAndGoOn_31 : decode prog_5_method_4_code 31 = .ok (.aload_n 0, 1) := by decide +kernel
theorem wd_S_putAndGoOn_32 : decode prog_5_method_4_code 32 = .ok (.getfield 19, 3) := by decide +kernel
theorem wd_S_putAndGoOn_35 : decode prog_5_method_4_code 35 = .ok (.invokevirtual 68, 3) := by decide +kernel
theorem wd_S_putAndGoOn_38 : decode prog_5_method_4_code 38 = .ok (.aload_n 0, 1) := by decide +kernel
theorem wd_S_putAndGoOn_39 : decode prog_5_method_4_code 39 = .ok (.getfield 30, 3) := by decide +kernel
theorem wd_S_putAndGoOn_42 : decode prog_5_method_4_code 42 = .ok (.if_icmp .ge 10, 3) := by decide +kernel
theorem wd_S_putAndGoOn_45 : decode prog_5_method_4_code 45 = .ok (.aload_n 0, 1) := by decide +kernel
theorem wd_S_putAndGoOn_46 : decode prog_5_method_4_code 46 = .ok (.iload_n 2, 1) := by decide +kernel
theorem wd_S_putAndGoOn_47 : decode prog_5_method_4_code 47 = .ok (.iconst 1, 1) := by decide +kernel
theorem wd_S_putAndGoOn_48 : decode prog_5_method_4_code 48 = .ok (.iadd, 1) := by decide +kernel
theorem wd_S_putAndGoOn_49 : decode prog_5_method_4_code 49 = .ok (.invokevirtual 45, 3) := by decide +kernel
theorem wd_S_putAndGoOn_52 : decode prog_5_method_4_code 52 = .ok (.aload_n 0, 1) := by decide +kernel
theorem wd_S_putAndGoOn_53 : decode prog_5_method_4_code 53 = .ok (.getfield 19, 3) := by decide +kernel
theorem wd_S_putAndGoOn_56 : decode prog_5_method_4_code 56 = .ok (.invokevirtual 72, 3) := by decide +kernel
theorem wd_S_putAndGoOn_59 : decode prog_5_method_4_code 59 = .ok (.return_, 1) := by decide +kernel
end
section

theorem wd_S_goOnAt_0 : decode prog_5_method_3_code 0 = .ok (.iload_n 1, 1) := by decide +kernel
theorem wd_S_goOnAt_1 : decode prog_5_method_3_code 1 = .ok (.aload_n 0, 1) := by decide +kernel
theorem wd_S_goOnAt_2 : decode prog_5_method_3_code 2 = .ok (.getfield 15, 3) := by decide +kernel
theorem wd_S_goOnAt_5 : decode prog_5_method_3_code 5 = .ok (.getfield 49, 3) := by decide +kernel
theorem wd_S_goOnAt_8 : decode prog_5_method_3_code 8 = .ok (.if_icmp .lt 8, 3) := by decide +kernel
theorem wd_S_goOnAt_11 : decode prog_5_method_3_code 11 = .ok (.aload_n 0, 1) := by decide +kernel
theorem wd_S_goOnAt_12 : decode prog_5_method_3_code 12 = .ok (.invokevirtual 54, 3) := by decide +kernel
theorem wd_S_goOnAt_15 : decode prog_5_method_3_code 15 = .ok (.return_, 1) := by decide +kernel
theorem wd_S_goOnAt_16 : decode prog_5_method_3_code 16 = .ok (.iconst 0, 1) := by decide +kernel
theorem wd_S_goOnAt_17 : decode prog_5_method_3_code 17 = .ok (.istore_n 2, 1) := by decide +kernel
theorem wd_S_goOnAt_18 : decode prog_5_method_3_code 18 = .ok (.iload_n 2, 1) := by decide +kernel
theorem wd_S_goOnAt_19 : decode prog_5_method_3_code 19 = .ok (.aload_n 0, 1) := by decide +kernel
theorem wd_S_goOnAt_20 : decode prog_5_method_3_code 20 = .ok (.getfield 15, 3) := by decide +kernel
theorem wd_S_goOnAt_23 : decode prog_5_method_3_code 23 = .ok (.getfield 49, 3) := by decide +kernel
theorem wd_S_goOnAt_26 : decode prog_5_method_3_code 26 = .ok (.if_icmp .ge 33, 3) := by decide +kernel
theorem wd_S_goOnAt_29 : decode prog_5_method_3_code 29 = .ok (.aload_n 0, 1) := by decide +kernel
theorem wd_S_goOnAt_30 : decode prog_5_method_3_code 30 = .ok (.getfield 37, 3) := by decide +kernel
theorem wd_S_goOnAt_33 : decode prog_5_method_3_code 33 = .ok (.ifCond .ne 26, 3) := by decide +kernel
theorem wd_S_goOnAt_36 : decode prog_5_method_3_code 36 = .ok (.aload_n 0, 1) := by decide +kernel
theorem wd_S_goOnAt_37 : decode prog_5_method_3_code 37 = .ok (.getfield 19, 3) := by decide +kernel
theorem wd_S_goOnAt_40 : decode prog_5_method_3_code 40 = .ok (.iload_n 2, 1) := by decide +kernel
theorem wd_S_goOnAt_41 : decode prog_5_method_3_code 41 = .ok (.invokevirtual 57, 3) := by decide +kernel
theorem wd_S_goOnAt_44 : decode prog_5_method_3_code 44 = .ok (.ifCond .eq 9, 3) := by decide +kernel
theorem wd_S_goOnAt_47 : decode prog_5_method_3_code 47 = .ok (.aload_n 0, 1) := by decide +kernel
theorem wd_S_goOnAt_48 : decode prog_5_method_3_code 48 = .ok (.iload_n 2, 1) := by decide +kernel
theorem wd_S_goOnAt_49 : decode prog_5_method_3_code 49 = .ok (.iload_n 1, 1) := by decide +kernel
theorem wd_S_goOnAt_50 : decode prog_5_method_3_code 50 = .ok (.invokevirtual 61, 3) := by decide +kernel
theorem wd_S_goOnAt_53 : decode prog_5_method_3_code 53 = .ok (.iinc 2 1, 3) := by decide +kernel
theorem wd_S_goOnAt_56 : decode prog_5_method_3_code 56 = .ok (.goto (-38), 3) := by decide +kernel
theorem wd_S_goOnAt_59 : decode prog_5_method_3_code 59 = .ok (.return_, 1) := by decide +kernel
end
section

theorem wd_S_searchWith_0 : decode prog_5_method_2_code 0 = .ok (.aload_n 0, 1) := by decide +kernel
theorem wd_S_searchWith_1 : decode prog_5_method_2_code 1 = .ok (.iload_n 1, 1) := by decide +kernel
theorem wd_S_searchWith_2 : decode prog_5_method_2_code 2 = .ok (.putfield 23, 3) := by decide +kernel
theorem wd_S_searchWith_5 : decode prog_5_method_2_code 5 = .ok (.aload_n 0, 1) := by decide +kernel
theorem wd_S_searchWith_6 : decode prog_5_method_2_code 6 = .ok (.ldc 29, 2) := by decide +kernel
theorem wd_S_searchWith_8 : decode prog_5_method_2_code 8 = .ok (.putfield 30, 3) := by decide +kernel
theorem wd_S_searchWith_11 : decode prog_5_method_2_code 11 = .ok (.aload_n 0, 1) := by decide +kernel
theorem wd_S_searchWith_12 : decode prog_5_method_2_code 12 = .ok (.iconst 0, 1) := by decide +kernel
theorem wd_S_searchWith_13 : decode prog_5_method_2_code 13 = .ok (.putfield 33, 3) := by decide +kernel
theorem wd_S_searchWith_16 : decode prog_5_method_2_code 16 = .ok (.aload_n 0, 1) := by decide +kernel
theorem wd_S_searchWith_17 : decode prog_5_method_2_code 17 = .ok (.iconst 0, 1) := by decide +kernel
theorem wd_S_searchWith_18 : decode prog_5_method_2_code 18 = .ok (.putfield 37, 3) := by decide +kernel
theorem wd_S_searchWith_21 : decode prog_5_method_2_code 21 = .ok (.aload_n 0, 1) := by decide +kernel
theorem wd_S_searchWith_22 : decode prog_5_method_2_code 22 = .ok (.getfield 19, 3) := by decide +kernel
theorem wd_S_searchWith_25 : decode prog_5_method_2_code 25 = .ok (.invokevirtual 40, 3) := by decide +kernel
theorem wd_S_searchWith_28 : decode prog_5_method_2_code 28 = .ok (.aload_n 0, 1) := by decide +kernel
theorem wd_S_searchWith_29 : decode prog_5_method_2_code 29 = .ok (.iconst 0, 1) := by decide +kernel
theorem wd_S_searchWith_30 : decode prog_5_method_2_code 30 = .ok (.invokevirtual 45, 3) := by decide +kernel
theorem wd_S_searchWith_33 : decode prog_5_method_2_code 33 = .ok (.return_, 1) := by decide +kernel
end
section

theorem wd_W_isOutside_0 : decode prog_1_method_17_code 0 = .ok (.iload_n 0, 1) := by decide +kernel
theorem wd_W_isOutside_1 : decode prog_1_method_17_code 1 = .ok (.iload_n 1, 1) := by decide +kernel
theorem wd_W_isOutside_2 : decode prog_1_method_17_code 2 = .ok (.if_icmp .lt 8, 3) := by decide +kernel
theorem wd_W_isOutside_5 : decode prog_1_method_17_code 5 = .ok (.iload_n 0, 1) := by decide +kernel
theorem wd_W_isOutside_6 : decode prog_1_method_17_code 6 = .ok (.iload_n 2, 1) := by decide +kernel
theorem wd_W_isOutside_7 : decode prog_1_method_17_code 7 = .ok (.if_icmp .le 7, 3) := by decide +kernel
theorem wd_W_isOutside_10 : decode prog_1_method_17_code 10 = .ok (.iconst 1, 1) := by decide +kernel
theorem wd_W_isOutside_11 : decode prog_1_method_17_code 11 = .ok (.goto 4, 3) := by decide +kernel
theorem wd_W_isOutside_14 : decode prog_1_method_17_code 14 = .ok (.iconst 0, 1) := by decide +kernel
theorem wd_W_isOutside_15 : decode prog_1_method_17_code 15 = .ok (.ireturn, 1) := by decide +kernel
end
section

theorem wd_W_isNoCoil_0 : decode prog_1_method_18_code 0 = .ok (.iload_n 1, 1) := by decide +kernel
theorem wd_W_isNoCoil_1 : decode prog_1_method_18_code 1 = .ok (.ifCond .lt 14, 3) := by decide +kernel
theorem wd_W_isNoCoil_4 : decode prog_1_method_18_code 4 = .ok (.iload_n 1, 1) := by decide +kernel
theorem wd_W_isNoCoil_5 : decode prog_1_method_18_code 5 = .ok (.aload_n 0, 1) := by decide +kernel
theorem wd_W_isNoCoil_6 : decode prog_1_method_18_code 6 = .ok (.getfield 10, 3) := by decide +kernel
theorem wd_W_isNoCoil_9 : decode prog_1_method_18_code 9 = .ok (.getfield 52, 3) := by decide +kernel
theorem wd_W_isNoCoil_12 : decode prog_1_method_18_code 12 = .ok (.if_icmp .lt 7, 3) := by decide +kernel
theorem wd_W_isNoCoil_15 : decode prog_1_method_18_code 15 = .ok (.iconst 1, 1) := by decide +kernel
theorem wd_W_isNoCoil_16 : decode prog_1_method_18_code 16 = .ok (.goto 4, 3) := by decide +kernel
theorem wd_W_isNoCoil_19 : decode prog_1_method_18_code 19 = .ok (.iconst 0, 1) := by decide +kernel
theorem wd_W_isNoCoil_20 : decode prog_1_method_18_code 20 = .ok (.ireturn, 1) := by decide +kernel
end
section

theorem wd_W_forgetOrder_0 : decode prog_1_method_19_code 0 = .ok (.aload_n 0, 1) := by decide +kernel
theorem wd_W_forgetOrder_1 : decode prog_1_method_19_code 1 = .ok (.iconst 0, 1) := by decide +kernel
theorem wd_W_forgetOrder_2 : decode prog_1_method_19_code 2 = .ok (.putfield 154, 3) := by decide +kernel
theorem wd_W_forgetOrder_5 : decode prog_1_method_19_code 5 = .ok (.aload_n 0, 1) := by decide +kernel
theorem wd_W_forgetOrder_6 : decode prog_1_method_19_code 6 = .ok (.iconst 0, 1) := by decide +kernel
theorem wd_W_forgetOrder_7 : decode prog_1_method_19_code 7 = .ok (.putfield 147, 3) := by decide +kernel
theorem wd_W_forgetOrder_10 : decode prog_1_method_19_code 10 = .ok (.return_, 1) := by decide +kernel
end
section

theorem wd_W_requireOrder_0 : decode prog_1_method_20_code 0 = .ok (.aload_n 0, 1) := by decide +kernel
theorem wd_W_requireOrder_1 : decode prog_1_method_20_code 1 = .ok (.getfield 154, 3) := by decide +kernel
theorem wd_W_requireOrder_4 : decode prog_1_method_20_code 4 = .ok (.ifCond .ne 13, 3) := by decide +kernel
theorem wd_W_requireOrder_7 : decode prog_1_method_20_code 7 = .ok (.new 164, 3) := by decide +kernel
theorem wd_W_requireOrder_10 : decode prog_1_method_20_code 10 = .ok (.dup, 1) := by decide +kernel
theorem wd_W_requireOrder_11 : decode prog_1_method_20_code 11 = .ok (.ldc 227, 2) := by decide +kernel
theorem wd_W_requireOrder_13 : decode prog_1_method_20_code 13 = .ok (.invokespecial 168, 3) := by decide +kernel
theorem wd_W_requireOrder_16 : decode prog_1_method_20_code 16 = .ok (.athrow, 1) := by decide +kernel
theorem wd_W_requireOrder_17 : decode prog_1_method_20_code 17 = .ok (.return_, 1) := by decide +kernel
end
section

theorem wd_W_requirePlace_0 : decode prog_1_method_21_code 0 = .ok (.aload_n 0, 1) := by decide +kernel
theorem wd_W_requirePlace_1 : decode prog_1_method_21_code 1 = .ok (.iload_n 1, 1) := by decide +kernel
theorem wd_W_requirePlace_2 : decode prog_1_method_21_code 2 = .ok (.invokevirtual 110, 3) := by decide +kernel
theorem wd_W_requirePlace_5 : decode prog_1_method_21_code 5 = .ok (.ifCond .eq 13, 3) := by decide +kernel
theorem wd_W_requirePlace_8 : decode prog_1_method_21_code 8 = .ok (.new 68, 3) := by decide +kernel
theorem wd_W_requirePlace_11 : decode prog_1_method_21_code 11 = .ok (.dup, 1) := by decide +kernel
theorem wd_W_requirePlace_12 : decode prog_1_method_21_code 12 = .ok (.ldc 229, 2) := by decide +kernel
theorem wd_W_requirePlace_14 : decode prog_1_method_21_code 14 = .ok (.invokespecial 72, 3) := by decide +kernel
theorem wd_W_requirePlace_17 : decode prog_1_method_21_code 17 = .ok (.athrow, 1) := by decide +kernel
theorem wd_W_requirePlace_18 : decode prog_1_method_21_code 18 = .ok (.return_, 1) := by decide +kernel
end
section

theorem wd_W_readIntoScratch_0 : decode prog_1_method_22_code 0 = .ok (.iconst 0, 1) := by decide +kernel
theorem wd_W_readIntoScratch_1 : decode prog_1_method_22_code 1 = .ok (.istore_n 3, 1) := by decide +kernel
theorem wd_W_readIntoScratch_2 : decode prog_1_method_22_code 2 = .ok (.iconst 0, 1) := by decide +kernel
theorem wd_W_readIntoScratch_3 : decode prog_1_method_22_code 3 = .ok (.istore 4, 2) := by decide +kernel
theorem wd_W_readIntoScratch_5 : decode prog_1_method_22_code 5 = .ok (.iload 4, 2) := by decide +kernel
theorem wd_W_readIntoScratch_7 : decode prog_1_method_22_code 7 = .ok (.aload_n 0, 1) := by decide +kernel
theorem wd_W_readIntoScratch_8 : decode prog_1_method_22_code 8 = .ok (.getfield 10, 3) := by decide +kernel
theorem wd_W_readIntoScratch_11 : decode prog_1_method_22_code 11 = .ok (.getfield 52, 3) := by decide +kernel
theorem wd_W_readIntoScratch_14 : decode prog_1_method_22_code 14 = .ok (.if_icmp .ge 58, 3) := by decide +kernel
theorem wd_W_readIntoScratch_17 : decode prog_1_method_22_code 17 = .ok (.lload_n 1, 1) := by decide +kernel
theorem wd_W_readIntoScratch_18 : decode prog_1_method_22_code 18 = .ok (.iconst 4, 1) := by decide +kernel
theorem wd_W_readIntoScratch_19 : decode prog_1_method_22_code 19 = .ok (.iload 4, 2) := by decide +kernel
theorem wd_W_readIntoScratch_21 : decode prog_1_method_22_code 21 = .ok (.imul, 1) := by decide +kernel
theorem wd_W_readIntoScratch_22 : decode prog_1_method_22_code 22 = .ok (.lushr, 1) := by decide +kernel
theorem wd_W_readIntoScratch_23 : decode prog_1_method_22_code 23 = .ok (.l2i, 1) := by decide +kernel
theorem wd_W_readIntoScratch_24 : decode prog_1_method_22_code 24 = .ok (.bipush 15, 2) := by decide +kernel
theorem wd_W_readIntoScratch_26 : decode prog_1_method_22_code 26 = .ok (.iand, 1) := by decide +kernel
theorem wd_W_readIntoScratch_27 : decode prog_1_method_22_code 27 = .ok (.istore 5, 2) := by decide +kernel
theorem wd_W_readIntoScratch_29 : decode prog_1_method_22_code 29 = .ok (.aload_n 0, 1) := by decide +kernel
theorem wd_W_readIntoScratch_30 : decode prog_1_method_22_code 30 = .ok (.iload 5, 2) := by decide +kernel
theorem wd_W_readIntoScratch_32 : decode prog_1_method_22_code 32 = .ok (.invokevirtual 110, 3) := by decide +kernel
theorem wd_W_readIntoScratch_35 : decode prog_1_method_22_code 35 = .ok (.ifCond .ne 13, 3) := by decide +kernel
theorem wd_W_readIntoScratch_38 : decode prog_1_method_22_code 38 = .ok (.iload_n 3, 1) := by decide +kernel
theorem wd_W_readIntoScratch_39 : decode prog_1_method_22_code 39 = .ok (.iload 5, 2) := by decide +kernel
theorem wd_W_readIntoScratch_41 : decode prog_1_method_22_code 41 = .ok (.ishr, 1) := by decide +kernel
theorem wd_W_readIntoScratch_42 : decode prog_1_method_22_code 42 = .ok (.iconst 1, 1) := by decide +kernel
theorem wd_W_readIntoScratch_43 : decode prog_1_method_22_code 43 = .ok (.iand, 1) := by decide +kernel
theorem wd_W_readIntoScratch_44 : decode prog_1_method_22_code 44 = .ok (.iconst 1, 1) := by decide +kernel
theorem wd_W_readIntoScratch_45 : decode prog_1_method_22_code 45 = .ok (.if_icmp .ne 5, 3) := by decide +kernel
theorem wd_W_readIntoScratch_48 : decode prog_1_method_22_code 48 = .ok (.iconst 0, 1) := by decide +kernel
theorem wd_W_readIntoScratch_49 : decode prog_1_method_22_code 49 = .ok (.ireturn, 1) := by decide +kernel
theorem wd_W_readIntoScratch_50 : decode prog_1_method_22_code 50 = .ok (.iload_n 3, 1) := by decide +kernel
theorem wd_W_readIntoScratch_51 : decode prog_1_method_22_code 51 = .ok (.iconst 1, 1) := by decide +kernel
theorem wd_W_readIntoScratch_52 : decode prog_1_method_22_code 52 = .ok (.iload 5, 2) := by decide +kernel
theorem wd_W_readIntoScratch_54 : decode prog_1_method_22_code 54 = .ok (.ishl, 1) := by decide +kernel
theorem wd_W_readIntoScratch_55 : decode prog_1_method_22_code 55 = .ok (.ior, 1) := by decide +kernel
theorem wd_W_readIntoScratch_56 : decode prog_1_method_22_code 56 = .ok (.istore_n 3, 1) := by decide +kernel
theorem wd_W_readIntoScratch_57 : decode prog_1_method_22_code 57 = .ok (.aload_n 0, 1) := by decide +kernel
theorem wd_W_readIntoScratch_58 : decode prog_1_method_22_code 58 = .ok (.getfield 37, 3) := by decide +kernel
theorem wd_W_readIntoScratch_61 : decode prog_1_method_22_code 61 = .ok (.iload 4, 2) := by decide +kernel
theorem wd_W_readIntoScratch_63 : decode prog_1_method_22_code 63 = .ok (.iload 5, 2) := by decide +kernel
theorem wd_W_readIntoScratch_65 : decode prog_1_method_22_code 65 = .ok (.iastore, 1) := by decide +kernel
theorem wd_W_readIntoScratch_66 : decode prog_1_method_22_code 66 = .ok (.iinc 4 1, 3) := by decide +kernel
theorem wd_W_readIntoScratch_69 : decode prog_1_method_22_code 69 = .ok (.goto (-64), 3) := by decide +kernel
theorem wd_W_readIntoScratch_72 : decode prog_1_method_22_code 72 = .ok (.iconst 1, 1) := by decide +kernel
theorem wd_W_readIntoScratch_73 : decode prog_1_method_22_code 73 = .ok (.ireturn, 1) := by decide +kernel
end
section

theorem wd_W_takePairIfBetter_0 : decode prog_1_method_24_code 0 = .ok (.aload_n 0, 1) := by decide +kernel
theorem wd_W_takePairIfBetter_1 : decode prog_1_method_24_code 1 = .ok (.getfield 25, 3) := by decide +kernel
theorem wd_W_takePairIfBetter_4 : decode prog_1_method_24_code 4 = .ok (.getfield 178, 3) := by decide +kernel
theorem wd_W_takePairIfBetter_7 : decode prog_1_method_24_code 7 = .ok (.iconst 0, 1) := by decide +kernel
theorem wd_W_takePairIfBetter_8 : decode prog_1_method_24_code 8 = .ok (.aload_n 0, 1) := by decide +kernel
theorem wd_W_takePairIfBetter_9 : decode prog_1_method_24_code 9 = .ok (.getfield 37, 3) := by decide +kernel
theorem wd_W_takePairIfBetter_12 : decode prog_1_method_24_code 12 = .ok (.iconst 0, 1) := by decide +kernel
theorem wd_W_takePairIfBetter_13 : decode prog_1_method_24_code 13 = .ok (.aload_n 0, 1) := by decide +kernel
theorem wd_W_takePairIfBetter_14 : decode prog_1_method_24_code 14 = .ok (.getfield 10, 3) := by decide +kernel
theorem wd_W_takePairIfBetter_17 : decode prog_1_method_24_code 17 = .ok (.getfield 52, 3) := by decide +kernel
theorem wd_W_takePairIfBetter_20 : decode prog_1_method_24_code 20 = .ok (.invokestatic 235, 3) := by decide +kernel
theorem wd_W_takePairIfBetter_23 : decode prog_1_method_24_code 23 = .ok (.aload_n 0, 1) := by decide +kernel
theorem wd_W_takePairIfBetter_24 : decode prog_1_method_24_code 24 = .ok (.getfield 37, 3) := by decide +kernel
theorem wd_W_takePairIfBetter_27 : decode prog_1_method_24_code 27 = .ok (.iload_n 1, 1) := by decide +kernel
theorem wd_W_takePairIfBetter_28 : decode prog_1_method_24_code 28 = .ok (.aload_n 0, 1) := by decide +kernel
theorem wd_W_takePairIfBetter_29 : decode prog_1_method_24_code 29 = .ok (.getfield 25, 3) := by decide +kernel
theorem wd_W_takePairIfBetter_32 : decode prog_1_method_24_code 32 = .ok (.getfield 178, 3) := by decide +kernel
theorem wd_W_takePairIfBetter_35 : decode prog_1_method_24_code 35 = .ok (.iload_n 2, 1) := by decide +kernel
theorem wd_W_takePairIfBetter_36 : decode prog_1_method_24_code 36 = .ok (.iaload, 1) := by decide +kernel
theorem wd_W_takePairIfBetter_37 : decode prog_1_method_24_code 37 = .ok (.iastore, 1) := by decide +kernel
theorem wd_W_takePairIfBetter_38 : decode prog_1_method_24_code 38 = .ok (.aload_n 0, 1) := by decide +kernel
theorem wd_W_takePairIfBetter_39 : decode prog_1_method_24_code 39 = .ok (.getfield 37, 3) := by decide +kernel
theorem wd_W_takePairIfBetter_42 : decode prog_1_method_24_code 42 = .ok (.iload_n 2, 1) := by decide +kernel
theorem wd_W_takePairIfBetter_43 : decode prog_1_method_24_code 43 = .ok (.aload_n 0, 1) := by decide +kernel
theorem wd_W_takePairIfBetter_44 : decode prog_1_method_24_code 44 = .ok (.getfield 25, 3) := by decide +kernel
theorem wd_W_takePairIfBetter_47 : decode prog_1_method_24_code 47 = .ok (.getfield 178, 3) := by decide +kernel
theorem wd_W_takePairIfBetter_50 : decode prog_1_method_24_code 50 = .ok (.iload_n 1, 1) := by decide +kernel
theorem wd_W_takePairIfBetter_51 : decode prog_1_method_24_code 51 = .ok (.iaload, 1) := by decide +kernel
theorem wd_W_takePairIfBetter_52 : decode prog_1_method_24_code 52 = .ok (.iastore, 1) := by decide +kernel
theorem wd_W_takePairIfBetter_53 : decode prog_1_method_24_code 53 = .ok (.aload_n 0, 1) := by decide +kernel
theorem wd_W_takePairIfBetter_54 : decode prog_1_method_24_code 54 = .ok (.getfield 21, 3) := by decide +kernel
theorem wd_W_takePairIfBetter_57 : decode prog_1_method_24_code 57 = .ok (.aload_n 0, 1) := by decide +kernel
theorem wd_W_takePairIfBetter_58 : decode prog_1_method_24_code 58 = .ok (.getfield 37, 3) := by decide +kernel
theorem wd_W_takePairIfBetter_61 : decode prog_1_method_24_code 61 = .ok (.invokevirtual 160, 3) := by decide +kernel
theorem wd_W_takePairIfBetter_64 : decode prog_1_method_24_code 64 = .ok (.ifCond .eq 20, 3) := by decide +kernel
theorem wd_W_takePairIfBetter_67 : decode prog_1_method_24_code 67 = .ok (.aload_n 0, 1) := by decide +kernel
theorem wd_W_takePairIfBetter_68 : decode prog_1_method_24_code 68 = .ok (.getfield 21, 3) := by decide +kernel
theorem wd_W_takePairIfBetter_71 : decode prog_1_method_24_code 71 = .ok (.invokevirtual 183, 3) := by decide +kernel
theorem wd_W_takePairIfBetter_74 : decode prog_1_method_24_code 74 = .ok (.aload_n 0, 1) := by decide +kernel
theorem wd_W_takePairIfBetter_75 : decode prog_1_method_24_code 75 = .ok (.getfield 25, 3) := by decide +kernel
theorem wd_W_takePairIfBetter_78 : decode prog_1_method_24_code 78 = .ok (.invokevirtual 183, 3) := by decide +kernel
theorem wd_W_takePairIfBetter_81 : decode prog_1_method_24_code 81 = .ok (.if_icmp .lt 5, 3) := by decide +kernel
theorem wd_W_takePairIfBetter_84 : decode prog_1_method_24_code 84 = .ok (.iconst 0, 1) := by decide +kernel
theorem wd_W_takePairIfBetter_85 : decode prog_1_method_24_code 85 = .ok (.ireturn, 1) := by decide +kernel
theorem wd_W_takePairIfBetter_86 : decode prog_1_method_24_code 86 = .ok (.aload_n 0, 1) := by decide +kernel
theorem wd_W_takePairIfBetter_87 : decode prog_1_method_24_code 87 = .ok (.getfield 25, 3) := by decide +kernel
theorem wd_W_takePairIfBetter_90 : decode prog_1_method_24_code 90 = .ok (.aload_n 0, 1) := by decide +kernel
theorem wd_W_takePairIfBetter_91 : decode prog_1_method_24_code 91 = .ok (.getfield 37, 3) := by decide +kernel
theorem wd_W_takePairIfBetter_94 : decode prog_1_method_24_code 94 = .ok (.invokevirtual 160, 3) := by decide +kernel
theorem wd_W_takePairIfBetter_97 : decode prog_1_method_24_code 97 = .ok (.pop, 1) := by decide +kernel
theorem wd_W_takePairIfBetter_98 : decode prog_1_method_24_code 98 = .ok (.iconst 1, 1) := by decide +kernel
theorem wd_W_takePairIfBetter_99 : decode prog_1_method_24_code 99 = .ok (.ireturn, 1) := by decide +kernel
end
section

theorem wd_W_takeFirstBetterPair_0 : decode prog_1_method_23_code 0 = .ok (.iconst 0, 1) := by decide +kernel
theorem wd_W_takeFirstBetterPair_1 : decode prog_1_method_23_code 1 = .ok (.istore_n 1, 1) := by decide +kernel
theorem wd_W_takeFirstBetterPair_2 : decode prog_1_method_23_code 2 = .ok (.iload_n 1, 1) := by decide +kernel
theorem wd_W_takeFirstBetterPair_3 : decode prog_1_method_23_code 3 = .ok (.aload_n 0, 1) := by decide +kernel
theorem wd_W_takeFirstBetterPair_4 : decode prog_1_method_23_code 4 = .ok (.getfield 10, 3) := by decide +kernel
theorem wd_W_takeFirstBetterPair_7 : decode prog_1_method_23_code 7 = .ok (.getfield 52, 3) := by decide +kernel
theorem wd_W_takeFirstBetterPair_10 : decode prog_1_method_23_code 10 = .ok (.if_icmp .ge 41, 3) := by decide +kernel
theorem wd_W_takeFirstBetterPair_13 : decode prog_1_method_23_code 13 = .ok (.iload_n 1, 1) := by decide +kernel
theorem wd_W_takeFirstBetterPair_14 : decode prog_1_method_23_code 14 = .ok (.iconst 1, 1) := by decide +kernel
theorem wd_W_takeFirstBetterPair_15 : decode prog_1_method_23_code 15 = .ok (.iadd, 1) := by decide +kernel
theorem wd_W_takeFirstBetterPair_16 : decode prog_1_method_23_code 16 = .ok (.istore_n 2, 1) := by decide +kernel
theorem wd_W_takeFirstBetterPair_17 : decode prog_1_method_23_code 17 = .ok (.iload_n 2, 1) := by decide +kernel
theorem wd_W_takeFirstBetterPair_18 : decode prog_1_method_23_code 18 = .ok (.aload_n 0, 1) := by decide +kernel
theorem wd_W_takeFirstBetterPair_19 : decode prog_1_method_23_code 19 = .ok (.getfield 10, 3) := by decide +kernel
theorem wd_W_takeFirstBetterPair_22 : decode prog_1_method_23_code 22 = .ok (.getfield 52, 3) := by decide +kernel
theorem wd_W_takeFirstBetterPair_25 : decode prog_1_method_23_code 25 = .ok (.if_icmp .ge 20, 3) := by decide +kernel
theorem wd_W_takeFirstBetterPair_28 : decode prog_1_method_23_code 28 = .ok (.aload_n 0, 1) := by decide +kernel
theorem wd_W_takeFirstBetterPair_29 : decode prog_1_method_23_code 29 = .ok (.iload_n 1, 1) := by decide +kernel
theorem wd_W_takeFirstBetterPair_30 : decode prog_1_method_23_code 30 = .ok (.iload_n 2, 1) := by decide +kernel
theorem wd_W_takeFirstBetterPair_31 : decode prog_1_method_23_code 31 = .ok (.invokevirtual 231, 3) := by decide +kernel
theorem wd_W_takeFirstBetterPair_34 : decode prog_1_method_23_code 34 = .ok (.ifCond .eq 5, 3) := by decide +kernel
theorem wd_W_takeFirstBetterPair_37 : decode prog_1_method_23_code 37 = .ok (.iconst 1, 1) := by decide +kernel
theorem wd_W_takeFirstBetterPair_38 : decode prog_1_method_23_code 38 = .ok (.ireturn, 1) := by decide +kernel
theorem wd_W_takeFirstBetterPair_39 : decode prog_1_method_23_code 39 = .ok (.iinc 2 1, 3) := by decide +kernel
theorem wd_W_takeFirstBetterPair_42 : decode prog_1_method_23_code 42 = .ok (.goto (-25), 3) := by decide +kernel
theorem wd_W_takeFirstBetterPair_45 : decode prog_1_method_23_code 45 = .ok (.iinc 1 1, 3) := by decide +kernel
theorem wd_W_takeFirstBetterPair_48 : decode prog_1_method_23_code 48 = .ok (.goto (-46), 3) := by decide +kernel
theorem wd_W_takeFirstBetterPair_51 : decode prog_1_method_23_code 51 = .ok (.iconst 0, 1) := by decide +kernel
theorem wd_W_takeFirstBetterPair_52 : decode prog_1_method_23_code 52 = .ok (.ireturn, 1) := by decide +kernel
end
section

theorem wd_W_coil_0 : decode prog_1_method_2_code 0 = .ok (.iload_n 1, 1) := by decide +kernel
theorem wd_W_coil_1 : decode prog_1_method_2_code 1 = .ok (.iconst 1, 1) := by decide +kernel
theorem wd_W_coil_2 : decode prog_1_method_2_code 2 = .ok (.sipush 2000, 3) := by decide +kernel
theorem wd_W_coil_5 : decode prog_1_method_2_code 5 = .ok (.invokestatic 41, 3) := by decide +kernel
theorem wd_W_coil_8 : decode prog_1_method_2_code 8 = .ok (.ifCond .ne 35, 3) := by decide +kernel
theorem wd_W_coil_11 : decode prog_1_method_2_code 11 = .ok (.iload_n 2, 1) := by decide +kernel
theorem wd_W_coil_12 : decode prog_1_method_2_code 12 = .ok (.iconst 1, 1) := by decide +kernel
theorem wd_W_coil_13 : decode prog_1_method_2_code 13 = .ok (.sipush 1000, 3) := by decide +kernel
theorem wd_W_coil_16 : decode prog_1_method_2_code 16 = .ok (.invokestatic 41, 3) := by decide +kernel
theorem wd_W_coil_19 : decode prog_1_method_2_code 19 = .ok (.ifCond .ne 24, 3) := by decide +kernel
theorem wd_W_coil_22 : decode prog_1_method_2_code 22 = .ok (.iload_n 3, 1) := by decide +kernel
theorem wd_W_coil_23 : decode prog_1_method_2_code 23 = .ok (.iconst 0, 1) := by decide +kernel
theorem wd_W_coil_24 : decode prog_1_method_2_code 24 = .ok (.bipush 9, 2) := by decide +kernel
theorem wd_W_coil_26 : decode prog_1_method_2_code 26 = .ok (.invokestatic 41, 3) := by decide +kernel
theorem wd_W_coil_29 : decode prog_1_method_2_code 29 = .ok (.ifCond .ne 14, 3) := by decide +kernel
theorem wd_W_coil_32 : decode prog_1_method_2_code 32 = .ok (.iload 4, 2) := by decide +kernel
theorem wd_W_coil_34 : decode prog_1_method_2_code 34 = .ok (.iconst 1, 1) := by decide +kernel
theorem wd_W_coil_35 : decode prog_1_method_2_code 35 = .ok (.bipush 100, 2) := by decide +kernel
theorem wd_W_coil_37 : decode prog_1_method_2_code 37 = .ok (.invokestatic 41, 3) := by decide +kernel
theorem wd_W_coil_40 : decode prog_1_method_2_code 40 = .ok (.ifCond .eq 13, 3) := by decide +kernel
theorem wd_W_coil_43 : decode prog_1_method_2_code 43 = .ok (.new 45, 3) := by decide +kernel
theorem wd_W_coil_46 : decode prog_1_method_2_code 46 = .ok (.dup, 1) := by decide +kernel
theorem wd_W_coil_47 : decode prog_1_method_2_code 47 = .ok (.ldc 47, 2) := by decide +kernel
theorem wd_W_coil_49 : decode prog_1_method_2_code 49 = .ok (.invokespecial 49, 3) := by decide +kernel
theorem wd_W_coil_52 : decode prog_1_method_2_code 52 = .ok (.athrow, 1) := by decide +kernel
theorem wd_W_coil_53 : decode prog_1_method_2_code 53 = .ok (.aload_n 0, 1) := by decide +kernel
theorem wd_W_coil_54 : decode prog_1_method_2_code 54 = .ok (.getfield 10, 3) := by decide +kernel
theorem wd_W_coil_57 : decode prog_1_method_2_code 57 = .ok (.getfield 52, 3) := by decide +kernel
theorem wd_W_coil_60 : decode prog_1_method_2_code 60 = .ok (.bipush 9, 2) := by decide +kernel
theorem wd_W_coil_62 : decode prog_1_method_2_code 62 = .ok (.if_icmp .lt 13, 3) := by decide +kernel
theorem wd_W_coil_65 : decode prog_1_method_2_code 65 = .ok (.new 56, 3) := by decide +kernel
theorem wd_W_coil_68 : decode prog_1_method_2_code 68 = .ok (.dup, 1) := by decide +kernel
theorem wd_W_coil_69 : decode prog_1_method_2_code 69 = .ok (.ldc 58, 2) := by decide +kernel
theorem wd_W_coil_71 : decode prog_1_method_2_code 71 = .ok (.invokespecial 60, 3) := by decide +kernel
theorem wd_W_coil_74 : decode prog_1_method_2_code 74 = .ok (.athrow, 1) := by decide +kernel
theorem wd_W_coil_75 : decode prog_1_method_2_code 75 = .ok (.aload_n 0, 1) := by decide +kernel
theorem wd_W_coil_76 : decode prog_1_method_2_code 76 = .ok (.invokevirtual 61, 3) := by decide +kernel
theorem wd_W_coil_79 : decode prog_1_method_2_code 79 = .ok (.aload_n 0, 1) := by decide +kernel
theorem wd_W_coil_80 : decode prog_1_method_2_code 80 = .ok (.getfield 10, 3) := by decide +kernel
theorem wd_W_coil_83 : decode prog_1_method_2_code 83 = .ok (.iload_n 1, 1) := by decide +kernel
theorem wd_W_coil_84 : decode prog_1_method_2_code 84 = .ok (.iload_n 2, 1) := by decide +kernel
theorem wd_W_coil_85 : decode prog_1_method_2_code 85 = .ok (.iload_n 3, 1) := by decide +kernel
theorem wd_W_coil_86 : decode prog_1_method_2_code 86 = .ok (.iload 4, 2) := by decide +kernel
theorem wd_W_coil_88 : decode prog_1_method_2_code 88 = .ok (.invokevirtual 64, 3) := by decide +kernel
theorem wd_W_coil_91 : decode prog_1_method_2_code 91 = .ok (.ireturn, 1) := by decide +kernel
end
section

theorem wd_W_table_0 : decode prog_1_method_3_code 0 = .ok (.iload_n 1, 1) := by decide +kernel
theorem wd_W_table_1 : decode prog_1_method_3_code 1 = .ok (.iconst 0, 1) := by decide +kernel
theorem wd_W_table_2 : decode prog_1_method_3_code 2 = .ok (.iconst 1, 1) := by decide +kernel
theorem wd_W_table_3 : decode prog_1_method_3_code 3 = .ok (.invokestatic 41, 3) := by decide +kernel
theorem wd_W_table_6 : decode prog_1_method_3_code 6 = .ok (.ifCond .eq 13, 3) := by decide +kernel
theorem wd_W_table_9 : decode prog_1_method_3_code 9 = .ok (.new 68, 3) := by decide +kernel
theorem wd_W_table_12 : decode prog_1_method_3_code 12 = .ok (.dup, 1) := by decide +kernel
theorem wd_W_table_13 : decode prog_1_method_3_code 13 = .ok (.ldc 70, 2) := by decide +kernel
theorem wd_W_table_15 : decode prog_1_method_3_code 15 = .ok (.invokespecial 72, 3) := by decide +kernel
theorem wd_W_table_18 : decode prog_1_method_3_code 18 = .ok (.athrow, 1) := by decide +kernel
theorem wd_W_table_19 : decode prog_1_method_3_code 19 = .ok (.iload_n 2, 1) := by decide +kernel
theorem wd_W_table_20 : decode prog_1_method_3_code 20 = .ok (.iconst 0, 1) := by decide +kernel
theorem wd_W_table_21 : decode prog_1_method_3_code 21 = .ok (.sipush 1000, 3) := by decide +kernel
theorem wd_W_table_24 : decode prog_1_method_3_code 24 = .ok (.invokestatic 41, 3) := by decide +kernel
theorem wd_W_table_27 : decode prog_1_method_3_code 27 = .ok (.ifCond .ne 26, 3) := by decide +kernel
theorem wd_W_table_30 : decode prog_1_method_3_code 30 = .ok (.iload_n 3, 1) := by decide +kernel
theorem wd_W_table_31 : decode prog_1_method_3_code 31 = .ok (.iload_n 2, 1) := by decide +kernel
theorem wd_W_table_32 : decode prog_1_method_3_code 32 = .ok (.sipush 1000, 3) := by decide +kernel
theorem wd_W_table_35 : decode prog_1_method_3_code 35 = .ok (.invokestatic 41, 3) := by decide +kernel
theorem wd_W_table_38 : decode prog_1_method_3_code 38 = .ok (.ifCond .ne 15, 3) := by decide +kernel
theorem wd_W_table_41 : decode prog_1_method_3_code 41 = .ok (.iload 4, 2) := by decide +kernel
theorem wd_W_table_43 : decode prog_1_method_3_code 43 = .ok (.iconst 0, 1) := by decide +kernel
theorem wd_W_table_44 : decode prog_1_method_3_code 44 = .ok (.sipush 10000, 3) := by decide +kernel
theorem wd_W_table_47 : decode prog_1_method_3_code 47 = .ok (.invokestatic 41, 3) := by decide +kernel
theorem wd_W_table_50 : decode prog_1_method_3_code 50 = .ok (.ifCond .eq 13, 3) := by decide +kernel
theorem wd_W_table_53 : decode prog_1_method_3_code 53 = .ok (.new 45, 3) := by decide +kernel
theorem wd_W_table_56 : decode prog_1_method_3_code 56 = .ok (.dup, 1) := by decide +kernel
theorem wd_W_table_57 : decode prog_1_method_3_code 57 = .ok (.ldc 73, 2) := by decide +kernel
theorem wd_W_table_59 : decode prog_1_method_3_code 59 = .ok (.invokespecial 49, 3) := by decide +kernel
theorem wd_W_table_62 : decode prog_1_method_3_code 62 = .ok (.athrow, 1) := by decide +kernel
theorem wd_W_table_63 : decode prog_1_method_3_code 63 = .ok (.iload_n 1, 1) := by decide +kernel
theorem wd_W_table_64 : decode prog_1_method_3_code 64 = .ok (.ifCond .ne 13, 3) := by decide +kernel
theorem wd_W_table_67 : decode prog_1_method_3_code 67 = .ok (.aload_n 0, 1) := by decide +kernel
theorem wd_W_table_68 : decode prog_1_method_3_code 68 = .ok (.getfield 10, 3) := by decide +kernel
theorem wd_W_table_71 : decode prog_1_method_3_code 71 = .ok (.getfield 75, 3) := by decide +kernel
theorem wd_W_table_74 : decode prog_1_method_3_code 74 = .ok (.goto 10, 3) := by decide +kernel
theorem wd_W_table_77 : decode prog_1_method_3_code 77 = .ok (.aload_n 0, 1) := by decide +kernel
theorem wd_W_table_78 : decode prog_1_method_3_code 78 = .ok (.getfield 10, 3) := by decide +kernel
theorem wd_W_table_81 : decode prog_1_method_3_code 81 = .ok (.getfield 79, 3) := by decide +kernel
theorem wd_W_table_84 : decode prog_1_method_3_code 84 = .ok (.astore 5, 2) := by decide +kernel
theorem wd_W_table_86 : decode prog_1_method_3_code 86 = .ok (.aload 5, 2) := by decide +kernel
theorem wd_W_table_88 : decode prog_1_method_3_code 88 = .ok (.getfield 82, 3) := by decide +kernel
theorem wd_W_table_91 : decode prog_1_method_3_code 91 = .ok (.bipush 8, 2) := by decide +kernel
theorem wd_W_table_93 : decode prog_1_method_3_code 93 = .ok (.if_icmp .lt 13, 3) := by decide +kernel
theorem wd_W_table_96 : decode prog_1_method_3_code 96 = .ok (.new 56, 3) := by decide +kernel
theorem wd_W_table_99 : decode prog_1_method_3_code 99 = .ok (.dup, 1) := by decide +kernel
theorem wd_W_table_100 : decode prog_1_method_3_code 100 = .ok (.ldc 87, 2) := by decide +kernel
theorem wd_W_table_102 : decode prog_1_method_3_code 102 = .ok (.invokespecial 60, 3) := by decide +kernel
theorem wd_W_table_105 : decode prog_1_method_3_code 105 = .ok (.athrow, 1) := by decide +kernel
theorem wd_W_table_106 : decode prog_1_method_3_code 106 = .ok (.aload_n 0, 1) := by decide +kernel
theorem wd_W_table_107 : decode prog_1_method_3_code 107 = .ok (.invokevirtual 61, 3) := by decide +kernel
theorem wd_W_table_110 : decode prog_1_method_3_code 110 = .ok (.aload 5, 2) := by decide +kernel
theorem wd_W_table_112 : decode prog_1_method_3_code 112 = .ok (.iload_n 2, 1) := by decide +kernel
theorem wd_W_table_113 : decode prog_1_method_3_code 113 = .ok (.iload_n 3, 1) := by decide +kernel
theorem wd_W_table_114 : decode prog_1_method_3_code 114 = .ok (.iload 4, 2) := by decide +kernel
theorem wd_W_table_116 : decode prog_1_method_3_code 116 = .ok (.invokevirtual 89, 3) := by decide +kernel
theorem wd_W_table_119 : decode prog_1_method_3_code 119 = .ok (.aload_n 0, 1) := by decide +kernel
theorem wd_W_table_120 : decode prog_1_method_3_code 120 = .ok (.getfield 10, 3) := by decide +kernel
theorem wd_W_table_123 : decode prog_1_method_3_code 123 = .ok (.invokevirtual 93, 3) := by decide +kernel
theorem wd_W_table_126 : decode prog_1_method_3_code 126 = .ok (.aload 5, 2) := by decide +kernel
theorem wd_W_table_128 : decode prog_1_method_3_code 128 = .ok (.getfield 82, 3) := by decide +kernel
theorem wd_W_table_131 : decode prog_1_method_3_code 131 = .ok (.ireturn, 1) := by decide +kernel
end
section

theorem wd_W_group_0 : decode prog_1_method_4_code 0 = .ok (.iload_n 1, 1) := by decide +kernel
theorem wd_W_group_1 : decode prog_1_method_4_code 1 = .ok (.iconst 1, 1) := by decide +kernel
theorem wd_W_group_2 : decode prog_1_method_4_code 2 = .ok (.sipush 2000, 3) := by decide +kernel
theorem wd_W_group_5 : decode prog_1_method_4_code 5 = .ok (.invokestatic 41, 3) := by decide +kernel
theorem wd_W_group_8 : decode prog_1_method_4_code 8 = .ok (.ifCond .ne 25, 3) := by decide +kernel
theorem wd_W_group_11 : decode prog_1_method_4_code 11 = .ok (.iload_n 2, 1) := by decide +kernel
theorem wd_W_group_12 : decode prog_1_method_4_code 12 = .ok (.iload_n 1, 1) := by decide +kernel
theorem wd_W_group_13 : decode prog_1_method_4_code 13 = .ok (.sipush 2000, 3) := by decide +kernel
theorem wd_W_group_16 : decode prog_1_method_4_code 16 = .ok (.invokestatic 41, 3) := by decide +kernel
theorem wd_W_group_19 : decode prog_1_method_4_code 19 = .ok (.ifCond .ne 14, 3) := by decide +kernel
theorem wd_W_group_22 : decode prog_1_method_4_code 22 = .ok (.iload_n 3, 1) := by decide +kernel
theorem wd_W_group_23 : decode prog_1_method_4_code 23 = .ok (.iconst 1, 1) := by decide +kernel
theorem wd_W_group_24 : decode prog_1_method_4_code 24 = .ok (.sipush 1000, 3) := by decide +kernel
theorem wd_W_group_27 : decode prog_1_method_4_code 27 = .ok (.invokestatic 41, 3) := by decide +kernel
theorem wd_W_group_30 : decode prog_1_method_4_code 30 = .ok (.ifCond .eq 13, 3) := by decide +kernel
theorem wd_W_group_33 : decode prog_1_method_4_code 33 = .ok (.new 45, 3) := by decide +kernel
theorem wd_W_group_36 : decode prog_1_method_4_code 36 = .ok (.dup, 1) := by decide +kernel
theorem wd_W_group_37 : decode prog_1_method_4_code 37 = .ok (.ldc 96, 2) := by decide +kernel
theorem wd_W_group_39 : decode prog_1_method_4_code 39 = .ok (.invokespecial 49, 3) := by decide +kernel
theorem wd_W_group_42 : decode prog_1_method_4_code 42 = .ok (.athrow, 1) := by decide +kernel
theorem wd_W_group_43 : decode prog_1_method_4_code 43 = .ok (.aload_n 0, 1) := by decide +kernel
theorem wd_W_group_44 : decode prog_1_method_4_code 44 = .ok (.getfield 10, 3) := by decide +kernel
theorem wd_W_group_47 : decode prog_1_method_4_code 47 = .ok (.getfield 98, 3) := by decide +kernel
theorem wd_W_group_50 : decode prog_1_method_4_code 50 = .ok (.getfield 102, 3) := by decide +kernel
theorem wd_W_group_53 : decode prog_1_method_4_code 53 = .ok (.iconst 4, 1) := by decide +kernel
theorem wd_W_group_54 : decode prog_1_method_4_code 54 = .ok (.if_icmp .lt 13, 3) := by decide +kernel
theorem wd_W_group_57 : decode prog_1_method_4_code 57 = .ok (.new 56, 3) := by decide +kernel
theorem wd_W_group_60 : decode prog_1_method_4_code 60 = .ok (.dup, 1) := by decide +kernel
theorem wd_W_group_61 : decode prog_1_method_4_code 61 = .ok (.ldc 105, 2) := by decide +kernel
theorem wd_W_group_63 : decode prog_1_method_4_code 63 = .ok (.invokespecial 60, 3) := by decide +kernel
theorem wd_W_group_66 : decode prog_1_method_4_code 66 = .ok (.athrow, 1) := by decide +kernel
theorem wd_W_group_67 : decode prog_1_method_4_code 67 = .ok (.aload_n 0, 1) := by decide +kernel
theorem wd_W_group_68 : decode prog_1_method_4_code 68 = .ok (.invokevirtual 61, 3) := by decide +kernel
theorem wd_W_group_71 : decode prog_1_method_4_code 71 = .ok (.aload_n 0, 1) := by decide +kernel
theorem wd_W_group_72 : decode prog_1_method_4_code 72 = .ok (.getfield 10, 3) := by decide +kernel
theorem wd_W_group_75 : decode prog_1_method_4_code 75 = .ok (.getfield 98, 3) := by decide +kernel
theorem wd_W_group_78 : decode prog_1_method_4_code 78 = .ok (.iload_n 1, 1) := by decide +kernel
theorem wd_W_group_79 : decode prog_1_method_4_code 79 = .ok (.iload_n 2, 1) := by decide +kernel
theorem wd_W_group_80 : decode prog_1_method_4_code 80 = .ok (.iload_n 3, 1) := by decide +kernel
theorem wd_W_group_81 : decode prog_1_method_4_code 81 = .ok (.invokevirtual 107, 3) := by decide +kernel
theorem wd_W_group_84 : decode prog_1_method_4_code 84 = .ok (.aload_n 0, 1) := by decide +kernel
theorem wd_W_group_85 : decode prog_1_method_4_code 85 = .ok (.getfield 10, 3) := by decide +kernel
theorem wd_W_group_88 : decode prog_1_method_4_code 88 = .ok (.getfield 98, 3) := by decide +kernel
theorem wd_W_group_91 : decode prog_1_method_4_code 91 = .ok (.getfield 102, 3) := by decide +kernel
theorem wd_W_group_94 : decode prog_1_method_4_code 94 = .ok (.ireturn, 1) := by decide +kernel
end
section

theorem wd_W_urgent_0 : decode prog_1_method_5_code 0 = .ok (.aload_n 0, 1) := by decide +kernel
theorem wd_W_urgent_1 : decode prog_1_method_5_code 1 = .ok (.iload_n 1, 1) := by decide +kernel
theorem wd_W_urgent_2 : decode prog_1_method_5_code 2 = .ok (.invokevirtual 110, 3) := by decide +kernel
theorem wd_W_urgent_5 : decode prog_1_method_5_code 5 = .ok (.ifCond .eq 13, 3) := by decide +kernel
theorem wd_W_urgent_8 : decode prog_1_method_5_code 8 = .ok (.new 68, 3) := by decide +kernel
theorem wd_W_urgent_11 : decode prog_1_method_5_code 11 = .ok (.dup, 1) := by decide +kernel
theorem wd_W_urgent_12 : decode prog_1_method_5_code 12 = .ok (.ldc 114, 2) := by decide +kernel
theorem wd_W_urgent_14 : decode prog_1_method_5_code 14 = .ok (.invokespecial 72, 3) := by decide +kernel
theorem wd_W_urgent_17 : decode prog_1_method_5_code 17 = .ok (.athrow, 1) := by decide +kernel
theorem wd_W_urgent_18 : decode prog_1_method_5_code 18 = .ok (.iload_n 2, 1) := by decide +kernel
theorem wd_W_urgent_19 : decode prog_1_method_5_code 19 = .ok (.iconst 0, 1) := by decide +kernel
theorem wd_W_urgent_20 : decode prog_1_method_5_code 20 = .ok (.bipush 8, 2) := by decide +kernel
theorem wd_W_urgent_22 : decode prog_1_method_5_code 22 = .ok (.invokestatic 41, 3) := by decide +kernel
theorem wd_W_urgent_25 : decode prog_1_method_5_code 25 = .ok (.ifCond .eq 13, 3) := by decide +kernel
theorem wd_W_urgent_28 : decode prog_1_method_5_code 28 = .ok (.new 45, 3) := by decide +kernel
theorem wd_W_urgent_31 : decode prog_1_method_5_code 31 = .ok (.dup, 1) := by decide +kernel
theorem wd_W_urgent_32 : decode prog_1_method_5_code 32 = .ok (.ldc 116, 2) := by decide +kernel
theorem wd_W_urgent_34 : decode prog_1_method_5_code 34 = .ok (.invokespecial 49, 3) := by decide +kernel
theorem wd_W_urgent_37 : decode prog_1_method_5_code 37 = .ok (.athrow, 1) := by decide +kernel
theorem wd_W_urgent_38 : decode prog_1_method_5_code 38 = .ok (.aload_n 0, 1) := by decide +kernel
theorem wd_W_urgent_39 : decode prog_1_method_5_code 39 = .ok (.invokevirtual 61, 3) := by decide +kernel
theorem wd_W_urgent_42 : decode prog_1_method_5_code 42 = .ok (.aload_n 0, 1) := by decide +kernel
theorem wd_W_urgent_43 : decode prog_1_method_5_code 43 = .ok (.getfield 10, 3) := by decide +kernel
theorem wd_W_urgent_46 : decode prog_1_method_5_code 46 = .ok (.getfield 118, 3) := by decide +kernel
theorem wd_W_urgent_49 : decode prog_1_method_5_code 49 = .ok (.iload_n 1, 1) := by decide +kernel
theorem wd_W_urgent_50 : decode prog_1_method_5_code 50 = .ok (.iload_n 2, 1) := by decide +kernel
theorem wd_W_urgent_51 : decode prog_1_method_5_code 51 = .ok (.iastore, 1) := by decide +kernel
theorem wd_W_urgent_52 : decode prog_1_method_5_code 52 = .ok (.return_, 1) := by decide +kernel
end
section

theorem wd_W_old_0 : decode prog_1_method_6_code 0 = .ok (.aload_n 0, 1) := by decide +kernel
theorem wd_W_old_1 : decode prog_1_method_6_code 1 = .ok (.iload_n 1, 1) := by decide +kernel
theorem wd_W_old_2 : decode prog_1_method_6_code 2 = .ok (.invokevirtual 110, 3) := by decide +kernel
theorem wd_W_old_5 : decode prog_1_method_6_code 5 = .ok (.ifCond .eq 13, 3) := by decide +kernel
theorem wd_W_old_8 : decode prog_1_method_6_code 8 = .ok (.new 68, 3) := by decide +kernel
theorem wd_W_old_11 : decode prog_1_method_6_code 11 = .ok (.dup, 1) := by decide +kernel
theorem wd_W_old_12 : decode prog_1_method_6_code 12 = .ok (.ldc 114, 2) := by decide +kernel
theorem wd_W_old_14 : decode prog_1_method_6_code 14 = .ok (.invokespecial 72, 3) := by decide +kernel
theorem wd_W_old_17 : decode prog_1_method_6_code 17 = .ok (.athrow, 1) := by decide +kernel
theorem wd_W_old_18 : decode prog_1_method_6_code 18 = .ok (.iload_n 2, 1) := by decide +kernel
theorem wd_W_old_19 : decode prog_1_method_6_code 19 = .ok (.iconst (-1), 1) := by decide +kernel
theorem wd_W_old_20 : decode prog_1_method_6_code 20 = .ok (.bipush 8, 2) := by decide +kernel
theorem wd_W_old_22 : decode prog_1_method_6_code 22 = .ok (.invokestatic 41, 3) := by decide +kernel
theorem wd_W_old_25 : decode prog_1_method_6_code 25 = .ok (.ifCond .eq 13, 3) := by decide +kernel
theorem wd_W_old_28 : decode prog_1_method_6_code 28 = .ok (.new 45, 3) := by decide +kernel
theorem wd_W_old_31 : decode prog_1_method_6_code 31 = .ok (.dup, 1) := by decide +kernel
theorem wd_W_old_32 : decode prog_1_method_6_code 32 = .ok (.ldc 121, 2) := by decide +kernel
theorem wd_W_old_34 : decode prog_1_method_6_code 34 = .ok (.invokespecial 49, 3) := by decide +kernel
theorem wd_W_old_37 : decode prog_1_method_6_code 37 = .ok (.athrow, 1) := by decide +kernel
theorem wd_W_old_38 : decode prog_1_method_6_code 38 = .ok (.aload_n 0, 1) := by decide +kernel
theorem wd_W_old_39 : decode prog_1_method_6_code 39 = .ok (.invokevirtual 61, 3) := by decide +kernel
theorem wd_W_old_42 : decode prog_1_method_6_code 42 = .ok (.aload_n 0, 1) := by decide +kernel
theorem wd_W_old_43 : decode prog_1_method_6_code 43 = .ok (.getfield 10, 3) := by decide +kernel
theorem wd_W_old_46 : decode prog_1_method_6_code 46 = .ok (.getfield 123, 3) := by decide +kernel
theorem wd_W_old_49 : decode prog_1_method_6_code 49 = .ok (.iload_n 1, 1) := by decide +kernel
theorem wd_W_old_50 : decode prog_1_method_6_code 50 = .ok (.iload_n 2, 1) := by decide +kernel
theorem wd_W_old_51 : decode prog_1_method_6_code 51 = .ok (.iastore, 1) := by decide +kernel
theorem wd_W_old_52 : decode prog_1_method_6_code 52 = .ok (.return_, 1) := by decide +kernel
end
section

theorem wd_W_rules_0 : decode prog_1_method_7_code 0 = .ok (.iload_n 1, 1) := by decide +kernel
theorem wd_W_rules_1 : decode prog_1_method_7_code 1 = .ok (.iconst 0, 1) := by decide +kernel
theorem wd_W_rules_2 : decode prog_1_method_7_code 2 = .ok (.bipush 9, 2) := by decide +kernel
theorem wd_W_rules_4 : decode prog_1_method_7_code 4 = .ok (.invokestatic 41, 3) := by decide +kernel
theorem wd_W_rules_7 : decode prog_1_method_7_code 7 = .ok (.ifCond .ne 37, 3) := by decide +kernel
theorem wd_W_rules_10 : decode prog_1_method_7_code 10 = .ok (.iload_n 2, 1) := by decide +kernel
theorem wd_W_rules_11 : decode prog_1_method_7_code 11 = .ok (.iconst 1, 1) := by decide +kernel
theorem wd_W_rules_12 : decode prog_1_method_7_code 12 = .ok (.sipush 1000, 3) := by decide +kernel
theorem wd_W_rules_15 : decode prog_1_method_7_code 15 = .ok (.invokestatic 41, 3) := by decide +kernel
theorem wd_W_rules_18 : decode prog_1_method_7_code 18 = .ok (.ifCond .ne 26, 3) := by decide +kernel
theorem wd_W_rules_21 : decode prog_1_method_7_code 21 = .ok (.iload_n 3, 1) := by decide +kernel
theorem wd_W_rules_22 : decode prog_1_method_7_code 22 = .ok (.iconst 0, 1) := by decide +kernel
theorem wd_W_rules_23 : decode prog_1_method_7_code 23 = .ok (.sipush 10000, 3) := by decide +kernel
theorem wd_W_rules_26 : decode prog_1_method_7_code 26 = .ok (.invokestatic 41, 3) := by decide +kernel
theorem wd_W_rules_29 : decode prog_1_method_7_code 29 = .ok (.ifCond .ne 15, 3) := by decide +kernel
theorem wd_W_rules_32 : decode prog_1_method_7_code 32 = .ok (.iload 4, 2) := by decide +kernel
theorem wd_W_rules_34 : decode prog_1_method_7_code 34 = .ok (.iconst 0, 1) := by decide +kernel
theorem wd_W_rules_35 : decode prog_1_method_7_code 35 = .ok (.sipush 10000, 3) := by decide +kernel
theorem wd_W_rules_38 : decode prog_1_method_7_code 38 = .ok (.invokestatic 41, 3) := by decide +kernel
theorem wd_W_rules_41 : decode prog_1_method_7_code 41 = .ok (.ifCond .eq 13, 3) := by decide +kernel
theorem wd_W_rules_44 : decode prog_1_method_7_code 44 = .ok (.new 45, 3) := by decide +kernel
theorem wd_W_rules_47 : decode prog_1_method_7_code 47 = .ok (.dup, 1) := by decide +kernel
theorem wd_W_rules_48 : decode prog_1_method_7_code 48 = .ok (.ldc 126, 2) := by decide +kernel
theorem wd_W_rules_50 : decode prog_1_method_7_code 50 = .ok (.invokespecial 49, 3) := by decide +kernel
theorem wd_W_rules_53 : decode prog_1_method_7_code 53 = .ok (.athrow, 1) := by decide +kernel
theorem wd_W_rules_54 : decode prog_1_method_7_code 54 = .ok (.aload_n 0, 1) := by decide +kernel
theorem wd_W_rules_55 : decode prog_1_method_7_code 55 = .ok (.invokevirtual 61, 3) := by decide +kernel
theorem wd_W_rules_58 : decode prog_1_method_7_code 58 = .ok (.aload_n 0, 1) := by decide +kernel
theorem wd_W_rules_59 : decode prog_1_method_7_code 59 = .ok (.getfield 10, 3) := by decide +kernel
theorem wd_W_rules_62 : decode prog_1_method_7_code 62 = .ok (.iload_n 1, 1) := by decide +kernel
theorem wd_W_rules_63 : decode prog_1_method_7_code 63 = .ok (.putfield 128, 3) := by decide +kernel
theorem wd_W_rules_66 : decode prog_1_method_7_code 66 = .ok (.aload_n 0, 1) := by decide +kernel
theorem wd_W_rules_67 : decode prog_1_method_7_code 67 = .ok (.getfield 10, 3) := by decide +kernel
theorem wd_W_rules_70 : decode prog_1_method_7_code 70 = .ok (.iload_n 2, 1) := by decide +kernel
theorem wd_W_rules_71 : decode prog_1_method_7_code 71 = .ok (.putfield 131, 3) := by decide +kernel
theorem wd_W_rules_74 : decode prog_1_method_7_code 74 = .ok (.aload_n 0, 1) := by decide +kernel
theorem wd_W_rules_75 : decode prog_1_method_7_code 75 = .ok (.getfield 10, 3) := by decide +kernel
theorem wd_W_rules_78 : decode prog_1_method_7_code 78 = .ok (.iload_n 3, 1) := by decide +kernel
theorem wd_W_rules_79 : decode prog_1_method_7_code 79 = .ok (.putfield 134, 3) := by decide +kernel
theorem wd_W_rules_82 : decode prog_1_method_7_code 82 = .ok (.aload_n 0, 1) := by decide +kernel
theorem wd_W_rules_83 : decode prog_1_method_7_code 83 = .ok (.getfield 10, 3) := by decide +kernel
theorem wd_W_rules_86 : decode prog_1_method_7_code 86 = .ok (.iload 4, 2) := by decide +kernel
theorem wd_W_rules_88 : decode prog_1_method_7_code 88 = .ok (.putfield 137, 3) := by decide +kernel
theorem wd_W_rules_91 : decode prog_1_method_7_code 91 = .ok (.return_, 1) := by decide +kernel
end
section

theorem wd_W_run_0 : decode prog_1_method_8_code 0 = .ok (.iload_n 1, 1) := by decide +kernel
theorem wd_W_run_1 : decode prog_1_method_8_code 1 = .ok (.iconst 0, 1) := by decide +kernel
theorem wd_W_run_2 : decode prog_1_method_8_code 2 = .ok (.ldc 140, 2) := by decide +kernel
theorem wd_W_run_4 : decode prog_1_method_8_code 4 = .ok (.invokestatic 41, 3) := by decide +kernel
theorem wd_W_run_7 : decode prog_1_method_8_code 7 = .ok (.ifCond .eq 13, 3) := by decide +kernel
theorem wd_W_run_10 : decode prog_1_method_8_code 10 = .ok (.new 45, 3) := by decide +kernel
theorem wd_W_run_13 : decode prog_1_method_8_code 13 = .ok (.dup, 1) := by decide +kernel
theorem wd_W_run_14 : decode prog_1_method_8_code 14 = .ok (.ldc 141, 2) := by decide +kernel
theorem wd_W_run_16 : decode prog_1_method_8_code 16 = .ok (.invokespecial 49, 3) := by decide +kernel
theorem wd_W_run_19 : decode prog_1_method_8_code 19 = .ok (.athrow, 1) := by decide +kernel
theorem wd_W_run_20 : decode prog_1_method_8_code 20 = .ok (.aload_n 0, 1) := by decide +kernel
theorem wd_W_run_21 : decode prog_1_method_8_code 21 = .ok (.getfield 33, 3) := by decide +kernel
theorem wd_W_run_24 : decode prog_1_method_8_code 24 = .ok (.iload_n 1, 1) := by decide +kernel
theorem wd_W_run_25 : decode prog_1_method_8_code 25 = .ok (.invokevirtual 143, 3) := by decide +kernel
theorem wd_W_run_28 : decode prog_1_method_8_code 28 = .ok (.aload_n 0, 1) := by decide +kernel
theorem wd_W_run_29 : decode prog_1_method_8_code 29 = .ok (.iconst 1, 1) := by decide +kernel
theorem wd_W_run_30 : decode prog_1_method_8_code 30 = .ok (.putfield 147, 3) := by decide +kernel
theorem wd_W_run_33 : decode prog_1_method_8_code 33 = .ok (.aload_n 0, 1) := by decide +kernel
theorem wd_W_run_34 : decode prog_1_method_8_code 34 = .ok (.aload_n 0, 1) := by decide +kernel
theorem wd_W_run_35 : decode prog_1_method_8_code 35 = .ok (.getfield 33, 3) := by decide +kernel
theorem wd_W_run_38 : decode prog_1_method_8_code 38 = .ok (.getfield 151, 3) := by decide +kernel
theorem wd_W_run_41 : decode prog_1_method_8_code 41 = .ok (.putfield 154, 3) := by decide +kernel
theorem wd_W_run_44 : decode prog_1_method_8_code 44 = .ok (.aload_n 0, 1) := by decide +kernel
theorem wd_W_run_45 : decode prog_1_method_8_code 45 = .ok (.getfield 154, 3) := by decide +kernel
theorem wd_W_run_48 : decode prog_1_method_8_code 48 = .ok (.ifCond .ne 5, 3) := by decide +kernel
theorem wd_W_run_51 : decode prog_1_method_8_code 51 = .ok (.iconst (-1), 1) := by decide +kernel
theorem wd_W_run_52 : decode prog_1_method_8_code 52 = .ok (.ireturn, 1) := by decide +kernel
theorem wd_W_run_53 : decode prog_1_method_8_code 53 = .ok (.aload_n 0, 1) := by decide +kernel
theorem wd_W_run_54 : decode prog_1_method_8_code 54 = .ok (.getfield 25, 3) := by decide +kernel
theorem wd_W_run_57 : decode prog_1_method_8_code 57 = .ok (.aload_n 0, 1) := by decide +kernel
theorem wd_W_run_58 : decode prog_1_method_8_code 58 = .ok (.getfield 33, 3) := by decide +kernel
theorem wd_W_run_61 : decode prog_1_method_8_code 61 = .ok (.getfield 157, 3) := by decide +kernel
theorem wd_W_run_64 : decode prog_1_method_8_code 64 = .ok (.invokevirtual 160, 3) := by decide +kernel
theorem wd_W_run_67 : decode prog_1_method_8_code 67 = .ok (.pop, 1) := by decide +kernel
theorem wd_W_run_68 : decode prog_1_method_8_code 68 = .ok (.aload_n 0, 1) := by decide +kernel
theorem wd_W_run_69 : decode prog_1_method_8_code 69 = .ok (.getfield 10, 3) := by decide +kernel
theorem wd_W_run_72 : decode prog_1_method_8_code 72 = .ok (.getfield 52, 3) := by decide +kernel
theorem wd_W_run_75 : decode prog_1_method_8_code 75 = .ok (.ireturn, 1) := by decide +kernel
end
section

theorem wd_W_proved_0 : decode prog_1_method_9_code 0 = .ok (.aload_n 0, 1) := by decide +kernel
theorem wd_W_proved_1 : decode prog_1_method_9_code 1 = .ok (.getfield 147, 3) := by decide +kernel
theorem wd_W_proved_4 : decode prog_1_method_9_code 4 = .ok (.ifCond .ne 13, 3) := by decide +kernel
theorem wd_W_proved_7 : decode prog_1_method_9_code 7 = .ok (.new 164, 3) := by decide +kernel
theorem wd_W_proved_10 : decode prog_1_method_9_code 10 = .ok (.dup, 1) := by decide +kernel
theorem wd_W_proved_11 : decode prog_1_method_9_code 11 = .ok (.ldc 166, 2) := by decide +kernel
theorem wd_W_proved_13 : decode prog_1_method_9_code 13 = .ok (.invokespecial 168, 3) := by decide +kernel
theorem wd_W_proved_16 : decode prog_1_method_9_code 16 = .ok (.athrow, 1) := by decide +kernel
theorem wd_W_proved_17 : decode prog_1_method_9_code 17 = .ok (.aload_n 0, 1) := by decide +kernel
theorem wd_W_proved_18 : decode prog_1_method_9_code 18 = .ok (.getfield 33, 3) := by decide +kernel
theorem wd_W_proved_21 : decode prog_1_method_9_code 21 = .ok (.getfield 169, 3) := by decide +kernel
theorem wd_W_proved_24 : decode prog_1_method_9_code 24 = .ok (.ifCond .ne 7, 3) := by decide +kernel
theorem wd_W_proved_27 : decode prog_1_method_9_code 27 = .ok (.iconst 1, 1) := by decide +kernel
theorem wd_W_proved_28 : decode prog_1_method_9_code 28 = .ok (.goto 4, 3) := by decide +kernel
theorem wd_W_proved_31 : decode prog_1_method_9_code 31 = .ok (.iconst 0, 1) := by decide +kernel
theorem wd_W_proved_32 : decode prog_1_method_9_code 32 = .ok (.ireturn, 1) := by decide +kernel
end
section

theorem wd_W_order_0 : decode prog_1_method_10_code 0 = .ok (.aload_n 0, 1) := by decide +kernel
theorem wd_W_order_1 : decode prog_1_method_10_code 1 = .ok (.invokevirtual 172, 3) := by decide +kernel
theorem wd_W_order_4 : decode prog_1_method_10_code 4 = .ok (.aload_n 0, 1) := by decide +kernel
theorem wd_W_order_5 : decode prog_1_method_10_code 5 = .ok (.iload_n 1, 1) := by decide +kernel
theorem wd_W_order_6 : decode prog_1_method_10_code 6 = .ok (.invokevirtual 175, 3) := by decide +kernel
theorem wd_W_order_9 : decode prog_1_method_10_code 9 = .ok (.aload_n 0, 1) := by decide +kernel
theorem wd_W_order_10 : decode prog_1_method_10_code 10 = .ok (.getfield 25, 3) := by decide +kernel
theorem wd_W_order_13 : decode prog_1_method_10_code 13 = .ok (.getfield 178, 3) := by decide +kernel
theorem wd_W_order_16 : decode prog_1_method_10_code 16 = .ok (.iload_n 1, 1) := by decide +kernel
theorem wd_W_order_17 : decode prog_1_method_10_code 17 = .ok (.iaload, 1) := by decide +kernel
theorem wd_W_order_18 : decode prog_1_method_10_code 18 = .ok (.ireturn, 1) := by decide +kernel
end
section

theorem wd_W_told_0 : decode prog_1_method_11_code 0 = .ok (.iload_n 1, 1) := by decide +kernel
theorem wd_W_told_1 : decode prog_1_method_11_code 1 = .ok (.iconst 0, 1) := by decide +kernel
theorem wd_W_told_2 : decode prog_1_method_11_code 2 = .ok (.iconst 2, 1) := by decide +kernel
theorem wd_W_told_3 : decode prog_1_method_11_code 3 = .ok (.invokestatic 41, 3) := by decide +kernel
theorem wd_W_told_6 : decode prog_1_method_11_code 6 = .ok (.ifCond .eq 13, 3) := by decide +kernel
theorem wd_W_told_9 : decode prog_1_method_11_code 9 = .ok (.new 68, 3) := by decide +kernel
theorem wd_W_told_12 : decode prog_1_method_11_code 12 = .ok (.dup, 1) := by decide +kernel
theorem wd_W_told_13 : decode prog_1_method_11_code 13 = .ok (.ldc 181, 2) := by decide +kernel
theorem wd_W_told_15 : decode prog_1_method_11_code 15 = .ok (.invokespecial 72, 3) := by decide +kernel
theorem wd_W_told_18 : decode prog_1_method_11_code 18 = .ok (.athrow, 1) := by decide +kernel
theorem wd_W_told_19 : decode prog_1_method_11_code 19 = .ok (.aload_n 0, 1) := by decide +kernel
theorem wd_W_told_20 : decode prog_1_method_11_code 20 = .ok (.invokevirtual 172, 3) := by decide +kernel
theorem wd_W_told_23 : decode prog_1_method_11_code 23 = .ok (.iload_n 1, 1) := by decide +kernel
theorem wd_W_told_24 : decode prog_1_method_11_code 24 = .ok (.ifCond .ne 11, 3) := by decide +kernel
theorem wd_W_told_27 : decode prog_1_method_11_code 27 = .ok (.aload_n 0, 1) := by decide +kernel
theorem wd_W_told_28 : decode prog_1_method_11_code 28 = .ok (.getfield 25, 3) := by decide +kernel
theorem wd_W_told_31 : decode prog_1_method_11_code 31 = .ok (.invokevirtual 183, 3) := by decide +kernel
theorem wd_W_told_34 : decode prog_1_method_11_code 34 = .ok (.ireturn, 1) := by decide +kernel
theorem wd_W_told_35 : decode prog_1_method_11_code 35 = .ok (.iload_n 1, 1) := by decide +kernel
theorem wd_W_told_36 : decode prog_1_method_11_code 36 = .ok (.iconst 1, 1) := by decide +kernel
theorem wd_W_told_37 : decode prog_1_method_11_code 37 = .ok (.if_icmp .ne 13, 3) := by decide +kernel
theorem wd_W_told_40 : decode prog_1_method_11_code 40 = .ok (.aload_n 0, 1) := by decide +kernel
theorem wd_W_told_41 : decode prog_1_method_11_code 41 = .ok (.getfield 25, 3) := by decide +kernel
theorem wd_W_told_44 : decode prog_1_method_11_code 44 = .ok (.invokevirtual 187, 3) := by decide +kernel
theorem wd_W_told_47 : decode prog_1_method_11_code 47 = .ok (.goto 10, 3) := by decide +kernel
theorem wd_W_told_50 : decode prog_1_method_11_code 50 = .ok (.aload_n 0, 1) := by decide +kernel
theorem wd_W_told_51 : decode prog_1_method_11_code 51 = .ok (.getfield 25, 3) := by decide +kernel
theorem wd_W_told_54 : decode prog_1_method_11_code 54 = .ok (.invokevirtual 190, 3) := by decide +kernel
theorem wd_W_told_57 : decode prog_1_method_11_code 57 = .ok (.ireturn, 1) := by decide +kernel
end
section

theorem wd_W_change_0 : decode prog_1_method_12_code 0 = .ok (.aload_n 0, 1) := by decide +kernel
theorem wd_W_change_1 : decode prog_1_method_12_code 1 = .ok (.invokevirtual 172, 3) := by decide +kernel
theorem wd_W_change_4 : decode prog_1_method_12_code 4 = .ok (.aload_n 0, 1) := by decide +kernel
theorem wd_W_change_5 : decode prog_1_method_12_code 5 = .ok (.iload_n 1, 1) := by decide +kernel
theorem wd_W_change_6 : decode prog_1_method_12_code 6 = .ok (.invokevirtual 175, 3) := by decide +kernel
theorem wd_W_change_9 : decode prog_1_method_12_code 9 = .ok (.aload_n 0, 1) := by decide +kernel
theorem wd_W_change_10 : decode prog_1_method_12_code 10 = .ok (.getfield 25, 3) := by decide +kernel
theorem wd_W_change_13 : decode prog_1_method_12_code 13 = .ok (.getfield 193, 3) := by decide +kernel
theorem wd_W_change_16 : decode prog_1_method_12_code 16 = .ok (.iload_n 1, 1) := by decide +kernel
theorem wd_W_change_17 : decode prog_1_method_12_code 17 = .ok (.baload, 1) := by decide +kernel
theorem wd_W_change_18 : decode prog_1_method_12_code 18 = .ok (.ireturn, 1) := by decide +kernel
end
section

theorem wd_W_jump_0 : decode prog_1_method_13_code 0 = .ok (.aload_n 0, 1) := by decide +kernel
theorem wd_W_jump_1 : decode prog_1_method_13_code 1 = .ok (.iload_n 1, 1) := by decide +kernel
theorem wd_W_jump_2 : decode prog_1_method_13_code 2 = .ok (.invokevirtual 110, 3) := by decide +kernel
theorem wd_W_jump_5 : decode prog_1_method_13_code 5 = .ok (.ifCond .ne 16, 3) := by decide +kernel
theorem wd_W_jump_8 : decode prog_1_method_13_code 8 = .ok (.aload_n 0, 1) := by decide +kernel
theorem wd_W_jump_9 : decode prog_1_method_13_code 9 = .ok (.iload_n 2, 1) := by decide +kernel
theorem wd_W_jump_10 : decode prog_1_method_13_code 10 = .ok (.invokevirtual 110, 3) := by decide +kernel
theorem wd_W_jump_13 : decode prog_1_method_13_code 13 = .ok (.ifCond .ne 8, 3) := by decide +kernel
theorem wd_W_jump_16 : decode prog_1_method_13_code 16 = .ok (.iload_n 1, 1) := by decide +kernel
theorem wd_W_jump_17 : decode prog_1_method_13_code 17 = .ok (.iload_n 2, 1) := by decide +kernel
theorem wd_W_jump_18 : decode prog_1_method_13_code 18 = .ok (.if_icmp .ne 13, 3) := by decide +kernel
theorem wd_W_jump_21 : decode prog_1_method_13_code 21 = .ok (.new 68, 3) := by decide +kernel
theorem wd_W_jump_24 : decode prog_1_method_13_code 24 = .ok (.dup, 1) := by decide +kernel
theorem wd_W_jump_25 : decode prog_1_method_13_code 25 = .ok (.ldc 197, 2) := by decide +kernel
theorem wd_W_jump_27 : decode prog_1_method_13_code 27 = .ok (.invokespecial 72, 3) := by decide +kernel
theorem wd_W_jump_30 : decode prog_1_method_13_code 30 = .ok (.athrow, 1) := by decide +kernel
theorem wd_W_jump_31 : decode prog_1_method_13_code 31 = .ok (.aload_n 0, 1) := by decide +kernel
theorem wd_W_jump_32 : decode prog_1_method_13_code 32 = .ok (.getfield 10, 3) := by decide +kernel
theorem wd_W_jump_35 : decode prog_1_method_13_code 35 = .ok (.getfield 199, 3) := by decide +kernel
theorem wd_W_jump_38 : decode prog_1_method_13_code 38 = .ok (.iload_n 1, 1) := by decide +kernel
theorem wd_W_jump_39 : decode prog_1_method_13_code 39 = .ok (.aaload, 1) := by decide +kernel
theorem wd_W_jump_40 : decode prog_1_method_13_code 40 = .ok (.iload_n 2, 1) := by decide +kernel
theorem wd_W_jump_41 : decode prog_1_method_13_code 41 = .ok (.iaload, 1) := by decide +kernel
theorem wd_W_jump_42 : decode prog_1_method_13_code 42 = .ok (.ireturn, 1) := by decide +kernel
end
section

theorem wd_W_bound_0 : decode prog_1_method_14_code 0 = .ok (.iconst 0, 1) := by decide +kernel
theorem wd_W_bound_1 : decode prog_1_method_14_code 1 = .ok (.istore_n 1, 1) := by decide +kernel
theorem wd_W_bound_2 : decode prog_1_method_14_code 2 = .ok (.iconst 0, 1) := by decide +kernel
theorem wd_W_bound_3 : decode prog_1_method_14_code 3 = .ok (.istore_n 2, 1) := by decide +kernel
theorem wd_W_bound_4 : decode prog_1_method_14_code 4 = .ok (.iconst 0, 1) := by decide +kernel
theorem wd_W_bound_5 : decode prog_1_method_14_code 5 = .ok (.istore_n 3, 1) := by decide +kernel
theorem wd_W_bound_6 : decode prog_1_method_14_code 6 = .ok (.iload_n 3, 1) := by decide +kernel
theorem wd_W_bound_7 : decode prog_1_method_14_code 7 = .ok (.aload_n 0, 1) := by decide +kernel
theorem wd_W_bound_8 : decode prog_1_method_14_code 8 = .ok (.getfield 10, 3) := by decide +kernel
theorem wd_W_bound_11 : decode prog_1_method_14_code 11 = .ok (.getfield 52, 3) := by decide +kernel
theorem wd_W_bound_14 : decode prog_1_method_14_code 14 = .ok (.if_icmp .ge 31, 3) := by decide +kernel
theorem wd_W_bound_17 : decode prog_1_method_14_code 17 = .ok (.aload_n 0, 1) := by decide +kernel
theorem wd_W_bound_18 : decode prog_1_method_14_code 18 = .ok (.getfield 10, 3) := by decide +kernel
theorem wd_W_bound_21 : decode prog_1_method_14_code 21 = .ok (.iload_n 3, 1) := by decide +kernel
theorem wd_W_bound_22 : decode prog_1_method_14_code 22 = .ok (.invokevirtual 203, 3) := by decide +kernel
theorem wd_W_bound_25 : decode prog_1_method_14_code 25 = .ok (.istore 4, 2) := by decide +kernel
theorem wd_W_bound_27 : decode prog_1_method_14_code 27 = .ok (.iload_n 1, 1) := by decide +kernel
theorem wd_W_bound_28 : decode prog_1_method_14_code 28 = .ok (.iload 4, 2) := by decide +kernel
theorem wd_W_bound_30 : decode prog_1_method_14_code 30 = .ok (.iadd, 1) := by decide +kernel
theorem wd_W_bound_31 : decode prog_1_method_14_code 31 = .ok (.istore_n 1, 1) := by decide +kernel
theorem wd_W_bound_32 : decode prog_1_method_14_code 32 = .ok (.iload_n 2, 1) := by decide +kernel
theorem wd_W_bound_33 : decode prog_1_method_14_code 33 = .ok (.iload 4, 2) := by decide +kernel
theorem wd_W_bound_35 : decode prog_1_method_14_code 35 = .ok (.invokestatic 207, 3) := by decide +kernel
theorem wd_W_bound_38 : decode prog_1_method_14_code 38 = .ok (.istore_n 2, 1) := by decide +kernel
theorem wd_W_bound_39 : decode prog_1_method_14_code 39 = .ok (.iinc 3 1, 3) := by decide +kernel
theorem wd_W_bound_42 : decode prog_1_method_14_code 42 = .ok (.goto (-36), 3) := by decide +kernel
theorem wd_W_bound_45 : decode prog_1_method_14_code 45 = .ok (.iload_n 1, 1) := by decide +kernel
theorem wd_W_bound_46 : decode prog_1_method_14_code 46 = .ok (.iload_n 2, 1) := by decide +kernel
theorem wd_W_bound_47 : decode prog_1_method_14_code 47 = .ok (.isub, 1) := by decide +kernel
theorem wd_W_bound_48 : decode prog_1_method_14_code 48 = .ok (.ireturn, 1) := by decide +kernel
end
section

theorem wd_W_tell_0 : decode prog_1_method_15_code 0 = .ok (.aload_n 0, 1) := by decide +kernel
theorem wd_W_tell_1 : decode prog_1_method_15_code 1 = .ok (.lload_n 1, 1) := by decide +kernel
theorem wd_W_tell_2 : decode prog_1_method_15_code 2 = .ok (.invokevirtual 213, 3) := by decide +kernel
theorem wd_W_tell_5 : decode prog_1_method_15_code 5 = .ok (.ifCond .ne 13, 3) := by decide +kernel
theorem wd_W_tell_8 : decode prog_1_method_15_code 8 = .ok (.new 68, 3) := by decide +kernel
theorem wd_W_tell_11 : decode prog_1_method_15_code 11 = .ok (.dup, 1) := by decide +kernel
theorem wd_W_tell_12 : decode prog_1_method_15_code 12 = .ok (.ldc 217, 2) := by decide +kernel
theorem wd_W_tell_14 : decode prog_1_method_15_code 14 = .ok (.invokespecial 72, 3) := by decide +kernel
theorem wd_W_tell_17 : decode prog_1_method_15_code 17 = .ok (.athrow, 1) := by decide +kernel
theorem wd_W_tell_18 : decode prog_1_method_15_code 18 = .ok (.aload_n 0, 1) := by decide +kernel
theorem wd_W_tell_19 : decode prog_1_method_15_code 19 = .ok (.getfield 21, 3) := by decide +kernel
theorem wd_W_tell_22 : decode prog_1_method_15_code 22 = .ok (.aload_n 0, 1) := by decide +kernel
theorem wd_W_tell_23 : decode prog_1_method_15_code 23 = .ok (.getfield 37, 3) := by decide +kernel
theorem wd_W_tell_26 : decode prog_1_method_15_code 26 = .ok (.invokevirtual 160, 3) := by decide +kernel
theorem wd_W_tell_29 : decode prog_1_method_15_code 29 = .ok (.ifCond .ne 13, 3) := by decide +kernel
theorem wd_W_tell_32 : decode prog_1_method_15_code 32 = .ok (.new 56, 3) := by decide +kernel
theorem wd_W_tell_35 : decode prog_1_method_15_code 35 = .ok (.dup, 1) := by decide +kernel
theorem wd_W_tell_36 : decode prog_1_method_15_code 36 = .ok (.ldc 219, 2) := by decide +kernel
theorem wd_W_tell_38 : decode prog_1_method_15_code 38 = .ok (.invokespecial 60, 3) := by decide +kernel
theorem wd_W_tell_41 : decode prog_1_method_15_code 41 = .ok (.athrow, 1) := by decide +kernel
theorem wd_W_tell_42 : decode prog_1_method_15_code 42 = .ok (.aload_n 0, 1) := by decide +kernel
theorem wd_W_tell_43 : decode prog_1_method_15_code 43 = .ok (.getfield 25, 3) := by decide +kernel
theorem wd_W_tell_46 : decode prog_1_method_15_code 46 = .ok (.aload_n 0, 1) := by decide +kernel
theorem wd_W_tell_47 : decode prog_1_method_15_code 47 = .ok (.getfield 37, 3) := by decide +kernel
theorem wd_W_tell_50 : decode prog_1_method_15_code 50 = .ok (.invokevirtual 160, 3) := by decide +kernel
theorem wd_W_tell_53 : decode prog_1_method_15_code 53 = .ok (.pop, 1) := by decide +kernel
theorem wd_W_tell_54 : decode prog_1_method_15_code 54 = .ok (.aload_n 0, 1) := by decide +kernel
theorem wd_W_tell_55 : decode prog_1_method_15_code 55 = .ok (.iconst 1, 1) := by decide +kernel
theorem wd_W_tell_56 : decode prog_1_method_15_code 56 = .ok (.putfield 154, 3) := by decide +kernel
theorem wd_W_tell_59 : decode prog_1_method_15_code 59 = .ok (.return_, 1) := by decide +kernel
end
section

theorem wd_W_improve_0 : decode prog_1_method_16_code 0 = .ok (.aload_n 0, 1) := by decide +kernel
theorem wd_W_improve_1 : decode prog_1_method_16_code 1 = .ok (.invokevirtual 172, 3) := by decide +kernel
theorem wd_W_improve_4 : decode prog_1_method_16_code 4 = .ok (.iload_n 1, 1) := by decide +kernel
theorem wd_W_improve_5 : decode prog_1_method_16_code 5 = .ok (.iconst 0, 1) := by decide +kernel
theorem wd_W_improve_6 : decode prog_1_method_16_code 6 = .ok (.bipush 100, 2) := by decide +kernel
theorem wd_W_improve_8 : decode prog_1_method_16_code 8 = .ok (.invokestatic 41, 3) := by decide +kernel
theorem wd_W_improve_11 : decode prog_1_method_16_code 11 = .ok (.ifCond .eq 13, 3) := by decide +kernel
theorem wd_W_improve_14 : decode prog_1_method_16_code 14 = .ok (.new 45, 3) := by decide +kernel
theorem wd_W_improve_17 : decode prog_1_method_16_code 17 = .ok (.dup, 1) := by decide +kernel
theorem wd_W_improve_18 : decode prog_1_method_16_code 18 = .ok (.ldc 221, 2) := by decide +kernel
theorem wd_W_improve_20 : decode prog_1_method_16_code 20 = .ok (.invokespecial 49, 3) := by decide +kernel
theorem wd_W_improve_23 : decode prog_1_method_16_code 23 = .ok (.athrow, 1) := by decide +kernel
theorem wd_W_improve_24 : decode prog_1_method_16_code 24 = .ok (.iconst 0, 1) := by decide +kernel
theorem wd_W_improve_25 : decode prog_1_method_16_code 25 = .ok (.istore_n 2, 1) := by decide +kernel
theorem wd_W_improve_26 : decode prog_1_method_16_code 26 = .ok (.iload_n 2, 1) := by decide +kernel
theorem wd_W_improve_27 : decode prog_1_method_16_code 27 = .ok (.iload_n 1, 1) := by decide +kernel
theorem wd_W_improve_28 : decode prog_1_method_16_code 28 = .ok (.if_icmp .ge 16, 3) := by decide +kernel
theorem wd_W_improve_31 : decode prog_1_method_16_code 31 = .ok (.aload_n 0, 1) := by decide +kernel
theorem wd_W_improve_32 : decode prog_1_method_16_code 32 = .ok (.invokevirtual 223, 3) := by decide +kernel
theorem wd_W_improve_35 : decode prog_1_method_16_code 35 = .ok (.ifCond .eq 9, 3) := by decide +kernel
theorem wd_W_improve_38 : decode prog_1_method_16_code 38 = .ok (.iinc 2 1, 3) := by decide +kernel
theorem wd_W_improve_41 : decode prog_1_method_16_code 41 = .ok (.goto (-15), 3) := by decide +kernel
theorem wd_W_improve_44 : decode prog_1_method_16_code 44 = .ok (.iload_n 2, 1) := by decide +kernel
theorem wd_W_improve_45 : decode prog_1_method_16_code 45 = .ok (.ireturn, 1) := by decide +kernel
end
section

theorem wd_M_thrown_0 : decode prog_8_method_2_code 0 = .ok (.aload_n 0, 1) := by decide +kernel
theorem wd_M_thrown_1 : decode prog_8_method_2_code 1 = .ok (.getfield 69, 3) := by decide +kernel
theorem wd_M_thrown_4 : decode prog_8_method_2_code 4 = .ok (.ireturn, 1) := by decide +kernel
end
section

theorem wd_M_in_0 : decode prog_8_method_3_code 0 = .ok (.iload_n 0, 1) := by decide +kernel
theorem wd_M_in_1 : decode prog_8_method_3_code 1 = .ok (.iload_n 1, 1) := by decide +kernel
theorem wd_M_in_2 : decode prog_8_method_3_code 2 = .ok (.if_icmp .lt 12, 3) := by decide +kernel
theorem wd_M_in_5 : decode prog_8_method_3_code 5 = .ok (.iload_n 0, 1) := by decide +kernel
theorem wd_M_in_6 : decode prog_8_method_3_code 6 = .ok (.iload_n 2, 1) := by decide +kernel
theorem wd_M_in_7 : decode prog_8_method_3_code 7 = .ok (.if_icmp .gt 7, 3) := by decide +kernel
theorem wd_M_in_10 : decode prog_8_method_3_code 10 = .ok (.iconst 1, 1) := by decide +kernel
theorem wd_M_in_11 : decode prog_8_method_3_code 11 = .ok (.goto 4, 3) := by decide +kernel
theorem wd_M_in_14 : decode prog_8_method_3_code 14 = .ok (.iconst 0, 1) := by decide +kernel
theorem wd_M_in_15 : decode prog_8_method_3_code 15 = .ok (.ireturn, 1) := by decide +kernel
end
section

theorem wd_M_goes_0 : decode prog_8_method_4_code 0 = .ok (.aload_n 0, 1) := by decide +kernel
theorem wd_M_goes_1 : decode prog_8_method_4_code 1 = .ok (.iload_n 1, 1) := by decide +kernel
theorem wd_M_goes_2 : decode prog_8_method_4_code 2 = .ok (.ifCond .ne 7, 3) := by decide +kernel
theorem wd_M_goes_5 : decode prog_8_method_4_code 5 = .ok (.iconst 1, 1) := by decide +kernel
theorem wd_M_goes_6 : decode prog_8_method_4_code 6 = .ok (.goto 20, 3) := by decide +kernel
theorem wd_M_goes_9 : decode prog_8_method_4_code 9 = .ok (.iload_n 2, 1) := by decide +kernel
theorem wd_M_goes_10 : decode prog_8_method_4_code 10 = .ok (.ifCond .ne 7, 3) := by decide +kernel
theorem wd_M_goes_13 : decode prog_8_method_4_code 13 = .ok (.iconst 2, 1) := by decide +kernel
theorem wd_M_goes_14 : decode prog_8_method_4_code 14 = .ok (.goto 12, 3) := by decide +kernel
theorem wd_M_goes_17 : decode prog_8_method_4_code 17 = .ok (.iload_n 3, 1) := by decide +kernel
theorem wd_M_goes_18 : decode prog_8_method_4_code 18 = .ok (.ifCond .ne 7, 3) := by decide +kernel
theorem wd_M_goes_21 : decode prog_8_method_4_code 21 = .ok (.iconst 3, 1) := by decide +kernel
theorem wd_M_goes_22 : decode prog_8_method_4_code 22 = .ok (.goto 4, 3) := by decide +kernel
theorem wd_M_goes_25 : decode prog_8_method_4_code 25 = .ok (.iconst 0, 1) := by decide +kernel
theorem wd_M_goes_26 : decode prog_8_method_4_code 26 = .ok (.putfield 69, 3) := by decide +kernel
theorem wd_M_goes_29 : decode prog_8_method_4_code 29 = .ok (.aload_n 0, 1) := by decide +kernel
theorem wd_M_goes_30 : decode prog_8_method_4_code 30 = .ok (.getfield 69, 3) := by decide +kernel
theorem wd_M_goes_33 : decode prog_8_method_4_code 33 = .ok (.ifCond .ne 7, 3) := by decide +kernel
theorem wd_M_goes_36 : decode prog_8_method_4_code 36 = .ok (.iconst 1, 1) := by decide +kernel
theorem wd_M_goes_37 : decode prog_8_method_4_code 37 = .ok (.goto 4, 3) := by decide +kernel
theorem wd_M_goes_40 : decode prog_8_method_4_code 40 = .ok (.iconst 0, 1) := by decide +kernel
theorem wd_M_goes_41 : decode prog_8_method_4_code 41 = .ok (.ireturn, 1) := by decide +kernel
end
section

theorem wd_M_gone_0 : decode prog_8_method_5_code 0 = .ok (.aload_n 0, 1) := by decide +kernel
theorem wd_M_gone_1 : decode prog_8_method_5_code 1 = .ok (.iconst 0, 1) := by decide +kernel
theorem wd_M_gone_2 : decode prog_8_method_5_code 2 = .ok (.putfield 72, 3) := by decide +kernel
theorem wd_M_gone_5 : decode prog_8_method_5_code 5 = .ok (.aload_n 0, 1) := by decide +kernel
theorem wd_M_gone_6 : decode prog_8_method_5_code 6 = .ok (.iconst 0, 1) := by decide +kernel
theorem wd_M_gone_7 : decode prog_8_method_5_code 7 = .ok (.putfield 76, 3) := by decide +kernel
theorem wd_M_gone_10 : decode prog_8_method_5_code 10 = .ok (.return_, 1) := by decide +kernel
end
section

theorem wd_M_isCoil_0 : decode prog_8_method_6_code 0 = .ok (.iload_n 1, 1) := by decide +kernel
theorem wd_M_isCoil_1 : decode prog_8_method_6_code 1 = .ok (.iconst 0, 1) := by decide +kernel
theorem wd_M_isCoil_2 : decode prog_8_method_6_code 2 = .ok (.aload_n 0, 1) := by decide +kernel
theorem wd_M_isCoil_3 : decode prog_8_method_6_code 3 = .ok (.getfield 79, 3) := by decide +kernel
theorem wd_M_isCoil_6 : decode prog_8_method_6_code 6 = .ok (.iconst 1, 1) := by decide +kernel
theorem wd_M_isCoil_7 : decode prog_8_method_6_code 7 = .ok (.isub, 1) := by decide +kernel
theorem wd_M_isCoil_8 : decode prog_8_method_6_code 8 = .ok (.invokestatic 82, 3) := by decide +kernel
theorem wd_M_isCoil_11 : decode prog_8_method_6_code 11 = .ok (.ireturn, 1) := by decide +kernel
end
section

theorem wd_M_coil_0 : decode prog_8_method_7_code 0 = .ok (.aload_n 0, 1) := by decide +kernel
theorem wd_M_coil_1 : decode prog_8_method_7_code 1 = .ok (.iload_n 1, 1) := by decide +kernel
theorem wd_M_coil_2 : decode prog_8_method_7_code 2 = .ok (.iconst 1, 1) := by decide +kernel
theorem wd_M_coil_3 : decode prog_8_method_7_code 3 = .ok (.sipush 2000, 3) := by decide +kernel
theorem wd_M_coil_6 : decode prog_8_method_7_code 6 = .ok (.invokestatic 82, 3) := by decide +kernel
theorem wd_M_coil_9 : decode prog_8_method_7_code 9 = .ok (.ifCond .eq 39, 3) := by decide +kernel
theorem wd_M_coil_12 : decode prog_8_method_7_code 12 = .ok (.iload_n 2, 1) := by decide +kernel
theorem wd_M_coil_13 : decode prog_8_method_7_code 13 = .ok (.iconst 1, 1) := by decide +kernel
theorem wd_M_coil_14 : decode prog_8_method_7_code 14 = .ok (.sipush 1000, 3) := by decide +kernel
theorem wd_M_coil_17 : decode prog_8_method_7_code 17 = .ok (.invokestatic 82, 3) := by decide +kernel
theorem wd_M_coil_20 : decode prog_8_method_7_code 20 = .ok (.ifCond .eq 28, 3) := by decide +kernel
theorem wd_M_coil_23 : decode prog_8_method_7_code 23 = .ok (.iload_n 3, 1) := by decide +kernel
theorem wd_M_coil_24 : decode prog_8_method_7_code 24 = .ok (.iconst 0, 1) := by decide +kernel
theorem wd_M_coil_25 : decode prog_8_method_7_code 25 = .ok (.bipush 9, 2) := by decide +kernel
theorem wd_M_coil_27 : decode prog_8_method_7_code 27 = .ok (.invokestatic 82, 3) := by decide +kernel
theorem wd_M_coil_30 : decode prog_8_method_7_code 30 = .ok (.ifCond .eq 18, 3) := by decide +kernel
theorem wd_M_coil_33 : decode prog_8_method_7_code 33 = .ok (.iload 4, 2) := by decide +kernel
theorem wd_M_coil_35 : decode prog_8_method_7_code 35 = .ok (.iconst 1, 1) := by decide +kernel
theorem wd_M_coil_36 : decode prog_8_method_7_code 36 = .ok (.bipush 100, 2) := by decide +kernel
theorem wd_M_coil_38 : decode prog_8_method_7_code 38 = .ok (.invokestatic 82, 3) := by decide +kernel
theorem wd_M_coil_41 : decode prog_8_method_7_code 41 = .ok (.ifCond .eq 7, 3) := by decide +kernel
theorem wd_M_coil_44 : decode prog_8_method_7_code 44 = .ok (.iconst 1, 1) := by decide +kernel
theorem wd_M_coil_45 : decode prog_8_method_7_code 45 = .ok (.goto 4, 3) := by decide +kernel
theorem wd_M_coil_48 : decode prog_8_method_7_code 48 = .ok (.iconst 0, 1) := by decide +kernel
theorem wd_M_coil_49 : decode prog_8_method_7_code 49 = .ok (.aload_n 0, 1) := by decide +kernel
theorem wd_M_coil_50 : decode prog_8_method_7_code 50 = .ok (.getfield 79, 3) := by decide +kernel
theorem wd_M_coil_53 : decode prog_8_method_7_code 53 = .ok (.bipush 9, 2) := by decide +kernel
theorem wd_M_coil_55 : decode prog_8_method_7_code 55 = .ok (.if_icmp .ge 7, 3) := by decide +kernel
theorem wd_M_coil_58 : decode prog_8_method_7_code 58 = .ok (.iconst 1, 1) := by decide +kernel
theorem wd_M_coil_59 : decode prog_8_method_7_code 59 = .ok (.goto 4, 3) := by decide +kernel
theorem wd_M_coil_62 : decode prog_8_method_7_code 62 = .ok (.iconst 0, 1) := by decide +kernel
theorem wd_M_coil_63 : decode prog_8_method_7_code 63 = .ok (.iconst 1, 1) := by decide +kernel
theorem wd_M_coil_64 : decode prog_8_method_7_code 64 = .ok (.invokevirtual 86, 3) := by decide +kernel
theorem wd_M_coil_67 : decode prog_8_method_7_code 67 = .ok (.ifCond .ne 5, 3) := by decide +kernel
theorem wd_M_coil_70 : decode prog_8_method_7_code 70 = .ok (.iconst 0, 1) := by decide +kernel
theorem wd_M_coil_71 : decode prog_8_method_7_code 71 = .ok (.ireturn, 1) := by decide +kernel
theorem wd_M_coil_72 : decode prog_8_method_7_code 72 = .ok (.aload_n 0, 1) := by decide +kernel
theorem wd_M_coil_73 : decode prog_8_method_7_code 73 = .ok (.getfield 7, 3) := by decide +kernel
theorem wd_M_coil_76 : decode prog_8_method_7_code 76 = .ok (.aload_n 0, 1) := by decide +kernel
theorem wd_M_coil_77 : decode prog_8_method_7_code 77 = .ok (.getfield 79, 3) := by decide +kernel
theorem wd_M_coil_80 : decode prog_8_method_7_code 80 = .ok (.iload_n 1, 1) := by decide +kernel
theorem wd_M_coil_81 : decode prog_8_method_7_code 81 = .ok (.iastore, 1) := by decide +kernel
theorem wd_M_coil_82 : decode prog_8_method_7_code 82 = .ok (.aload_n 0, 1) := by decide +kernel
theorem wd_M_coil_83 : decode prog_8_method_7_code 83 = .ok (.getfield 13, 3) := by decide +kernel
theorem wd_M_coil_86 : decode prog_8_method_7_code 86 = .ok (.aload_n 0, 1) := by decide +kernel
theorem wd_M_coil_87 : decode prog_8_method_7_code 87 = .ok (.getfield 79, 3) := by decide +kernel
theorem wd_M_coil_90 : decode prog_8_method_7_code 90 = .ok (.iload_n 2, 1) := by decide +kernel
theorem wd_M_coil_91 : decode prog_8_method_7_code 91 = .ok (.iastore, 1) := by decide +kernel
theorem wd_M_coil_92 : decode prog_8_method_7_code 92 = .ok (.aload_n 0, 1) := by decide +kernel
theorem wd_M_coil_93 : decode prog_8_method_7_code 93 = .ok (.getfield 16, 3) := by decide +kernel
theorem wd_M_coil_96 : decode prog_8_method_7_code 96 = .ok (.aload_n 0, 1) := by decide +kernel
theorem wd_M_coil_97 : decode prog_8_method_7_code 97 = .ok (.getfield 79, 3) := by decide +kernel
theorem wd_M_coil_100 : decode prog_8_method_7_code 100 = .ok (.iload_n 3, 1) := by decide +kernel
theorem wd_M_coil_101 : decode prog_8_method_7_code 101 = .ok (.iastore, 1) := by decide +kernel
theorem wd_M_coil_102 : decode prog_8_method_7_code 102 = .ok (.aload_n 0, 1) := by decide +kernel
theorem wd_M_coil_103 : decode prog_8_method_7_code 103 = .ok (.getfield 19, 3) := by decide +kernel
theorem wd_M_coil_106 : decode prog_8_method_7_code 106 = .ok (.aload_n 0, 1) := by decide +kernel
theorem wd_M_coil_107 : decode prog_8_method_7_code 107 = .ok (.getfield 79, 3) := by decide +kernel
theorem wd_M_coil_110 : decode prog_8_method_7_code 110 = .ok (.iload 4, 2) := by decide +kernel
theorem wd_M_coil_112 : decode prog_8_method_7_code 112 = .ok (.iastore, 1) := by decide +kernel
theorem wd_M_coil_113 : decode prog_8_method_7_code 113 = .ok (.aload_n 0, 1) := by decide +kernel
theorem wd_M_coil_114 : decode prog_8_method_7_code 114 = .ok (.getfield 22, 3) := by decide +kernel
theorem wd_M_coil_117 : decode prog_8_method_7_code 117 = .ok (.aload_n 0, 1) := by decide +kernel
theorem wd_M_coil_118 : decode prog_8_method_7_code 118 = .ok (.getfield 79, 3) := by decide +kernel
theorem wd_M_coil_121 : decode prog_8_method_7_code 121 = .ok (.bipush 8, 2) := by decide +kernel
theorem wd_M_coil_123 : decode prog_8_method_7_code 123 = .ok (.iastore, 1) := by decide +kernel
theorem wd_M_coil_124 : decode prog_8_method_7_code 124 = .ok (.aload_n 0, 1) := by decide +kernel
theorem wd_M_coil_125 : decode prog_8_method_7_code 125 = .ok (.getfield 25, 3) := by decide +kernel
theorem wd_M_coil_128 : decode prog_8_method_7_code 128 = .ok (.aload_n 0, 1) := by decide +kernel
theorem wd_M_coil_129 : decode prog_8_method_7_code 129 = .ok (.getfield 79, 3) := by decide +kernel
theorem wd_M_coil_132 : decode prog_8_method_7_code 132 = .ok (.iconst (-1), 1) := by decide +kernel
theorem wd_M_coil_133 : decode prog_8_method_7_code 133 = .ok (.iastore, 1) := by decide +kernel
theorem wd_M_coil_134 : decode prog_8_method_7_code 134 = .ok (.aload_n 0, 1) := by decide +kernel
theorem wd_M_coil_135 : decode prog_8_method_7_code 135 = .ok (.dup, 1) := by decide +kernel
theorem wd_M_coil_136 : decode prog_8_method_7_code 136 = .ok (.getfield 79, 3) := by decide +kernel
theorem wd_M_coil_139 : decode prog_8_method_7_code 139 = .ok (.iconst 1, 1) := by decide +kernel
theorem wd_M_coil_140 : decode prog_8_method_7_code 140 = .ok (.iadd, 1) := by decide +kernel
theorem wd_M_coil_141 : decode prog_8_method_7_code 141 = .ok (.putfield 79, 3) := by decide +kernel
theorem wd_M_coil_144 : decode prog_8_method_7_code 144 = .ok (.aload_n 0, 1) := by decide +kernel
theorem wd_M_coil_145 : decode prog_8_method_7_code 145 = .ok (.invokevirtual 90, 3) := by decide +kernel
theorem wd_M_coil_148 : decode prog_8_method_7_code 148 = .ok (.aload_n 0, 1) := by decide +kernel
theorem wd_M_coil_149 : decode prog_8_method_7_code 149 = .ok (.getfield 79, 3) := by decide +kernel
theorem wd_M_coil_152 : decode prog_8_method_7_code 152 = .ok (.iconst 1, 1) := by decide +kernel
theorem wd_M_coil_153 : decode prog_8_method_7_code 153 = .ok (.isub, 1) := by decide +kernel
theorem wd_M_coil_154 : decode prog_8_method_7_code 154 = .ok (.ireturn, 1) := by decide +kernel
end
