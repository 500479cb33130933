section

theorem wd_W_told_0 : decode prog_1_method_11_code 0 = .ok (.iload_n 1, 1) := by decide +kernel
theorem wd_W_told_1 : decode prog_1_method_11_code 1 = .ok (.iconst 0, 1) := by decide +kernel
theorem wd_W_told_2 : decode prog_1_method_11_code 2 = .ok (.iconst 2, 1) := by decide +kernel
theorem wd_W_told_3 : decode prog_1_method_11_code 3 = .ok (.invokestatic 41, 3) := by decide +kernel
theorem wd_W_told_6 : decode prog_1_method_11_code 6 = .ok (.ifCond .eq 13, 3) := by decide +kernel
theorem wd_W_told_9 : decode prog_1_method_11_code 9 = .ok (.new 68, 3) := by decide +kernel
theorem wd_W_told_12 : decode prog_1_method_11_code 12 = .ok (.dup, 1) := by decide +kernel
theorem wd_W_told_13 : decode prog_1_method_11_code 13 = .ok (.ldc 181, 2) := by decide +kernel
theorem wd_W_told_15 : decode prog_1_method_11_code 15 = .ok (.invokespecial 72, 3) := by decide +kernel
theorem wd_W_told_18 : decode prog_1_method_11_code 18 = .ok (.athrow, 1) := by decide +kernel
theorem wd_W_told_19 : decode prog_1_method_11_code 19 = .ok (.aload_n 0, 1) := by decide +kernel
theorem wd_W_told_20 : decode prog_1_method_11_code 20 = .ok (.invokevirtual 172, 3) := by decide +kernel
theorem wd_W_told_23 : decode prog_1_method_11_code 23 = .ok (.iload_n 1, 1) := by decide +kernel
theorem wd_W_told_24 : decode prog_1_method_11_code 24 = .ok (.ifCond .ne 11, 3) := by decide +kernel
theorem wd_W_told_27 : decode prog_1_method_11_code 27 = .ok (.aload_n 0, 1) := by decide +kernel
theorem wd_W_told_28 : decode prog_1_method_11_code 28 = .ok (.getfield 25, 3) := by decide +kernel
theorem wd_W_told_31 : decode prog_1_method_11_code 31 = .ok (.invokevirtual 183, 3) := by decide +kernel
theorem wd_W_told_34 : decode prog_1_method_11_code 34 = .ok (.ireturn, 1) := by decide +kernel
theorem wd_W_told_35 : decode prog_1_method_11_code 35 = .ok (.iload_n 1, 1) := by decide +kernel
theorem wd_W_told_36 : decode prog_1_method_11_code 36 = .ok (.iconst 1, 1) := by decide +kernel
theorem wd_W_told_37 : decode prog_1_method_11_code 37 = .ok (.if_icmp .ne 13, 3) := by decide +kernel
theorem wd_W_told_40 : decode prog_1_method_11_code 40 = .ok (.aload_n 0, 1) := by decide +kernel
theorem wd_W_told_41 : decode prog_1_method_11_code 41 = .ok (.getfield 25, 3) := by decide +kernel
theorem wd_W_told_44 : decode prog_1_method_11_code 44 = .ok (.invokevirtual 187, 3) := by decide +kernel
theorem wd_W_told_47 : decode prog_1_method_11_code 47 = .ok (.goto 10, 3) := by decide +kernel
theorem wd_W_told_50 : decode prog_1_method_11_code 50 = .ok (.aload_n 0, 1) := by decide +kernel
theorem wd_W_told_51 : decode prog_1_method_11_code 51 = .ok (.getfield 25, 3) := by decide +kernel
theorem wd_W_told_54 : decode prog_1_method_11_code 54 = .ok (.invokevirtual 190, 3) := by decide +kernel
theorem wd_W_told_57 : decode prog_1_method_11_code 57 = .ok (.ireturn, 1) := by decide +kernel
end
section

theorem wd_W_change_0 : decode prog_1_method_12_code 0 = .ok (.aload_n 0, 1) := by decide +kernel
theorem wd_W_change_1 : decode prog_1_method_12_code 1 = .ok (.invokevirtual 172, 3) := by decide +kernel
theorem wd_W_change_4 : decode prog_1_method_12_code 4 = .ok (.aload_n 0, 1) := by decide +kernel
theorem wd_W_change_5 : decode prog_1_method_12_code 5 = .ok (.iload_n 1, 1) := by decide +kernel
theorem wd_W_change_6 : decode prog_1_method_12_code 6 = .ok (.invokevirtual 175, 3) := by decide +kernel
theorem wd_W_change_9 : decode prog_1_method_12_code 9 = .ok (.aload_n 0, 1) := by decide +kernel
theorem wd_W_change_10 : decode prog_1_method_12_code 10 = .ok (.getfield 25, 3) := by decide +kernel
theorem wd_W_change_13 : decode prog_1_method_12_code 13 = .ok (.getfield 193, 3) := by decide +kernel
theorem wd_W_change_16 : decode prog_1_method_12_code 16 = .ok (.iload_n 1, 1) := by decide +kernel
theorem wd_W_change_17 : decode prog_1_method_12_code 17 = .ok (.baload, 1) := by decide +kernel
theorem wd_W_change_18 : decode prog_1_method_12_code 18 = .ok (.ireturn, 1) := by decide +kernel
end
section

theorem wd_W_jump_0 : decode prog_1_method_13_code 0 = .ok (.aload_n 0, 1) := by decide +kernel
theorem wd_W_jump_1 : decode prog_1_method_13_code 1 = .ok (.iload_n 1, 1) := by decide +kernel
theorem wd_W_jump_2 : decode prog_1_method_13_code 2 = .ok (.invokevirtual 110, 3) := by decide +kernel
theorem wd_W_jump_5 : decode prog_1_method_13_code 5 = .ok (.ifCond .ne 16, 3) := by decide +kernel
theorem wd_W_jump_8 : decode prog_1_method_13_code 8 = .ok (.aload_n 0, 1) := by decide +kernel
theorem wd_W_jump_9 : decode prog_1_method_13_code 9 = .ok (.iload_n 2, 1) := by decide +kernel
theorem wd_W_jump_10 : decode prog_1_method_13_code 10 = .ok (.invokevirtual 110, 3) := by decide +kernel
theorem wd_W_jump_13 : decode prog_1_method_13_code 13 = .ok (.ifCond .ne 8, 3) := by decide +kernel
theorem wd_W_jump_16 : decode prog_1_method_13_code 16 = .ok (.iload_n 1, 1) := by decide +kernel
theorem wd_W_jump_17 : decode prog_1_method_13_code 17 = .ok (.iload_n 2, 1) := by decide +kernel
theorem wd_W_jump_18 : decode prog_1_method_13_code 18 = .ok (.if_icmp .ne 13, 3) := by decide +kernel
theorem wd_W_jump_21 : decode prog_1_method_13_code 21 = .ok (.new 68, 3) := by decide +kernel
theorem wd_W_jump_24 : decode prog_1_method_13_code 24 = .ok (.dup, 1) := by decide +kernel
theorem wd_W_jump_25 : decode prog_1_method_13_code 25 = .ok (.ldc 197, 2) := by decide +kernel
theorem wd_W_jump_27 : decode prog_1_method_13_code 27 = .ok (.invokespecial 72, 3) := by decide +kernel
theorem wd_W_jump_30 : decode prog_1_method_13_code 30 = .ok (.athrow, 1) := by decide +kernel
theorem wd_W_jump_31 : decode prog_1_method_13_code 31 = .ok (.aload_n 0, 1) := by decide +kernel
theorem wd_W_jump_32 : decode prog_1_method_13_code 32 = .ok (.getfield 10, 3) := by decide +kernel
theorem wd_W_jump_35 : decode prog_1_method_13_code 35 = .ok (.getfield 199, 3) := by decide +kernel
theorem wd_W_jump_38 : decode prog_1_method_13_code 38 = .ok (.iload_n 1, 1) := by decide +kernel
theorem wd_W_jump_39 : decode prog_1_method_13_code 39 = .ok (.aaload, 1) := by decide +kernel
theorem wd_W_jump_40 : decode prog_1_method_13_code 40 = .ok (.iload_n 2, 1) := by decide +kernel
theorem wd_W_jump_41 : decode prog_1_method_13_code 41 = .ok (.iaload, 1) := by decide +kernel
theorem wd_W_jump_42 : decode prog_1_method_13_code 42 = .ok (.ireturn, 1) := by decide +kernel
end
section

theorem wd_W_bound_0 : decode prog_1_method_14_code 0 = .ok (.iconst 0, 1) := by decide +kernel
theorem wd_W_bound_1 : decode prog_1_method_14_code 1 = .ok (.istore_n 1, 1) := by decide +kernel
theorem wd_W_bound_2 : decode prog_1_method_14_code 2 = .ok (.iconst 0, 1) := by decide +kernel
theorem wd_W_bound_3 : decode prog_1_method_14_code 3 = .ok (.istore_n 2, 1) := by decide +kernel
theorem wd_W_bound_4 : decode prog_1_method_14_code 4 = .ok (.iconst 0, 1) := by decide +kernel
theorem wd_W_bound_5 : decode prog_1_method_14_code 5 = .ok (.istore_n 3, 1) := by decide +kernel
theorem wd_W_bound_6 : decode prog_1_method_14_code 6 = .ok (.iload_n 3, 1) := by decide +kernel
theorem wd_W_bound_7 : decode prog_1_method_14_code 7 = .ok (.aload_n 0, 1) := by decide +kernel
theorem wd_W_bound_8 : decode prog_1_method_14_code 8 = .ok (.getfield 10, 3) := by decide +kernel
theorem wd_W_bound_11 : decode prog_1_method_14_code 11 = .ok (.getfield 52, 3) := by decide +kernel
theorem wd_W_bound_14 : decode prog_1_method_14_code 14 = .ok (.if_icmp .ge 31, 3) := by decide +kernel
theorem wd_W_bound_17 : decode prog_1_method_14_code 17 = .ok (.aload_n 0, 1) := by decide +kernel
theorem wd_W_bound_18 : decode prog_1_method_14_code 18 = .ok (.getfield 10, 3) := by decide +kernel
theorem wd_W_bound_21 : decode prog_1_method_14_code 21 = .ok (.iload_n 3, 1) := by decide +kernel
theorem wd_W_bound_22 : decode prog_1_method_14_code 22 = .ok (.invokevirtual 203, 3) := by decide +kernel
theorem wd_W_bound_25 : decode prog_1_method_14_code 25 = .ok (.istore 4, 2) := by decide +kernel
theorem wd_W_bound_27 : decode prog_1_method_14_code 27 = .ok (.iload_n 1, 1) := by decide +kernel
theorem wd_W_bound_28 : decode prog_1_method_14_code 28 = .ok (.iload 4, 2) := by decide +kernel
theorem wd_W_bound_30 : decode prog_1_method_14_code 30 = .ok (.iadd, 1) := by decide +kernel
theorem wd_W_bound_31 : decode prog_1_method_14_code 31 = .ok (.istore_n 1, 1) := by decide +kernel
theorem wd_W_bound_32 : decode prog_1_method_14_code 32 = .ok (.iload_n 2, 1) := by decide +kernel
theorem wd_W_bound_33 : decode prog_1_method_14_code 33 = .ok (.iload 4, 2) := by decide +kernel
theorem wd_W_bound_35 : decode prog_1_method_14_code 35 = .ok (.invokestatic 207, 3) := by decide +kernel
theorem wd_W_bound_38 : decode prog_1_method_14_code 38 = .ok (.istore_n 2, 1) := by decide +kernel
theorem wd_W_bound_39 : decode prog_1_method_14_code 39 = .ok (.iinc 3 1, 3) := by decide +kernel
theorem wd_W_bound_42 : decode prog_1_method_14_code 42 = .ok (.goto (-36), 3) := by decide +kernel
theorem wd_W_bound_45 : decode prog_1_method_14_code 45 = .ok (.iload_n 1, 1) := by decide +kernel
theorem wd_W_bound_46 : decode prog_1_method_14_code 46 = .ok (.iload_n 2, 1) := by decide +kernel
theorem wd_W_bound_47 : decode prog_1_method_14_code 47 = .ok (.isub, 1) := by decide +kernel
theorem wd_W_bound_48 : decode prog_1_method_14_code 48 = .ok (.ireturn, 1) := by decide +kernel
end
section

theorem wd_W_tell_0 : decode prog_1_method_15_code 0 = .ok (.aload_n 0, 1) := by decide +kernel
theorem wd_W_tell_1 : decode prog_1_method_15_code 1 = .ok (.lload_n 1, 1) := by decide +kernel
theorem wd_W_tell_2 : decode prog_1_method_15_code 2 = .ok (.invokevirtual 213, 3) := by decide +kernel
theorem wd_W_tell_5 : decode prog_1_method_15_code 5 = .ok (.ifCond .ne 13, 3) := by decide +kernel
theorem wd_W_tell_8 : decode prog_1_method_15_code 8 = .ok (.new 68, 3) := by decide +kernel
theorem wd_W_tell_11 : decode prog_1_method_15_code 11 = .ok (.dup, 1) := by decide +kernel
theorem wd_W_tell_12 : decode prog_1_method_15_code 12 = .ok (.ldc 217, 2) := by decide +kernel
theorem wd_W_tell_14 : decode prog_1_method_15_code 14 = .ok (.invokespecial 72, 3) := by decide +kernel
theorem wd_W_tell_17 : decode prog_1_method_15_code 17 = .ok (.athrow, 1) := by decide +kernel
theorem wd_W_tell_18 : decode prog_1_method_15_code 18 = .ok (.aload_n 0, 1) := by decide +kernel
theorem wd_W_tell_19 : decode prog_1_method_15_code 19 = .ok (.getfield 21, 3) := by decide +kernel
theorem wd_W_tell_22 : decode prog_1_method_15_code 22 = .ok (.aload_n 0, 1) := by decide +kernel
theorem wd_W_tell_23 : decode prog_1_method_15_code 23 = .ok (.getfield 37, 3) := by decide +kernel
theorem wd_W_tell_26 : decode prog_1_method_15_code 26 = .ok (.invokevirtual 160, 3) := by decide +kernel
theorem wd_W_tell_29 : decode prog_1_method_15_code 29 = .ok (.ifCond .ne 13, 3) := by decide +kernel
theorem wd_W_tell_32 : decode prog_1_method_15_code 32 = .ok (.new 56, 3) := by decide +kernel
theorem wd_W_tell_35 : decode prog_1_method_15_code 35 = .ok (.dup, 1) := by decide +kernel
theorem wd_W_tell_36 : decode prog_1_method_15_code 36 = .ok (.ldc 219, 2) := by decide +kernel
theorem wd_W_tell_38 : decode prog_1_method_15_code 38 = .ok (.invokespecial 60, 3) := by decide +kernel
theorem wd_W_tell_41 : decode prog_1_method_15_code 41 = .ok (.athrow, 1) := by decide +kernel
theorem wd_W_tell_42 : decode prog_1_method_15_code 42 = .ok (.aload_n 0, 1) := by decide +kernel
theorem wd_W_tell_43 : decode prog_1_method_15_code 43 = .ok (.getfield 25, 3) := by decide +kernel
theorem wd_W_tell_46 : decode prog_1_method_15_code 46 = .ok (.aload_n 0, 1) := by decide +kernel
theorem wd_W_tell_47 : decode prog_1_method_15_code 47 = .ok (.getfield 37, 3) := by decide +kernel
theorem wd_W_tell_50 : decode prog_1_method_15_code 50 = .ok (.invokevirtual 160, 3) := by decide +kernel
theorem wd_W_tell_53 : decode prog_1_method_15_code 53 = .ok (.pop, 1) := by decide +kernel
theorem wd_W_tell_54 : decode prog_1_method_15_code 54 = .ok (.aload_n 0, 1) := by decide +kernel
theorem wd_W_tell_55 : decode prog_1_method_15_code 55 = .ok (.iconst 1, 1) := by decide +kernel
theorem wd_W_tell_56 : decode prog_1_method_15_code 56 = .ok (.putfield 154, 3) := by decide +kernel
theorem wd_W_tell_59 : decode prog_1_method_15_code 59 = .ok (.return_, 1) := by decide +kernel
end
section

theorem wd_W_improve_0 : decode prog_1_method_16_code 0 = .ok (.aload_n 0, 1) := by decide +kernel
theorem wd_W_improve_1 : decode prog_1_method_16_code 1 = .ok (.invokevirtual 172, 3) := by decide +kernel
theorem wd_W_improve_4 : decode prog_1_method_16_code 4 = .ok (.iload_n 1, 1) := by decide +kernel
theorem wd_W_improve_5 : decode prog_1_method_16_code 5 = .ok (.iconst 0, 1) := by decide +kernel
theorem wd_W_improve_6 : decode prog_1_method_16_code 6 = .ok (.bipush 100, 2) := by decide +kernel
theorem wd_W_improve_8 : decode prog_1_method_16_code 8 = .ok (.invokestatic 41, 3) := by decide +kernel
theorem wd_W_improve_11 : decode prog_1_method_16_code 11 = .ok (.ifCond .eq 13, 3) := by decide +kernel
theorem wd_W_improve_14 : decode prog_1_method_16_code 14 = .ok (.new 45, 3) := by decide +kernel
theorem wd_W_improve_17 : decode prog_1_method_16_code 17 = .ok (.dup, 1) := by decide +kernel
theorem wd_W_improve_18 : decode prog_1_method_16_code 18 = .ok (.ldc 221, 2) := by decide +kernel
theorem wd_W_improve_20 : decode prog_1_method_16_code 20 = .ok (.invokespecial 49, 3) := by decide +kernel
theorem wd_W_improve_23 : decode prog_1_method_16_code 23 = .ok (.athrow, 1) := by decide +kernel
theorem wd_W_improve_24 : decode prog_1_method_16_code 24 = .ok (.iconst 0, 1) := by decide +kernel
theorem wd_W_improve_25 : decode prog_1_method_16_code 25 = .ok (.istore_n 2, 1) := by decide +kernel
theorem wd_W_improve_26 : decode prog_1_method_16_code 26 = .ok (.iload_n 2, 1) := by decide +kernel
theorem wd_W_improve_27 : decode prog_1_method_16_code 27 = .ok (.iload_n 1, 1) := by decide +kernel
theorem wd_W_improve_28 : decode prog_1_method_16_code 28 = .ok (.if_icmp .ge 16, 3) := by decide +kernel
theorem wd_W_improve_31 : decode prog_1_method_16_code 31 = .ok (.aload_n 0, 1) := by decide +kernel
theorem wd_W_improve_32 : decode prog_1_method_16_code 32 = .ok (.invokevirtual 223, 3) := by decide +kernel
theorem wd_W_improve_35 : decode prog_1_method_16_code 35 = .ok (.ifCond .eq 9, 3) := by decide +kernel
theorem wd_W_improve_38 : decode prog_1_method_16_code 38 = .ok (.iinc 2 1, 3) := by decide +kernel
theorem wd_W_improve_41 : decode prog_1_method_16_code 41 = .ok (.goto (-15), 3) := by decide +kernel
theorem wd_W_improve_44 : decode prog_1_method_16_code 44 = .ok (.iload_n 2, 1) := by decide +kernel
theorem wd_W_improve_45 : decode prog_1_method_16_code 45 = .ok (.ireturn, 1) := by decide +kernel
end
section

theorem wd_M_thrown_0 : decode prog_8_method_2_code 0 = .ok (.aload_n 0, 1) := by decide +kernel
theorem wd_M_thrown_1 : decode prog_8_method_2_code 1 = .ok (.getfield 69, 3) := by decide +kernel
theorem wd_M_thrown_4 : decode prog_8_method_2_code 4 = .ok (.ireturn, 1) := by decide +kernel
end
section

theorem wd_M_in_0 : decode prog_8_method_3_code 0 = .ok (.iload_n 0, 1) := by decide +kernel
theorem wd_M_in_1 : decode prog_8_method_3_code 1 = .ok (.iload_n 1, 1) := by decide +kernel
theorem wd_M_in_2 : decode prog_8_method_3_code 2 = .ok (.if_icmp .lt 12, 3) := by decide +kernel
theorem wd_M_in_5 : decode prog_8_method_3_code 5 = .ok (.iload_n 0, 1) := by decide +kernel
theorem wd_M_in_6 : decode prog_8_method_3_code 6 = .ok (.iload_n 2, 1) := by decide +kernel
theorem wd_M_in_7 : decode prog_8_method_3_code 7 = .ok (.if_icmp .gt 7, 3) := by decide +kernel
theorem wd_M_in_10 : decode prog_8_method_3_code 10 = .ok (.iconst 1, 1) := by decide +kernel
theorem wd_M_in_11 : decode prog_8_method_3_code 11 = .ok (.goto 4, 3) := by decide +kernel
theorem wd_M_in_14 : decode prog_8_method_3_code 14 = .ok (.iconst 0, 1) := by decide +kernel
theorem wd_M_in_15 : decode prog_8_method_3_code 15 = .ok (.ireturn, 1) := by decide +kernel
end
section

theorem wd_M_goes_0 : decode prog_8_method_4_code 0 = .ok (.aload_n 0, 1) := by decide +kernel
theorem wd_M_goes_1 : decode prog_8_method_4_code 1 = .ok (.iload_n 1, 1) := by decide +kernel
theorem wd_M_goes_2 : decode prog_8_method_4_code 2 = .ok (.ifCond .ne 7, 3) := by decide +kernel
theorem wd_M_goes_5 : decode prog_8_method_4_code 5 = .ok (.iconst 1, 1) := by decide +kernel
theorem wd_M_goes_6 : decode prog_8_method_4_code 6 = .ok (.goto 20, 3) := by decide +kernel
theorem wd_M_goes_9 : decode prog_8_method_4_code 9 = .ok (.iload_n 2, 1) := by decide +kernel
theorem wd_M_goes_10 : decode prog_8_method_4_code 10 = .ok (.ifCond .ne 7, 3) := by decide +kernel
theorem wd_M_goes_13 : decode prog_8_method_4_code 13 = .ok (.iconst 2, 1) := by decide +kernel
theorem wd_M_goes_14 : decode prog_8_method_4_code 14 = .ok (.goto 12, 3) := by decide +kernel
theorem wd_M_goes_17 : decode prog_8_method_4_code 17 = .ok (.iload_n 3, 1) := by decide +kernel
theorem wd_M_goes_18 : decode prog_8_method_4_code 18 = .ok (.ifCond .ne 7, 3) := by decide +kernel
theorem wd_M_goes_21 : decode prog_8_method_4_code 21 = .ok (.iconst 3, 1) := by decide +kernel
theorem wd_M_goes_22 : decode prog_8_method_4_code 22 = .ok (.goto 4, 3) := by decide +kernel
theorem wd_M_goes_25 : decode prog_8_method_4_code 25 = .ok (.iconst 0, 1) := by decide +kernel
theorem wd_M_goes_26 : decode prog_8_method_4_code 26 = .ok (.putfield 69, 3) := by decide +kernel
theorem wd_M_goes_29 : decode prog_8_method_4_code 29 = .ok (.aload_n 0, 1) := by decide +kernel
theorem wd_M_goes_30 : decode prog_8_method_4_code 30 = .ok (.getfield 69, 3) := by decide +kernel
theorem wd_M_goes_33 : decode prog_8_method_4_code 33 = .ok (.ifCond .ne 7, 3) := by decide +kernel
theorem wd_M_goes_36 : decode prog_8_method_4_code 36 = .ok (.iconst 1, 1) := by decide +kernel
theorem wd_M_goes_37 : decode prog_8_method_4_code 37 = .ok (.goto 4, 3) := by decide +kernel
theorem wd_M_goes_40 : decode prog_8_method_4_code 40 = .ok (.iconst 0, 1) := by decide +kernel
theorem wd_M_goes_41 : decode prog_8_method_4_code 41 = .ok (.ireturn, 1) := by decide +kernel
end
section

theorem wd_M_gone_0 : decode prog_8_method_5_code 0 = .ok (.aload_n 0, 1) := by decide +kernel
theorem wd_M_gone_1 : decode prog_8_method_5_code 1 = .ok (.iconst 0, 1) := by decide +kernel
theorem wd_M_gone_2 : decode prog_8_method_5_code 2 = .ok (.putfield 72, 3) := by decide +kernel
theorem wd_M_gone_5 : decode prog_8_method_5_code 5 = .ok (.aload_n 0, 1) := by decide +kernel
theorem wd_M_gone_6 : decode prog_8_method_5_code 6 = .ok (.iconst 0, 1) := by decide +kernel
theorem wd_M_gone_7 : decode prog_8_method_5_code 7 = .ok (.putfield 76, 3) := by decide +kernel
theorem wd_M_gone_10 : decode prog_8_method_5_code 10 = .ok (.return_, 1) := by decide +kernel
end
section

theorem wd_M_isCoil_0 : decode prog_8_method_6_code 0 = .ok (.iload_n 1, 1) := by decide +kernel
theorem wd_M_isCoil_1 : decode prog_8_method_6_code 1 = .ok (.iconst 0, 1) := by decide +kernel
theorem wd_M_isCoil_2 : decode prog_8_method_6_code 2 = .ok (.aload_n 0, 1) := by decide +kernel
theorem wd_M_isCoil_3 : decode prog_8_method_6_code 3 = .ok (.getfield 79, 3) := by decide +kernel
theorem wd_M_isCoil_6 : decode prog_8_method_6_code 6 = .ok (.iconst 1, 1) := by decide +kernel
theorem wd_M_isCoil_7 : decode prog_8_method_6_code 7 = .ok (.isub, 1) := by decide +kernel
theorem wd_M_isCoil_8 : decode prog_8_method_6_code 8 = .ok (.invokestatic 82, 3) := by decide +kernel
theorem wd_M_isCoil_11 : decode prog_8_method_6_code 11 = .ok (.ireturn, 1) := by decide +kernel
end
section

theorem wd_M_coil_0 : decode prog_8_method_7_code 0 = .ok (.aload_n 0, 1) := by decide +kernel
theorem wd_M_coil_1 : decode prog_8_method_7_code 1 = .ok (.iload_n 1, 1) := by decide +kernel
theorem wd_M_coil_2 : decode prog_8_method_7_code 2 = .ok (.iconst 1, 1) := by decide +kernel
theorem wd_M_coil_3 : decode prog_8_method_7_code 3 = .ok (.sipush 2000, 3) := by decide +kernel
theorem wd_M_coil_6 : decode prog_8_method_7_code 6 = .ok (.invokestatic 82, 3) := by decide +kernel
theorem wd_M_coil_9 : decode prog_8_method_7_code 9 = .ok (.ifCond .eq 39, 3) := by decide +kernel
theorem wd_M_coil_12 : decode prog_8_method_7_code 12 = .ok (.iload_n 2, 1) := by decide +kernel
theorem wd_M_coil_13 : decode prog_8_method_7_code 13 = .ok (.iconst 1, 1) := by decide +kernel
theorem wd_M_coil_14 : decode prog_8_method_7_code 14 = .ok (.sipush 1000, 3) := by decide +kernel
theorem wd_M_coil_17 : decode prog_8_method_7_code 17 = .ok (.invokestatic 82, 3) := by decide +kernel
theorem wd_M_coil_20 : decode prog_8_method_7_code 20 = .ok (.ifCond .eq 28, 3) := by decide +kernel
theorem wd_M_coil_23 : decode prog_8_method_7_code 23 = .ok (.iload_n 3, 1) := by decide +kernel
theorem wd_M_coil_24 : decode prog_8_method_7_code 24 = .ok (.iconst 0, 1) := by decide +kernel
theorem wd_M_coil_25 : decode prog_8_method_7_code 25 = .ok (.bipush 9, 2) := by decide +kernel
theorem wd_M_coil_27 : decode prog_8_method_7_code 27 = .ok (.invokestatic 82, 3) := by decide +kernel
theorem wd_M_coil_30 : decode prog_8_method_7_code 30 = .ok (.ifCond .eq 18, 3) := by decide +kernel
theorem wd_M_coil_33 : decode prog_8_method_7_code 33 = .ok (.iload 4, 2) := by decide +kernel
theorem wd_M_coil_35 : decode prog_8_method_7_code 35 = .ok (.iconst 1, 1) := by decide +kernel
theorem wd_M_coil_36 : decode prog_8_method_7_code 36 = .ok (.bipush 100, 2) := by decide +kernel
theorem wd_M_coil_38 : decode prog_8_method_7_code 38 = .ok (.invokestatic 82, 3) := by decide +kernel
theorem wd_M_coil_41 : decode prog_8_method_7_code 41 = .ok (.ifCond .eq 7, 3) := by decide +kernel
theorem wd_M_coil_44 : decode prog_8_method_7_code 44 = .ok (.iconst 1, 1) := by decide +kernel
theorem wd_M_coil_45 : decode prog_8_method_7_code 45 = .ok (.goto 4, 3) := by decide +kernel
theorem wd_M_coil_48 : decode prog_8_method_7_code 48 = .ok (.iconst 0, 1) := by decide +kernel
theorem wd_M_coil_49 : decode prog_8_method_7_code 49 = .ok (.aload_n 0, 1) := by decide +kernel
theorem wd_M_coil_50 : decode prog_8_method_7_code 50 = .ok (.getfield 79, 3) := by decide +kernel
theorem wd_M_coil_53 : decode prog_8_method_7_code 53 = .ok (.bipush 9, 2) := by decide +kernel
theorem wd_M_coil_55 : decode prog_8_method_7_code 55 = .ok (.if_icmp .ge 7, 3) := by decide +kernel
theorem wd_M_coil_58 : decode prog_8_method_7_code 58 = .ok (.iconst 1, 1) := by decide +kernel
theorem wd_M_coil_59 : decode prog_8_method_7_code 59 = .ok (.goto 4, 3) := by decide +kernel
theorem wd_M_coil_62 : decode prog_8_method_7_code 62 = .ok (.iconst 0, 1) := by decide +kernel
theorem wd_M_coil_63 : decode prog_8_method_7_code 63 = .ok (.iconst 1, 1) := by decide +kernel
theorem wd_M_coil_64 : decode prog_8_method_7_code 64 = .ok (.invokevirtual 86, 3) := by decide +kernel
theorem wd_M_coil_67 : decode prog_8_method_7_code 67 = .ok (.ifCond .ne 5, 3) := by decide +kernel
theorem wd_M_coil_70 : decode prog_8_method_7_code 70 = .ok (.iconst 0, 1) := by decide +kernel
theorem wd_M_coil_71 : decode prog_8_method_7_code 71 = .ok (.ireturn, 1) := by decide +kernel
theorem wd_M_coil_72 : decode prog_8_method_7_code 72 = .ok (.aload_n 0, 1) := by decide +kernel
theorem wd_M_coil_73 : decode prog_8_method_7_code 73 = .ok (.getfield 7, 3) := by decide +kernel
theorem wd_M_coil_76 : decode prog_8_method_7_code 76 = .ok (.aload_n 0, 1) := by decide +kernel
theorem wd_M_coil_77 : decode prog_8_method_7_code 77 = .ok (.getfield 79, 3) := by decide +kernel
theorem wd_M_coil_80 : decode prog_8_method_7_code 80 = .ok (.iload_n 1, 1) := by decide +kernel
theorem wd_M_coil_81 : decode prog_8_method_7_code 81 = .ok (.iastore, 1) := by decide +kernel
theorem wd_M_coil_82 : decode prog_8_method_7_code 82 = .ok (.aload_n 0, 1) := by decide +kernel
theorem wd_M_coil_83 : decode prog_8_method_7_code 83 = .ok (.getfield 13, 3) := by decide +kernel
theorem wd_M_coil_86 : decode prog_8_method_7_code 86 = .ok (.aload_n 0, 1) := by decide +kernel
theorem wd_M_coil_87 : decode prog_8_method_7_code 87 = .ok (.getfield 79, 3) := by decide +kernel
theorem wd_M_coil_90 : decode prog_8_method_7_code 90 = .ok (.iload_n 2, 1) := by decide +kernel
theorem wd_M_coil_91 : decode prog_8_method_7_code 91 = .ok (.iastore, 1) := by decide +kernel
theorem wd_M_coil_92 : decode prog_8_method_7_code 92 = .ok (.aload_n 0, 1) := by decide +kernel
theorem wd_M_coil_93 : decode prog_8_method_7_code 93 = .ok (.getfield 16, 3) := by decide +kernel
theorem wd_M_coil_96 : decode prog_8_method_7_code 96 = .ok (.aload_n 0, 1) := by decide +kernel
theorem wd_M_coil_97 : decode prog_8_method_7_code 97 = .ok (.getfield 79, 3) := by decide +kernel
theorem wd_M_coil_100 : decode prog_8_method_7_code 100 = .ok (.iload_n 3, 1) := by decide +kernel
theorem wd_M_coil_101 : decode prog_8_method_7_code 101 = .ok (.iastore, 1) := by decide +kernel
theorem wd_M_coil_102 : decode prog_8_method_7_code 102 = .ok (.aload_n 0, 1) := by decide +kernel
theorem wd_M_coil_103 : decode prog_8_method_7_code 103 = .ok (.getfield 19, 3) := by decide +kernel
theorem wd_M_coil_106 : decode prog_8_method_7_code 106 = .ok (.aload_n 0, 1) := by decide +kernel
theorem wd_M_coil_107 : decode prog_8_method_7_code 107 = .ok (.getfield 79, 3) := by decide +kernel
theorem wd_M_coil_110 : decode prog_8_method_7_code 110 = .ok (.iload 4, 2) := by decide +kernel
theorem wd_M_coil_112 : decode prog_8_method_7_code 112 = .ok (.iastore, 1) := by decide +kernel
theorem wd_M_coil_113 : decode prog_8_method_7_code 113 = .ok (.aload_n 0, 1) := by decide +kernel
theorem wd_M_coil_114 : decode prog_8_method_7_code 114 = .ok (.getfield 22, 3) := by decide +kernel
theorem wd_M_coil_117 : decode prog_8_method_7_code 117 = .ok (.aload_n 0, 1) := by decide +kernel
theorem wd_M_coil_118 : decode prog_8_method_7_code 118 = .ok (.getfield 79, 3) := by decide +kernel
theorem wd_M_coil_121 : decode prog_8_method_7_code 121 = .ok (.bipush 8, 2) := by decide +kernel
theorem wd_M_coil_123 : decode prog_8_method_7_code 123 = .ok (.iastore, 1) := by decide +kernel
theorem wd_M_coil_124 : decode prog_8_method_7_code 124 = .ok (.aload_n 0, 1) := by decide +kernel
theorem wd_M_coil_125 : decode prog_8_method_7_code 125 = .ok (.getfield 25, 3) := by decide +kernel
theorem wd_M_coil_128 : decode prog_8_method_7_code 128 = .ok (.aload_n 0, 1) := by decide +kernel
theorem wd_M_coil_129 : decode prog_8_method_7_code 129 = .ok (.getfield 79, 3) := by decide +kernel
theorem wd_M_coil_132 : decode prog_8_method_7_code 132 = .ok (.iconst (-1), 1) := by decide +kernel
theorem wd_M_coil_133 : decode prog_8_method_7_code 133 = .ok (.iastore, 1) := by decide +kernel
theorem wd_M_coil_134 : decode prog_8_method_7_code 134 = .ok (.aload_n 0, 1) := by decide +kernel
theorem wd_M_coil_135 : decode prog_8_method_7_code 135 = .ok (.dup, 1) := by decide +kernel
theorem wd_M_coil_136 : decode prog_8_method_7_code 136 = .ok (.getfield 79, 3) := by decide +kernel
theorem wd_M_coil_139 : decode prog_8_method_7_code 139 = .ok (.iconst 1, 1) := by decide +kernel
theorem wd_M_coil_140 : decode prog_8_method_7_code 140 = .ok (.iadd, 1) := by decide +kernel
theorem wd_M_coil_141 : decode prog_8_method_7_code 141 = .ok (.putfield 79, 3) := by decide +kernel
theorem wd_M_coil_144 : decode prog_8_method_7_code 144 = .ok (.aload_n 0, 1) := by decide +kernel
theorem wd_M_coil_145 : decode prog_8_method_7_code 145 = .ok (.invokevirtual 90, 3) := by decide +kernel
theorem wd_M_coil_148 : decode prog_8_method_7_code 148 = .ok (.aload_n 0, 1) := by decide +kernel
theorem wd_M_coil_149 : decode prog_8_method_7_code 149 = .ok (.getfield 79, 3) := by decide +kernel
theorem wd_M_coil_152 : decode prog_8_method_7_code 152 = .ok (.iconst 1, 1) := by decide +kernel
theorem wd_M_coil_153 : decode prog_8_method_7_code 153 = .ok (.isub, 1) := by decide +kernel
theorem wd_M_coil_154 : decode prog_8_method_7_code 154 = .ok (.ireturn, 1) := by decide +kernel
end
