section

theorem wd_K_group_0 : decode method_5_code 0 = .ok (.aload 4, 2) := by decide +kernel
theorem wd_K_group_2 : decode method_5_code 2 = .ok (.iconst 0, 1) := by decide +kernel
theorem wd_K_group_3 : decode method_5_code 3 = .ok (.aload_n 0, 1) := by decide +kernel
theorem wd_K_group_4 : decode method_5_code 4 = .ok (.iload_n 1, 1) := by decide +kernel
theorem wd_K_group_5 : decode method_5_code 5 = .ok (.iload_n 2, 1) := by decide +kernel
theorem wd_K_group_6 : decode method_5_code 6 = .ok (.iload_n 3, 1) := by decide +kernel
theorem wd_K_group_7 : decode method_5_code 7 = .ok (.invokevirtual 22, 3) := by decide +kernel
theorem wd_K_group_10 : decode method_5_code 10 = .ok (.i2l, 1) := by decide +kernel
theorem wd_K_group_11 : decode method_5_code 11 = .ok (.lastore, 1) := by decide +kernel
theorem wd_K_group_12 : decode method_5_code 12 = .ok (.goto 11, 3) := by decide +kernel
theorem wd_K_group_15 : decode method_5_code 15 = .ok (.astore 5, 2) := by decide +kernel
theorem wd_K_group_17 : decode method_5_code 17 = .ok (.iconst 1, 1) := by decide +kernel
theorem wd_K_group_18 : decode method_5_code 18 = .ok (.ireturn, 1) := by decide +kernel
theorem wd_K_group_19 : decode method_5_code 19 = .ok (.astore 5, 2) := by decide +kernel
theorem wd_K_group_21 : decode method_5_code 21 = .ok (.iconst 2, 1) := by decide +kernel
theorem wd_K_group_22 : decode method_5_code 22 = .ok (.ireturn, 1) := by decide +kernel
theorem wd_K_group_23 : decode method_5_code 23 = .ok (.iconst 0, 1) := by decide +kernel
theorem wd_K_group_24 : decode method_5_code 24 = .ok (.ireturn, 1) := by decide +kernel
end
section

theorem wd_K_urgent_0 : decode method_6_code 0 = .ok (.aload_n 0, 1) := by decide +kernel
theorem wd_K_urgent_1 : decode method_6_code 1 = .ok (.iload_n 1, 1) := by decide +kernel
theorem wd_K_urgent_2 : decode method_6_code 2 = .ok (.iload_n 2, 1) := by decide +kernel
theorem wd_K_urgent_3 : decode method_6_code 3 = .ok (.invokevirtual 26, 3) := by decide +kernel
theorem wd_K_urgent_6 : decode method_6_code 6 = .ok (.goto 9, 3) := by decide +kernel
theorem wd_K_urgent_9 : decode method_6_code 9 = .ok (.astore_n 3, 1) := by decide +kernel
theorem wd_K_urgent_10 : decode method_6_code 10 = .ok (.iconst 1, 1) := by decide +kernel
theorem wd_K_urgent_11 : decode method_6_code 11 = .ok (.ireturn, 1) := by decide +kernel
theorem wd_K_urgent_12 : decode method_6_code 12 = .ok (.astore_n 3, 1) := by decide +kernel
theorem wd_K_urgent_13 : decode method_6_code 13 = .ok (.iconst 2, 1) := by decide +kernel
theorem wd_K_urgent_14 : decode method_6_code 14 = .ok (.ireturn, 1) := by decide +kernel
theorem wd_K_urgent_15 : decode method_6_code 15 = .ok (.iconst 0, 1) := by decide +kernel
theorem wd_K_urgent_16 : decode method_6_code 16 = .ok (.ireturn, 1) := by decide +kernel
end
section

theorem wd_K_old_0 : decode method_7_code 0 = .ok (.aload_n 0, 1) := by decide +kernel
theorem wd_K_old_1 : decode method_7_code 1 = .ok (.iload_n 1, 1) := by decide +kernel
theorem wd_K_old_2 : decode method_7_code 2 = .ok (.iload_n 2, 1) := by decide +kernel
theorem wd_K_old_3 : decode method_7_code 3 = .ok (.invokevirtual 30, 3) := by decide +kernel
theorem wd_K_old_6 : decode method_7_code 6 = .ok (.goto 9, 3) := by decide +kernel
theorem wd_K_old_9 : decode method_7_code 9 = .ok (.astore_n 3, 1) := by decide +kernel
theorem wd_K_old_10 : decode method_7_code 10 = .ok (.iconst 1, 1) := by decide +kernel
theorem wd_K_old_11 : decode method_7_code 11 = .ok (.ireturn, 1) := by decide +kernel
theorem wd_K_old_12 : decode method_7_code 12 = .ok (.astore_n 3, 1) := by decide +kernel
theorem wd_K_old_13 : decode method_7_code 13 = .ok (.iconst 2, 1) := by decide +kernel
theorem wd_K_old_14 : decode method_7_code 14 = .ok (.ireturn, 1) := by decide +kernel
theorem wd_K_old_15 : decode method_7_code 15 = .ok (.iconst 0, 1) := by decide +kernel
theorem wd_K_old_16 : decode method_7_code 16 = .ok (.ireturn, 1) := by decide +kernel
end
section

theorem wd_K_rules_0 : decode method_8_code 0 = .ok (.aload_n 0, 1) := by decide +kernel
theorem wd_K_rules_1 : decode method_8_code 1 = .ok (.iload_n 1, 1) := by decide +kernel
theorem wd_K_rules_2 : decode method_8_code 2 = .ok (.iload_n 2, 1) := by decide +kernel
theorem wd_K_rules_3 : decode method_8_code 3 = .ok (.iload_n 3, 1) := by decide +kernel
theorem wd_K_rules_4 : decode method_8_code 4 = .ok (.iload 4, 2) := by decide +kernel
theorem wd_K_rules_6 : decode method_8_code 6 = .ok (.invokevirtual 33, 3) := by decide +kernel
theorem wd_K_rules_9 : decode method_8_code 9 = .ok (.goto 7, 3) := by decide +kernel
theorem wd_K_rules_12 : decode method_8_code 12 = .ok (.astore 5, 2) := by decide +kernel
theorem wd_K_rules_14 : decode method_8_code 14 = .ok (.iconst 1, 1) := by decide +kernel
theorem wd_K_rules_15 : decode method_8_code 15 = .ok (.ireturn, 1) := by decide +kernel
theorem wd_K_rules_16 : decode method_8_code 16 = .ok (.iconst 0, 1) := by decide +kernel
theorem wd_K_rules_17 : decode method_8_code 17 = .ok (.ireturn, 1) := by decide +kernel
end
section

theorem wd_K_run_0 : decode method_9_code 0 = .ok (.aload_n 2, 1) := by decide +kernel
theorem wd_K_run_1 : decode method_9_code 1 = .ok (.iconst 0, 1) := by decide +kernel
theorem wd_K_run_2 : decode method_9_code 2 = .ok (.aload_n 0, 1) := by decide +kernel
theorem wd_K_run_3 : decode method_9_code 3 = .ok (.iload_n 1, 1) := by decide +kernel
theorem wd_K_run_4 : decode method_9_code 4 = .ok (.invokevirtual 37, 3) := by decide +kernel
theorem wd_K_run_7 : decode method_9_code 7 = .ok (.i2l, 1) := by decide +kernel
theorem wd_K_run_8 : decode method_9_code 8 = .ok (.lastore, 1) := by decide +kernel
theorem wd_K_run_9 : decode method_9_code 9 = .ok (.goto 6, 3) := by decide +kernel
theorem wd_K_run_12 : decode method_9_code 12 = .ok (.astore_n 3, 1) := by decide +kernel
theorem wd_K_run_13 : decode method_9_code 13 = .ok (.iconst 1, 1) := by decide +kernel
theorem wd_K_run_14 : decode method_9_code 14 = .ok (.ireturn, 1) := by decide +kernel
theorem wd_K_run_15 : decode method_9_code 15 = .ok (.iconst 0, 1) := by decide +kernel
theorem wd_K_run_16 : decode method_9_code 16 = .ok (.ireturn, 1) := by decide +kernel
end
section

theorem wd_K_proved_0 : decode method_10_code 0 = .ok (.aload_n 1, 1) := by decide +kernel
theorem wd_K_proved_1 : decode method_10_code 1 = .ok (.iconst 0, 1) := by decide +kernel
theorem wd_K_proved_2 : decode method_10_code 2 = .ok (.aload_n 0, 1) := by decide +kernel
theorem wd_K_proved_3 : decode method_10_code 3 = .ok (.invokevirtual 41, 3) := by decide +kernel
theorem wd_K_proved_6 : decode method_10_code 6 = .ok (.ifCond .eq 7, 3) := by decide +kernel
theorem wd_K_proved_9 : decode method_10_code 9 = .ok (.lconst 1, 1) := by decide +kernel
theorem wd_K_proved_10 : decode method_10_code 10 = .ok (.goto 4, 3) := by decide +kernel
theorem wd_K_proved_13 : decode method_10_code 13 = .ok (.lconst 0, 1) := by decide +kernel
theorem wd_K_proved_14 : decode method_10_code 14 = .ok (.lastore, 1) := by decide +kernel
theorem wd_K_proved_15 : decode method_10_code 15 = .ok (.goto 6, 3) := by decide +kernel
theorem wd_K_proved_18 : decode method_10_code 18 = .ok (.astore_n 2, 1) := by decide +kernel
theorem wd_K_proved_19 : decode method_10_code 19 = .ok (.iconst 1, 1) := by decide +kernel
theorem wd_K_proved_20 : decode method_10_code 20 = .ok (.ireturn, 1) := by decide +kernel
theorem wd_K_proved_21 : decode method_10_code 21 = .ok (.iconst 0, 1) := by decide +kernel
theorem wd_K_proved_22 : decode method_10_code 22 = .ok (.ireturn, 1) := by decide +kernel
end
section

theorem wd_K_order_0 : decode method_11_code 0 = .ok (.aload_n 2, 1) := by decide +kernel
theorem wd_K_order_1 : decode method_11_code 1 = .ok (.iconst 0, 1) := by decide +kernel
theorem wd_K_order_2 : decode method_11_code 2 = .ok (.aload_n 0, 1) := by decide +kernel
theorem wd_K_order_3 : decode method_11_code 3 = .ok (.iload_n 1, 1) := by decide +kernel
theorem wd_K_order_4 : decode method_11_code 4 = .ok (.invokevirtual 47, 3) := by decide +kernel
theorem wd_K_order_7 : decode method_11_code 7 = .ok (.i2l, 1) := by decide +kernel
theorem wd_K_order_8 : decode method_11_code 8 = .ok (.lastore, 1) := by decide +kernel
theorem wd_K_order_9 : decode method_11_code 9 = .ok (.goto 9, 3) := by decide +kernel
theorem wd_K_order_12 : decode method_11_code 12 = .ok (.astore_n 3, 1) := by decide +kernel
theorem wd_K_order_13 : decode method_11_code 13 = .ok (.iconst 1, 1) := by decide +kernel
theorem wd_K_order_14 : decode method_11_code 14 = .ok (.ireturn, 1) := by decide +kernel
theorem wd_K_order_15 : decode method_11_code 15 = .ok (.astore_n 3, 1) := by decide +kernel
theorem wd_K_order_16 : decode method_11_code 16 = .ok (.iconst 2, 1) := by decide +kernel
theorem wd_K_order_17 : decode method_11_code 17 = .ok (.ireturn, 1) := by decide +kernel
theorem wd_K_order_18 : decode method_11_code 18 = .ok (.iconst 0, 1) := by decide +kernel
theorem wd_K_order_19 : decode method_11_code 19 = .ok (.ireturn, 1) := by decide +kernel
end
section

theorem wd_K_told_0 : decode method_12_code 0 = .ok (.aload_n 2, 1) := by decide +kernel
theorem wd_K_told_1 : decode method_12_code 1 = .ok (.iconst 0, 1) := by decide +kernel
theorem wd_K_told_2 : decode method_12_code 2 = .ok (.aload_n 0, 1) := by decide +kernel
theorem wd_K_told_3 : decode method_12_code 3 = .ok (.iload_n 1, 1) := by decide +kernel
theorem wd_K_told_4 : decode method_12_code 4 = .ok (.invokevirtual 50, 3) := by decide +kernel
theorem wd_K_told_7 : decode method_12_code 7 = .ok (.i2l, 1) := by decide +kernel
theorem wd_K_told_8 : decode method_12_code 8 = .ok (.lastore, 1) := by decide +kernel
theorem wd_K_told_9 : decode method_12_code 9 = .ok (.goto 9, 3) := by decide +kernel
theorem wd_K_told_12 : decode method_12_code 12 = .ok (.astore_n 3, 1) := by decide +kernel
theorem wd_K_told_13 : decode method_12_code 13 = .ok (.iconst 1, 1) := by decide +kernel
theorem wd_K_told_14 : decode method_12_code 14 = .ok (.ireturn, 1) := by decide +kernel
theorem wd_K_told_15 : decode method_12_code 15 = .ok (.astore_n 3, 1) := by decide +kernel
theorem wd_K_told_16 : decode method_12_code 16 = .ok (.iconst 2, 1) := by decide +kernel
theorem wd_K_told_17 : decode method_12_code 17 = .ok (.ireturn, 1) := by decide +kernel
theorem wd_K_told_18 : decode method_12_code 18 = .ok (.iconst 0, 1) := by decide +kernel
theorem wd_K_told_19 : decode method_12_code 19 = .ok (.ireturn, 1) := by decide +kernel
end
section

theorem wd_K_change_0 : decode method_13_code 0 = .ok (.aload_n 2, 1) := by decide +kernel
theorem wd_K_change_1 : decode method_13_code 1 = .ok (.iconst 0, 1) := by decide +kernel
theorem wd_K_change_2 : decode method_13_code 2 = .ok (.aload_n 0, 1) := by decide +kernel
theorem wd_K_change_3 : decode method_13_code 3 = .ok (.iload_n 1, 1) := by decide +kernel
theorem wd_K_change_4 : decode method_13_code 4 = .ok (.invokevirtual 53, 3) := by decide +kernel
theorem wd_K_change_7 : decode method_13_code 7 = .ok (.ifCond .eq 7, 3) := by decide +kernel
theorem wd_K_change_10 : decode method_13_code 10 = .ok (.lconst 1, 1) := by decide +kernel
theorem wd_K_change_11 : decode method_13_code 11 = .ok (.goto 4, 3) := by decide +kernel
theorem wd_K_change_14 : decode method_13_code 14 = .ok (.lconst 0, 1) := by decide +kernel
theorem wd_K_change_15 : decode method_13_code 15 = .ok (.lastore, 1) := by decide +kernel
theorem wd_K_change_16 : decode method_13_code 16 = .ok (.goto 9, 3) := by decide +kernel
theorem wd_K_change_19 : decode method_13_code 19 = .ok (.astore_n 3, 1) := by decide +kernel
theorem wd_K_change_20 : decode method_13_code 20 = .ok (.iconst 1, 1) := by decide +kernel
theorem wd_K_change_21 : decode method_13_code 21 = .ok (.ireturn, 1) := by decide +kernel
theorem wd_K_change_22 : decode method_13_code 22 = .ok (.astore_n 3, 1) := by decide +kernel
theorem wd_K_change_23 : decode method_13_code 23 = .ok (.iconst 2, 1) := by decide +kernel
theorem wd_K_change_24 : decode method_13_code 24 = .ok (.ireturn, 1) := by decide +kernel
theorem wd_K_change_25 : decode method_13_code 25 = .ok (.iconst 0, 1) := by decide +kernel
theorem wd_K_change_26 : decode method_13_code 26 = .ok (.ireturn, 1) := by decide +kernel
end
section

theorem wd_K_jump_0 : decode method_14_code 0 = .ok (.aload_n 3, 1) := by decide +kernel
theorem wd_K_jump_1 : decode method_14_code 1 = .ok (.iconst 0, 1) := by decide +kernel
theorem wd_K_jump_2 : decode method_14_code 2 = .ok (.aload_n 0, 1) := by decide +kernel
theorem wd_K_jump_3 : decode method_14_code 3 = .ok (.iload_n 1, 1) := by decide +kernel
theorem wd_K_jump_4 : decode method_14_code 4 = .ok (.iload_n 2, 1) := by decide +kernel
theorem wd_K_jump_5 : decode method_14_code 5 = .ok (.invokevirtual 57, 3) := by decide +kernel
theorem wd_K_jump_8 : decode method_14_code 8 = .ok (.i2l, 1) := by decide +kernel
theorem wd_K_jump_9 : decode method_14_code 9 = .ok (.lastore, 1) := by decide +kernel
theorem wd_K_jump_10 : decode method_14_code 10 = .ok (.goto 7, 3) := by decide +kernel
theorem wd_K_jump_13 : decode method_14_code 13 = .ok (.astore 4, 2) := by decide +kernel
theorem wd_K_jump_15 : decode method_14_code 15 = .ok (.iconst 1, 1) := by decide +kernel
theorem wd_K_jump_16 : decode method_14_code 16 = .ok (.ireturn, 1) := by decide +kernel
theorem wd_K_jump_17 : decode method_14_code 17 = .ok (.iconst 0, 1) := by decide +kernel
theorem wd_K_jump_18 : decode method_14_code 18 = .ok (.ireturn, 1) := by decide +kernel
end
section

theorem wd_K_tell_0 : decode method_15_code 0 = .ok (.aload_n 0, 1) := by decide +kernel
theorem wd_K_tell_1 : decode method_15_code 1 = .ok (.lload_n 1, 1) := by decide +kernel
theorem wd_K_tell_2 : decode method_15_code 2 = .ok (.invokevirtual 61, 3) := by decide +kernel
theorem wd_K_tell_5 : decode method_15_code 5 = .ok (.goto 9, 3) := by decide +kernel
theorem wd_K_tell_8 : decode method_15_code 8 = .ok (.astore_n 3, 1) := by decide +kernel
theorem wd_K_tell_9 : decode method_15_code 9 = .ok (.iconst 1, 1) := by decide +kernel
theorem wd_K_tell_10 : decode method_15_code 10 = .ok (.ireturn, 1) := by decide +kernel
theorem wd_K_tell_11 : decode method_15_code 11 = .ok (.astore_n 3, 1) := by decide +kernel
theorem wd_K_tell_12 : decode method_15_code 12 = .ok (.iconst 2, 1) := by decide +kernel
theorem wd_K_tell_13 : decode method_15_code 13 = .ok (.ireturn, 1) := by decide +kernel
theorem wd_K_tell_14 : decode method_15_code 14 = .ok (.iconst 0, 1) := by decide +kernel
theorem wd_K_tell_15 : decode method_15_code 15 = .ok (.ireturn, 1) := by decide +kernel
end
section

theorem wd_K_improve_0 : decode method_16_code 0 = .ok (.aload_n 2, 1) := by decide +kernel
theorem wd_K_improve_1 : decode method_16_code 1 = .ok (.iconst 0, 1) := by decide +kernel
theorem wd_K_improve_2 : decode method_16_code 2 = .ok (.aload_n 0, 1) := by decide +kernel
theorem wd_K_improve_3 : decode method_16_code 3 = .ok (.iload_n 1, 1) := by decide +kernel
theorem wd_K_improve_4 : decode method_16_code 4 = .ok (.invokevirtual 65, 3) := by decide +kernel
theorem wd_K_improve_7 : decode method_16_code 7 = .ok (.i2l, 1) := by decide +kernel
theorem wd_K_improve_8 : decode method_16_code 8 = .ok (.lastore, 1) := by decide +kernel
theorem wd_K_improve_9 : decode method_16_code 9 = .ok (.goto 9, 3) := by decide +kernel
theorem wd_K_improve_12 : decode method_16_code 12 = .ok (.astore_n 3, 1) := by decide +kernel
theorem wd_K_improve_13 : decode method_16_code 13 = .ok (.iconst 1, 1) := by decide +kernel
theorem wd_K_improve_14 : decode method_16_code 14 = .ok (.ireturn, 1) := by decide +kernel
theorem wd_K_improve_15 : decode method_16_code 15 = .ok (.astore_n 3, 1) := by decide +kernel
theorem wd_K_improve_16 : decode method_16_code 16 = .ok (.iconst 2, 1) := by decide +kernel
theorem wd_K_improve_17 : decode method_16_code 17 = .ok (.ireturn, 1) := by decide +kernel
theorem wd_K_improve_18 : decode method_16_code 18 = .ok (.iconst 0, 1) := by decide +kernel
theorem wd_K_improve_19 : decode method_16_code 19 = .ok (.ireturn, 1) := by decide +kernel
end
