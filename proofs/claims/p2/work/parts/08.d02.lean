section

theorem wd_L_takeBack_0 : decode prog_3_method_10_code 0 = .ok (.aload_n 0, 1) := by decide +kernel
theorem wd_L_takeBack_1 : decode prog_3_method_10_code 1 = .ok (.getfield 43, 3) := by decide +kernel
theorem wd_L_takeBack_4 : decode prog_3_method_10_code 4 = .ok (.ifCond .le 28, 3) := by decide +kernel
theorem wd_L_takeBack_7 : decode prog_3_method_10_code 7 = .ok (.aload_n 0, 1) := by decide +kernel
theorem wd_L_takeBack_8 : decode prog_3_method_10_code 8 = .ok (.dup, 1) := by decide +kernel
theorem wd_L_takeBack_9 : decode prog_3_method_10_code 9 = .ok (.getfield 43, 3) := by decide +kernel
theorem wd_L_takeBack_12 : decode prog_3_method_10_code 12 = .ok (.iconst 1, 1) := by decide +kernel
theorem wd_L_takeBack_13 : decode prog_3_method_10_code 13 = .ok (.isub, 1) := by decide +kernel
theorem wd_L_takeBack_14 : decode prog_3_method_10_code 14 = .ok (.putfield 43, 3) := by decide +kernel
theorem wd_L_takeBack_17 : decode prog_3_method_10_code 17 = .ok (.aload_n 0, 1) := by decide +kernel
theorem wd_L_takeBack_18 : decode prog_3_method_10_code 18 = .ok (.getfield 15, 3) := by decide +kernel
theorem wd_L_takeBack_21 : decode prog_3_method_10_code 21 = .ok (.aload_n 0, 1) := by decide +kernel
theorem wd_L_takeBack_22 : decode prog_3_method_10_code 22 = .ok (.getfield 9, 3) := by decide +kernel
theorem wd_L_takeBack_25 : decode prog_3_method_10_code 25 = .ok (.aload_n 0, 1) := by decide +kernel
theorem wd_L_takeBack_26 : decode prog_3_method_10_code 26 = .ok (.getfield 43, 3) := by decide +kernel
theorem wd_L_takeBack_29 : decode prog_3_method_10_code 29 = .ok (.iaload, 1) := by decide +kernel
theorem wd_L_takeBack_30 : decode prog_3_method_10_code 30 = .ok (.iconst 0, 1) := by decide +kernel
theorem wd_L_takeBack_31 : decode prog_3_method_10_code 31 = .ok (.bastore, 1) := by decide +kernel
theorem wd_L_takeBack_32 : decode prog_3_method_10_code 32 = .ok (.return_, 1) := by decide +kernel
end
section

theorem wd_L_layAll_0 : decode prog_3_method_6_code 0 = .ok (.aload_n 0, 1) := by decide +kernel
theorem wd_L_layAll_1 : decode prog_3_method_6_code 1 = .ok (.invokevirtual 47, 3) := by decide +kernel
theorem wd_L_layAll_4 : decode prog_3_method_6_code 4 = .ok (.iconst 0, 1) := by decide +kernel
theorem wd_L_layAll_5 : decode prog_3_method_6_code 5 = .ok (.istore_n 2, 1) := by decide +kernel
theorem wd_L_layAll_6 : decode prog_3_method_6_code 6 = .ok (.iload_n 2, 1) := by decide +kernel
theorem wd_L_layAll_7 : decode prog_3_method_6_code 7 = .ok (.aload_n 0, 1) := by decide +kernel
theorem wd_L_layAll_8 : decode prog_3_method_6_code 8 = .ok (.getfield 39, 3) := by decide +kernel
theorem wd_L_layAll_11 : decode prog_3_method_6_code 11 = .ok (.getfield 50, 3) := by decide +kernel
theorem wd_L_layAll_14 : decode prog_3_method_6_code 14 = .ok (.if_icmp .ge 28, 3) := by decide +kernel
theorem wd_L_layAll_17 : decode prog_3_method_6_code 17 = .ok (.aload_n 0, 1) := by decide +kernel
theorem wd_L_layAll_18 : decode prog_3_method_6_code 18 = .ok (.aload_n 1, 1) := by decide +kernel
theorem wd_L_layAll_19 : decode prog_3_method_6_code 19 = .ok (.iload_n 2, 1) := by decide +kernel
theorem wd_L_layAll_20 : decode prog_3_method_6_code 20 = .ok (.iaload, 1) := by decide +kernel
theorem wd_L_layAll_21 : decode prog_3_method_6_code 21 = .ok (.invokevirtual 55, 3) := by decide +kernel
theorem wd_L_layAll_24 : decode prog_3_method_6_code 24 = .ok (.ifCond .ne 5, 3) := by decide +kernel
theorem wd_L_layAll_27 : decode prog_3_method_6_code 27 = .ok (.iconst 0, 1) := by decide +kernel
theorem wd_L_layAll_28 : decode prog_3_method_6_code 28 = .ok (.ireturn, 1) := by decide +kernel
theorem wd_L_layAll_29 : decode prog_3_method_6_code 29 = .ok (.aload_n 0, 1) := by decide +kernel
theorem wd_L_layAll_30 : decode prog_3_method_6_code 30 = .ok (.aload_n 1, 1) := by decide +kernel
theorem wd_L_layAll_31 : decode prog_3_method_6_code 31 = .ok (.iload_n 2, 1) := by decide +kernel
theorem wd_L_layAll_32 : decode prog_3_method_6_code 32 = .ok (.iaload, 1) := by decide +kernel
theorem wd_L_layAll_33 : decode prog_3_method_6_code 33 = .ok (.invokevirtual 59, 3) := by decide +kernel
theorem wd_L_layAll_36 : decode prog_3_method_6_code 36 = .ok (.iinc 2 1, 3) := by decide +kernel
theorem wd_L_layAll_39 : decode prog_3_method_6_code 39 = .ok (.goto (-33), 3) := by decide +kernel
theorem wd_L_layAll_42 : decode prog_3_method_6_code 42 = .ok (.iconst 1, 1) := by decide +kernel
theorem wd_L_layAll_43 : decode prog_3_method_6_code 43 = .ok (.ireturn, 1) := by decide +kernel
end
section

theorem wd_S_keepBest_0 : decode prog_5_method_5_code 0 = .ok (.aload_n 0, 1) := by decide +kernel
theorem wd_S_keepBest_1 : decode prog_5_method_5_code 1 = .ok (.iconst 1, 1) := by decide +kernel
theorem wd_S_keepBest_2 : decode prog_5_method_5_code 2 = .ok (.putfield 33, 3) := by decide +kernel
theorem wd_S_keepBest_5 : decode prog_5_method_5_code 5 = .ok (.aload_n 0, 1) := by decide +kernel
theorem wd_S_keepBest_6 : decode prog_5_method_5_code 6 = .ok (.aload_n 0, 1) := by decide +kernel
theorem wd_S_keepBest_7 : decode prog_5_method_5_code 7 = .ok (.getfield 19, 3) := by decide +kernel
theorem wd_S_keepBest_10 : decode prog_5_method_5_code 10 = .ok (.invokevirtual 68, 3) := by decide +kernel
theorem wd_S_keepBest_13 : decode prog_5_method_5_code 13 = .ok (.putfield 30, 3) := by decide +kernel
theorem wd_S_keepBest_16 : decode prog_5_method_5_code 16 = .ok (.aload_n 0, 1) := by decide +kernel
theorem wd_S_keepBest_17 : decode prog_5_method_5_code 17 = .ok (.getfield 19, 3) := by decide +kernel
theorem wd_S_keepBest_20 : decode prog_5_method_5_code 20 = .ok (.getfield 75, 3) := by decide +kernel
theorem wd_S_keepBest_23 : decode prog_5_method_5_code 23 = .ok (.iconst 0, 1) := by decide +kernel
theorem wd_S_keepBest_24 : decode prog_5_method_5_code 24 = .ok (.aload_n 0, 1) := by decide +kernel
theorem wd_S_keepBest_25 : decode prog_5_method_5_code 25 = .ok (.getfield 9, 3) := by decide +kernel
theorem wd_S_keepBest_28 : decode prog_5_method_5_code 28 = .ok (.iconst 0, 1) := by decide +kernel
theorem wd_S_keepBest_29 : decode prog_5_method_5_code 29 = .ok (.aload_n 0, 1) := by decide +kernel
theorem wd_S_keepBest_30 : decode prog_5_method_5_code 30 = .ok (.getfield 15, 3) := by decide +kernel
theorem wd_S_keepBest_33 : decode prog_5_method_5_code 33 = .ok (.getfield 49, 3) := by decide +kernel
theorem wd_S_keepBest_36 : decode prog_5_method_5_code 36 = .ok (.invokestatic 78, 3) := by decide +kernel
theorem wd_S_keepBest_39 : decode prog_5_method_5_code 39 = .ok (.return_, 1) := by decide +kernel
end
section

theorem wd_S_putAndGoOn_0 : decode prog_5_method_4_code 0 = .ok (.aload_n 0, 1) := by decide +kernel
theorem wd_S_putAndGoOn_1 : decode prog_5_method_4_code 1 = .ok (.getfield 23, 3) := by decide +kernel
theorem wd_S_putAndGoOn_4 : decode prog_5_method_4_code 4 = .ok (.ifCond .gt 9, 3) := by decide +kernel
theorem wd_S_putAndGoOn_7 : decode prog_5_method_4_code 7 = .ok (.aload_n 0, 1) := by decide +kernel
theorem wd_S_putAndGoOn_8 : decode prog_5_method_4_code 8 = .ok (.iconst 1, 1) := by decide +kernel
theorem wd_S_putAndGoOn_9 : decode prog_5_method_4_code 9 = .ok (.putfield 37, 3) := by decide +kernel
theorem wd_S_putAndGoOn_12 : decode prog_5_method_4_code 12 = .ok (.return_, 1) := by decide +kernel
theorem wd_S_putAndGoOn_13 : decode prog_5_method_4_code 13 = .ok (.aload_n 0, 1) := by decide +kernel
theorem wd_S_putAndGoOn_14 : decode prog_5_method_4_code 14 = .ok (.dup, 1) := by decide +kernel
theorem wd_S_putAndGoOn_15 : decode prog_5_method_4_code 15 = .ok (.getfield 23, 3) := by decide +kernel
theorem wd_S_putAndGoOn_18 : decode prog_5_method_4_code 18 = .ok (.iconst 1, 1) := by decide +kernel
theorem wd_S_putAndGoOn_19 : decode prog_5_method_4_code 19 = .ok (.isub, 1) := by decide +kernel
theorem wd_S_putAndGoOn_20 : decode prog_5_method_4_code 20 = .ok (.putfield 23, 3) := by decide +kernel
theorem wd_S_putAndGoOn_23 : decode prog_5_method_4_code 23 = .ok (.aload_n 0, 1) := by decide +kernel
theorem wd_S_putAndGoOn_24 : decode prog_5_method_4_code 24 = .ok (.getfield 19, 3) := by decide +kernel
theorem wd_S_putAndGoOn_27 : decode prog_5_method_4_code 27 = .ok (.iload_n 1, 1) := by decide +kernel
theorem wd_S_putAndGoOn_28 : decode prog_5_method_4_code 28 = .ok (.invokevirtual 65, 3) := by decide +kernel
theorem wd_S_putAndGoOn_31 : decode prog_5_method_4_code 31 = .ok (.aload_n 0, 1) := by decide +kernel
theorem wd_S_putAndGoOn_32 : decode prog_5_method_4_code 32 = .ok (.getfield 19, 3) := by decide +kernel
theorem wd_S_putAndGoOn_35 : decode prog_5_method_4_code 35 = .ok (.invokevirtual 68, 3) := by decide +kernel
theorem wd_S_putAndGoOn_38 : decode prog_5_method_4_code 38 = .ok (.aload_n 0, 1) := by decide +kernel
theorem wd_S_putAndGoOn_39 : decode prog_5_method_4_code 39 = .ok (.getfield 30, 3) := by decide +kernel
theorem wd_S_putAndGoOn_42 : decode prog_5_method_4_code 42 = .ok (.if_icmp .ge 10, 3) := by decide +kernel
theorem wd_S_putAndGoOn_45 : decode prog_5_method_4_code 45 = .ok (.aload_n 0, 1) := by decide +kernel
theorem wd_S_putAndGoOn_46 : decode prog_5_method_4_code 46 = .ok (.iload_n 2, 1) := by decide +kernel
theorem wd_S_putAndGoOn_47 : decode prog_5_method_4_code 47 = .ok (.iconst 1, 1) := by decide +kernel
theorem wd_S_putAndGoOn_48 : decode prog_5_method_4_code 48 = .ok (.iadd, 1) := by decide +kernel
theorem wd_S_putAndGoOn_49 : decode prog_5_method_4_code 49 = .ok (.invokevirtual 45, 3) := by decide +kernel
theorem wd_S_putAndGoOn_52 : decode prog_5_method_4_code 52 = .ok (.aload_n 0, 1) := by decide +kernel
theorem wd_S_putAndGoOn_53 : decode prog_5_method_4_code 53 = .ok (.getfield 19, 3) := by decide +kernel
theorem wd_S_putAndGoOn_56 : decode prog_5_method_4_code 56 = .ok (.invokevirtual 72, 3) := by decide +kernel
theorem wd_S_putAndGoOn_59 : decode prog_5_method_4_code 59 = .ok (.return_, 1) := by decide +kernel
end
section

theorem wd_S_goOnAt_0 : decode prog_5_method_3_code 0 = .ok (.iload_n 1, 1) := by decide +kernel
theorem wd_S_goOnAt_1 : decode prog_5_method_3_code 1 = .ok (.aload_n 0, 1) := by decide +kernel
theorem wd_S_goOnAt_2 : decode prog_5_method_3_code 2 = .ok (.getfield 15, 3) := by decide +kernel
theorem wd_S_goOnAt_5 : decode prog_5_method_3_code 5 = .ok (.getfield 49, 3) := by decide +kernel
theorem wd_S_goOnAt_8 : decode prog_5_method_3_code 8 = .ok (.if_icmp .lt 8, 3) := by decide +kernel
theorem wd_S_goOnAt_11 : decode prog_5_method_3_code 11 = .ok (.aload_n 0, 1) := by decide +kernel
theorem wd_S_goOnAt_12 : decode prog_5_method_3_code 12 = .ok (.invokevirtual 54, 3) := by decide +kernel
theorem wd_S_goOnAt_15 : decode prog_5_method_3_code 15 = .ok (.return_, 1) := by decide +kernel
theorem wd_S_goOnAt_16 : decode prog_5_method_3_code 16 = .ok (.iconst 0, 1) := by decide +kernel
theorem wd_S_goOnAt_17 : decode prog_5_method_3_code 17 = .ok (.istore_n 2, 1) := by decide +kernel
theorem wd_S_goOnAt_18 : decode prog_5_method_3_code 18 = .ok (.iload_n 2, 1) := by decide +kernel
theorem wd_S_goOnAt_19 : decode prog_5_method_3_code 19 = .ok (.aload_n 0, 1) := by decide +kernel
theorem wd_S_goOnAt_20 : decode prog_5_method_3_code 20 = .ok (.getfield 15, 3) := by decide +kernel
theorem wd_S_goOnAt_23 : decode prog_5_method_3_code 23 = .ok (.getfield 49, 3) := by decide +kernel
theorem wd_S_goOnAt_26 : decode prog_5_method_3_code 26 = .ok (.if_icmp .ge 33, 3) := by decide +kernel
theorem wd_S_goOnAt_29 : decode prog_5_method_3_code 29 = .ok (.aload_n 0, 1) := by decide +kernel
theorem wd_S_goOnAt_30 : decode prog_5_method_3_code 30 = .ok (.getfield 37, 3) := by decide +kernel
theorem wd_S_goOnAt_33 : decode prog_5_method_3_code 33 = .ok (.ifCond .ne 26, 3) := by decide +kernel
theorem wd_S_goOnAt_36 : decode prog_5_method_3_code 36 = .ok (.aload_n 0, 1) := by decide +kernel
theorem wd_S_goOnAt_37 : decode prog_5_method_3_code 37 = .ok (.getfield 19, 3) := by decide +kernel
theorem wd_S_goOnAt_40 : decode prog_5_method_3_code 40 = .ok (.iload_n 2, 1) := by decide +kernel
theorem wd_S_goOnAt_41 : decode prog_5_method_3_code 41 = .ok (.invokevirtual 57, 3) := by decide +kernel
theorem wd_S_goOnAt_44 : decode prog_5_method_3_code 44 = .ok (.ifCond .eq 9, 3) := by decide +kernel
theorem wd_S_goOnAt_47 : decode prog_5_method_3_code 47 = .ok (.aload_n 0, 1) := by decide +kernel
theorem wd_S_goOnAt_48 : decode prog_5_method_3_code 48 = .ok (.iload_n 2, 1) := by decide +kernel
theorem wd_S_goOnAt_49 : decode prog_5_method_3_code 49 = .ok (.iload_n 1, 1) := by decide +kernel
theorem wd_S_goOnAt_50 : decode prog_5_method_3_code 50 = .ok (.invokevirtual 61, 3) := by decide +kernel
theorem wd_S_goOnAt_53 : decode prog_5_method_3_code 53 = .ok (.iinc 2 1, 3) := by decide +kernel
theorem wd_S_goOnAt_56 : decode prog_5_method_3_code 56 = .ok (.goto (-38), 3) := by decide +kernel
theorem wd_S_goOnAt_59 : decode prog_5_method_3_code 59 = .ok (.return_, 1) := by decide +kernel
end
section

theorem wd_S_searchWith_0 : decode prog_5_method_2_code 0 = .ok (.aload_n 0, 1) := by decide +kernel
theorem wd_S_searchWith_1 : decode prog_5_method_2_code 1 = .ok (.iload_n 1, 1) := by decide +kernel
theorem wd_S_searchWith_2 : decode prog_5_method_2_code 2 = .ok (.putfield 23, 3) := by decide +kernel
theorem wd_S_searchWith_5 : decode prog_5_method_2_code 5 = .ok (.aload_n 0, 1) := by decide +kernel
theorem wd_S_searchWith_6 : decode prog_5_method_2_code 6 = .ok (.ldc 29, 2) := by decide +kernel
theorem wd_S_searchWith_8 : decode prog_5_method_2_code 8 = .ok (.putfield 30, 3) := by decide +kernel
theorem wd_S_searchWith_11 : decode prog_5_method_2_code 11 = .ok (.aload_n 0, 1) := by decide +kernel
theorem wd_S_searchWith_12 : decode prog_5_method_2_code 12 = .ok (.iconst 0, 1) := by decide +kernel
theorem wd_S_searchWith_13 : decode prog_5_method_2_code 13 = .ok (.putfield 33, 3) := by decide +kernel
theorem wd_S_searchWith_16 : decode prog_5_method_2_code 16 = .ok (.aload_n 0, 1) := by decide +kernel
theorem wd_S_searchWith_17 : decode prog_5_method_2_code 17 = .ok (.iconst 0, 1) := by decide +kernel
theorem wd_S_searchWith_18 : decode prog_5_method_2_code 18 = .ok (.putfield 37, 3) := by decide +kernel
theorem wd_S_searchWith_21 : decode prog_5_method_2_code 21 = .ok (.aload_n 0, 1) := by decide +kernel
theorem wd_S_searchWith_22 : decode prog_5_method_2_code 22 = .ok (.getfield 19, 3) := by decide +kernel
theorem wd_S_searchWith_25 : decode prog_5_method_2_code 25 = .ok (.invokevirtual 40, 3) := by decide +kernel
theorem wd_S_searchWith_28 : decode prog_5_method_2_code 28 = .ok (.aload_n 0, 1) := by decide +kernel
theorem wd_S_searchWith_29 : decode prog_5_method_2_code 29 = .ok (.iconst 0, 1) := by decide +kernel
theorem wd_S_searchWith_30 : decode prog_5_method_2_code 30 = .ok (.invokevirtual 45, 3) := by decide +kernel
theorem wd_S_searchWith_33 : decode prog_5_method_2_code 33 = .ok (.return_, 1) := by decide +kernel
end
section

theorem wd_W_isOutside_0 : decode prog_1_method_17_code 0 = .ok (.iload_n 0, 1) := by decide +kernel
theorem wd_W_isOutside_1 : decode prog_1_method_17_code 1 = .ok (.iload_n 1, 1) := by decide +kernel
theorem wd_W_isOutside_2 : decode prog_1_method_17_code 2 = .ok (.if_icmp .lt 8, 3) := by decide +kernel
theorem wd_W_isOutside_5 : decode prog_1_method_17_code 5 = .ok (.iload_n 0, 1) := by decide +kernel
theorem wd_W_isOutside_6 : decode prog_1_method_17_code 6 = .ok (.iload_n 2, 1) := by decide +kernel
theorem wd_W_isOutside_7 : decode prog_1_method_17_code 7 = .ok (.if_icmp .le 7, 3) := by decide +kernel
theorem wd_W_isOutside_10 : decode prog_1_method_17_code 10 = .ok (.iconst 1, 1) := by decide +kernel
theorem wd_W_isOutside_11 : decode prog_1_method_17_code 11 = .ok (.goto 4, 3) := by decide +kernel
theorem wd_W_isOutside_14 : decode prog_1_method_17_code 14 = .ok (.iconst 0, 1) := by decide +kernel
theorem wd_W_isOutside_15 : decode prog_1_method_17_code 15 = .ok (.ireturn, 1) := by decide +kernel
end
section

theorem wd_W_isNoCoil_0 : decode prog_1_method_18_code 0 = .ok (.iload_n 1, 1) := by decide +kernel
theorem wd_W_isNoCoil_1 : decode prog_1_method_18_code 1 = .ok (.ifCond .lt 14, 3) := by decide +kernel
theorem wd_W_isNoCoil_4 : decode prog_1_method_18_code 4 = .ok (.iload_n 1, 1) := by decide +kernel
theorem wd_W_isNoCoil_5 : decode prog_1_method_18_code 5 = .ok (.aload_n 0, 1) := by decide +kernel
theorem wd_W_isNoCoil_6 : decode prog_1_method_18_code 6 = .ok (.getfield 10, 3) := by decide +kernel
theorem wd_W_isNoCoil_9 : decode prog_1_method_18_code 9 = .ok (.getfield 52, 3) := by decide +kernel
theorem wd_W_isNoCoil_12 : decode prog_1_method_18_code 12 = .ok (.if_icmp .lt 7, 3) := by decide +kernel
theorem wd_W_isNoCoil_15 : decode prog_1_method_18_code 15 = .ok (.iconst 1, 1) := by decide +kernel
theorem wd_W_isNoCoil_16 : decode prog_1_method_18_code 16 = .ok (.goto 4, 3) := by decide +kernel
theorem wd_W_isNoCoil_19 : decode prog_1_method_18_code 19 = .ok (.iconst 0, 1) := by decide +kernel
theorem wd_W_isNoCoil_20 : decode prog_1_method_18_code 20 = .ok (.ireturn, 1) := by decide +kernel
end
section

theorem wd_W_forgetOrder_0 : decode prog_1_method_19_code 0 = .ok (.aload_n 0, 1) := by decide +kernel
theorem wd_W_forgetOrder_1 : decode prog_1_method_19_code 1 = .ok (.iconst 0, 1) := by decide +kernel
theorem wd_W_forgetOrder_2 : decode prog_1_method_19_code 2 = .ok (.putfield 154, 3) := by decide +kernel
theorem wd_W_forgetOrder_5 : decode prog_1_method_19_code 5 = .ok (.aload_n 0, 1) := by decide +kernel
theorem wd_W_forgetOrder_6 : decode prog_1_method_19_code 6 = .ok (.iconst 0, 1) := by decide +kernel
theorem wd_W_forgetOrder_7 : decode prog_1_method_19_code 7 = .ok (.putfield 147, 3) := by decide +kernel
theorem wd_W_forgetOrder_10 : decode prog_1_method_19_code 10 = .ok (.return_, 1) := by decide +kernel
end
section

theorem wd_W_requireOrder_0 : decode prog_1_method_20_code 0 = .ok (.aload_n 0, 1) := by decide +kernel
theorem wd_W_requireOrder_1 : decode prog_1_method_20_code 1 = .ok (.getfield 154, 3) := by decide +kernel
theorem wd_W_requireOrder_4 : decode prog_1_method_20_code 4 = .ok (.ifCond .ne 13, 3) := by decide +kernel
theorem wd_W_requireOrder_7 : decode prog_1_method_20_code 7 = .ok (.new 164, 3) := by decide +kernel
theorem wd_W_requireOrder_10 : decode prog_1_method_20_code 10 = .ok (.dup, 1) := by decide +kernel
theorem wd_W_requireOrder_11 : decode prog_1_method_20_code 11 = .ok (.ldc 227, 2) := by decide +kernel
theorem wd_W_requireOrder_13 : decode prog_1_method_20_code 13 = .ok (.invokespecial 168, 3) := by decide +kernel
theorem wd_W_requireOrder_16 : decode prog_1_method_20_code 16 = .ok (.athrow, 1) := by decide +kernel
theorem wd_W_requireOrder_17 : decode prog_1_method_20_code 17 = .ok (.return_, 1) := by decide +kernel
end
section

theorem wd_W_requirePlace_0 : decode prog_1_method_21_code 0 = .ok (.aload_n 0, 1) := by decide +kernel
theorem wd_W_requirePlace_1 : decode prog_1_method_21_code 1 = .ok (.iload_n 1, 1) := by decide +kernel
theorem wd_W_requirePlace_2 : decode prog_1_method_21_code 2 = .ok (.invokevirtual 110, 3) := by decide +kernel
theorem wd_W_requirePlace_5 : decode prog_1_method_21_code 5 = .ok (.ifCond .eq 13, 3) := by decide +kernel
theorem wd_W_requirePlace_8 : decode prog_1_method_21_code 8 = .ok (.new 68, 3) := by decide +kernel
theorem wd_W_requirePlace_11 : decode prog_1_method_21_code 11 = .ok (.dup, 1) := by decide +kernel
theorem wd_W_requirePlace_12 : decode prog_1_method_21_code 12 = .ok (.ldc 229, 2) := by decide +kernel
theorem wd_W_requirePlace_14 : decode prog_1_method_21_code 14 = .ok (.invokespecial 72, 3) := by decide +kernel
theorem wd_W_requirePlace_17 : decode prog_1_method_21_code 17 = .ok (.athrow, 1) := by decide +kernel
theorem wd_W_requirePlace_18 : decode prog_1_method_21_code 18 = .ok (.return_, 1) := by decide +kernel
end
section

theorem wd_W_readIntoScratch_0 : decode prog_1_method_22_code 0 = .ok (.iconst 0, 1) := by decide +kernel
theorem wd_W_readIntoScratch_1 : decode prog_1_method_22_code 1 = .ok (.istore_n 3, 1) := by decide +kernel
theorem wd_W_readIntoScratch_2 : decode prog_1_method_22_code 2 = .ok (.iconst 0, 1) := by decide +kernel
theorem wd_W_readIntoScratch_3 : decode prog_1_method_22_code 3 = .ok (.istore 4, 2) := by decide +kernel
theorem wd_W_readIntoScratch_5 : decode prog_1_method_22_code 5 = .ok (.iload 4, 2) := by decide +kernel
theorem wd_W_readIntoScratch_7 : decode prog_1_method_22_code 7 = .ok (.aload_n 0, 1) := by decide +kernel
theorem wd_W_readIntoScratch_8 : decode prog_1_method_22_code 8 = .ok (.getfield 10, 3) := by decide +kernel
theorem wd_W_readIntoScratch_11 : decode prog_1_method_22_code 11 = .ok (.getfield 52, 3) := by decide +kernel
theorem wd_W_readIntoScratch_14 : decode prog_1_method_22_code 14 = .ok (.if_icmp .ge 58, 3) := by decide +kernel
theorem wd_W_readIntoScratch_17 : decode prog_1_method_22_code 17 = .ok (.lload_n 1, 1) := by decide +kernel
theorem wd_W_readIntoScratch_18 : decode prog_1_method_22_code 18 = .ok (.iconst 4, 1) := by decide +kernel
theorem wd_W_readIntoScratch_19 : decode prog_1_method_22_code 19 = .ok (.iload 4, 2) := by decide +kernel
theorem wd_W_readIntoScratch_21 : decode prog_1_method_22_code 21 = .ok (.imul, 1) := by decide +kernel
theorem wd_W_readIntoScratch_22 : decode prog_1_method_22_code 22 = .ok (.lushr, 1) := by decide +kernel
theorem wd_W_readIntoScratch_23 : decode prog_1_method_22_code 23 = .ok (.l2i, 1) := by decide +kernel
theorem wd_W_readIntoScratch_24 : decode prog_1_method_22_code 24 = .ok (.bipush 15, 2) := by decide +kernel
theorem wd_W_readIntoScratch_26 : decode prog_1_method_22_code 26 = .ok (.iand, 1) := by decide +kernel
theorem wd_W_readIntoScratch_27 : decode prog_1_method_22_code 27 = .ok (.istore 5, 2) := by decide +kernel
theorem wd_W_readIntoScratch_29 : decode prog_1_method_22_code 29 = .ok (.aload_n 0, 1) := by decide +kernel
theorem wd_W_readIntoScratch_30 : decode prog_1_method_22_code 30 = .ok (.iload 5, 2) := by decide +kernel
theorem wd_W_readIntoScratch_32 : decode prog_1_method_22_code 32 = .ok (.invokevirtual 110, 3) := by decide +kernel
theorem wd_W_readIntoScratch_35 : decode prog_1_method_22_code 35 = .ok (.ifCond .ne 13, 3) := by decide +kernel
theorem wd_W_readIntoScratch_38 : decode prog_1_method_22_code 38 = .ok (.iload_n 3, 1) := by decide +kernel
theorem wd_W_readIntoScratch_39 : decode prog_1_method_22_code 39 = .ok (.iload 5, 2) := by decide +kernel
theorem wd_W_readIntoScratch_41 : decode prog_1_method_22_code 41 = .ok (.ishr, 1) := by decide +kernel
theorem wd_W_readIntoScratch_42 : decode prog_1_method_22_code 42 = .ok (.iconst 1, 1) := by decide +kernel
theorem wd_W_readIntoScratch_43 : decode prog_1_method_22_code 43 = .ok (.iand, 1) := by decide +kernel
theorem wd_W_readIntoScratch_44 : decode prog_1_method_22_code 44 = .ok (.iconst 1, 1) := by decide +kernel
theorem wd_W_readIntoScratch_45 : decode prog_1_method_22_code 45 = .ok (.if_icmp .ne 5, 3) := by decide +kernel
theorem wd_W_readIntoScratch_48 : decode prog_1_method_22_code 48 = .ok (.iconst 0, 1) := by decide +kernel
theorem wd_W_readIntoScratch_49 : decode prog_1_method_22_code 49 = .ok (.ireturn, 1) := by decide +kernel
theorem wd_W_readIntoScratch_50 : decode prog_1_method_22_code 50 = .ok (.iload_n 3, 1) := by decide +kernel
theorem wd_W_readIntoScratch_51 : decode prog_1_method_22_code 51 = .ok (.iconst 1, 1) := by decide +kernel
theorem wd_W_readIntoScratch_52 : decode prog_1_method_22_code 52 = .ok (.iload 5, 2) := by decide +kernel
theorem wd_W_readIntoScratch_54 : decode prog_1_method_22_code 54 = .ok (.ishl, 1) := by decide +kernel
theorem wd_W_readIntoScratch_55 : decode prog_1_method_22_code 55 = .ok (.ior, 1) := by decide +kernel
theorem wd_W_readIntoScratch_56 : decode prog_1_method_22_code 56 = .ok (.istore_n 3, 1) := by decide +kernel
theorem wd_W_readIntoScratch_57 : decode prog_1_method_22_code 57 = .ok (.aload_n 0, 1) := by decide +kernel
theorem wd_W_readIntoScratch_58 : decode prog_1_method_22_code 58 = .ok (.getfield 37, 3) := by decide +kernel
theorem wd_W_readIntoScratch_61 : decode prog_1_method_22_code 61 = .ok (.iload 4, 2) := by decide +kernel
theorem wd_W_readIntoScratch_63 : decode prog_1_method_22_code 63 = .ok (.iload 5, 2) := by decide +kernel
theorem wd_W_readIntoScratch_65 : decode prog_1_method_22_code 65 = .ok (.iastore, 1) := by decide +kernel
theorem wd_W_readIntoScratch_66 : decode prog_1_method_22_code 66 = .ok (.iinc 4 1, 3) := by decide +kernel
theorem wd_W_readIntoScratch_69 : decode prog_1_method_22_code 69 = .ok (.goto (-64), 3) := by decide +kernel
theorem wd_W_readIntoScratch_72 : decode prog_1_method_22_code 72 = .ok (.iconst 1, 1) := by decide +kernel
theorem wd_W_readIntoScratch_73 : decode prog_1_method_22_code 73 = .ok (.ireturn, 1) := by decide +kernel
end
section

theorem wd_W_takePairIfBetter_0 : decode prog_1_method_24_code 0 = .ok (.aload_n 0, 1) := by decide +kernel
theorem wd_W_takePairIfBetter_1 : decode prog_1_method_24_code 1 = .ok (.getfield 25, 3) := by decide +kernel
theorem wd_W_takePairIfBetter_4 : decode prog_1_method_24_code 4 = .ok (.getfield 178, 3) := by decide +kernel
theorem wd_W_takePairIfBetter_7 : decode prog_1_method_24_code 7 = .ok (.iconst 0, 1) := by decide +kernel
theorem wd_W_takePairIfBetter_8 : decode prog_1_method_24_code 8 = .ok (.aload_n 0, 1) := by decide +kernel
theorem wd_W_takePairIfBetter_9 : decode prog_1_method_24_code 9 = .ok (.getfield 37, 3) := by decide +kernel
theorem wd_W_takePairIfBetter_12 : decode prog_1_method_24_code 12 = .ok (.iconst 0, 1) := by decide +kernel
theorem wd_W_takePairIfBetter_13 : decode prog_1_method_24_code 13 = .ok (.aload_n 0, 1) := by decide +kernel
theorem wd_W_takePairIfBetter_14 : decode prog_1_method_24_code 14 = .ok (.getfield 10, 3) := by decide +kernel
theorem wd_W_takePairIfBetter_17 : decode prog_1_method_24_code 17 = .ok (.getfield 52, 3) := by decide +kernel
theorem wd_W_takePairIfBetter_20 : decode prog_1_method_24_code 20 = .ok (.invokestatic 235, 3) := by decide +kernel
theorem wd_W_takePairIfBetter_23 : decode prog_1_method_24_code 23 = .ok (.aload_n 0, 1) := by decide +kernel
theorem wd_W_takePairIfBetter_24 : decode prog_1_method_24_code 24 = .ok (.getfield 37, 3) := by decide +kernel
theorem wd_W_takePairIfBetter_27 : decode prog_1_method_24_code 27 = .ok (.iload_n 1, 1) := by decide +kernel
theorem wd_W_takePairIfBetter_28 : decode prog_1_method_24_code 28 = .ok (.aload_n 0, 1) := by decide +kernel
theorem wd_W_takePairIfBetter_29 : decode prog_1_method_24_code 29 = .ok (.getfield 25, 3) := by decide +kernel
theorem wd_W_takePairIfBetter_32 : decode prog_1_method_24_code 32 = .ok (.getfield 178, 3) := by decide +kernel
theorem wd_W_takePairIfBetter_35 : decode prog_1_method_24_code 35 = .ok (.iload_n 2, 1) := by decide +kernel
theorem wd_W_takePairIfBetter_36 : decode prog_1_method_24_code 36 = .ok (.iaload, 1) := by decide +kernel
theorem wd_W_takePairIfBetter_37 : decode prog_1_method_24_code 37 = .ok (.iastore, 1) := by decide +kernel
theorem wd_W_takePairIfBetter_38 : decode prog_1_method_24_code 38 = .ok (.aload_n 0, 1) := by decide +kernel
theorem wd_W_takePairIfBetter_39 : decode prog_1_method_24_code 39 = .ok (.getfield 37, 3) := by decide +kernel
theorem wd_W_takePairIfBetter_42 : decode prog_1_method_24_code 42 = .ok (.iload_n 2, 1) := by decide +kernel
theorem wd_W_takePairIfBetter_43 : decode prog_1_method_24_code 43 = .ok (.aload_n 0, 1) := by decide +kernel
theorem wd_W_takePairIfBetter_44 : decode prog_1_method_24_code 44 = .ok (.getfield 25, 3) := by decide +kernel
theorem wd_W_takePairIfBetter_47 : decode prog_1_method_24_code 47 = .ok (.getfield 178, 3) := by decide +kernel
theorem wd_W_takePairIfBetter_50 : decode prog_1_method_24_code 50 = .ok (.iload_n 1, 1) := by decide +kernel
theorem wd_W_takePairIfBetter_51 : decode prog_1_method_24_code 51 = .ok (.iaload, 1) := by decide +kernel
theorem wd_W_takePairIfBetter_52 : decode prog_1_method_24_code 52 = .ok (.iastore, 1) := by decide +kernel
theorem wd_W_takePairIfBetter_53 : decode prog_1_method_24_code 53 = .ok (.aload_n 0, 1) := by decide +kernel
theorem wd_W_takePairIfBetter_54 : decode prog_1_method_24_code 54 = .ok (.getfield 21, 3) := by decide +kernel
theorem wd_W_takePairIfBetter_57 : decode prog_1_method_24_code 57 = .ok (.aload_n 0, 1) := by decide +kernel
theorem wd_W_takePairIfBetter_58 : decode prog_1_method_24_code 58 = .ok (.getfield 37, 3) := by decide +kernel
theorem wd_W_takePairIfBetter_61 : decode prog_1_method_24_code 61 = .ok (.invokevirtual 160, 3) := by decide +kernel
theorem wd_W_takePairIfBetter_64 : decode prog_1_method_24_code 64 = .ok (.ifCond .eq 20, 3) := by decide +kernel
theorem wd_W_takePairIfBetter_67 : decode prog_1_method_24_code 67 = .ok (.aload_n 0, 1) := by decide +kernel
theorem wd_W_takePairIfBetter_68 : decode prog_1_method_24_code 68 = .ok (.getfield 21, 3) := by decide +kernel
theorem wd_W_takePairIfBetter_71 : decode prog_1_method_24_code 71 = .ok (.invokevirtual 183, 3) := by decide +kernel
theorem wd_W_takePairIfBetter_74 : decode prog_1_method_24_code 74 = .ok (.aload_n 0, 1) := by decide +kernel
theorem wd_W_takePairIfBetter_75 : decode prog_1_method_24_code 75 = .ok (.getfield 25, 3) := by decide +kernel
theorem wd_W_takePairIfBetter_78 : decode prog_1_method_24_code 78 = .ok (.invokevirtual 183, 3) := by decide +kernel
theorem wd_W_takePairIfBetter_81 : decode prog_1_method_24_code 81 = .ok (.if_icmp .lt 5, 3) := by decide +kernel
theorem wd_W_takePairIfBetter_84 : decode prog_1_method_24_code 84 = .ok (.iconst 0, 1) := by decide +kernel
theorem wd_W_takePairIfBetter_85 : decode prog_1_method_24_code 85 = .ok (.ireturn, 1) := by decide +kernel
theorem wd_W_takePairIfBetter_86 : decode prog_1_method_24_code 86 = .ok (.aload_n 0, 1) := by decide +kernel
theorem wd_W_takePairIfBetter_87 : decode prog_1_method_24_code 87 = .ok (.getfield 25, 3) := by decide +kernel
theorem wd_W_takePairIfBetter_90 : decode prog_1_method_24_code 90 = .ok (.aload_n 0, 1) := by decide +kernel
theorem wd_W_takePairIfBetter_91 : decode prog_1_method_24_code 91 = .ok (.getfield 37, 3) := by decide +kernel
theorem wd_W_takePairIfBetter_94 : decode prog_1_method_24_code 94 = .ok (.invokevirtual 160, 3) := by decide +kernel
theorem wd_W_takePairIfBetter_97 : decode prog_1_method_24_code 97 = .ok (.pop, 1) := by decide +kernel
theorem wd_W_takePairIfBetter_98 : decode prog_1_method_24_code 98 = .ok (.iconst 1, 1) := by decide +kernel
theorem wd_W_takePairIfBetter_99 : decode prog_1_method_24_code 99 = .ok (.ireturn, 1) := by decide +kernel
end
section

theorem wd_W_takeFirstBetterPair_0 : decode prog_1_method_23_code 0 = .ok (.iconst 0, 1) := by decide +kernel
theorem wd_W_takeFirstBetterPair_1 : decode prog_1_method_23_code 1 = .ok (.istore_n 1, 1) := by decide +kernel
theorem wd_W_takeFirstBetterPair_2 : decode prog_1_method_23_code 2 = .ok (.iload_n 1, 1) := by decide +kernel
theorem wd_W_takeFirstBetterPair_3 : decode prog_1_method_23_code 3 = .ok (.aload_n 0, 1) := by decide +kernel
theorem wd_W_takeFirstBetterPair_4 : decode prog_1_method_23_code 4 = .ok (.getfield 10, 3) := by decide +kernel
theorem wd_W_takeFirstBetterPair_7 : decode prog_1_method_23_code 7 = .ok (.getfield 52, 3) := by decide +kernel
theorem wd_W_takeFirstBetterPair_10 : decode prog_1_method_23_code 10 = .ok (.if_icmp .ge 41, 3) := by decide +kernel
theorem wd_W_takeFirstBetterPair_13 : decode prog_1_method_23_code 13 = .ok (.iload_n 1, 1) := by decide +kernel
theorem wd_W_takeFirstBetterPair_14 : decode prog_1_method_23_code 14 = .ok (.iconst 1, 1) := by decide +kernel
theorem wd_W_takeFirstBetterPair_15 : decode prog_1_method_23_code 15 = .ok (.iadd, 1) := by decide +kernel
theorem wd_W_takeFirstBetterPair_16 : decode prog_1_method_23_code 16 = .ok (.istore_n 2, 1) := by decide +kernel
theorem wd_W_takeFirstBetterPair_17 : decode prog_1_method_23_code 17 = .ok (.iload_n 2, 1) := by decide +kernel
theorem wd_W_takeFirstBetterPair_18 : decode prog_1_method_23_code 18 = .ok (.aload_n 0, 1) := by decide +kernel
theorem wd_W_takeFirstBetterPair_19 : decode prog_1_method_23_code 19 = .ok (.getfield 10, 3) := by decide +kernel
theorem wd_W_takeFirstBetterPair_22 : decode prog_1_method_23_code 22 = .ok (.getfield 52, 3) := by decide +kernel
theorem wd_W_takeFirstBetterPair_25 : decode prog_1_method_23_code 25 = .ok (.if_icmp .ge 20, 3) := by decide +kernel
theorem wd_W_takeFirstBetterPair_28 : decode prog_1_method_23_code 28 = .ok (.aload_n 0, 1) := by decide +kernel
theorem wd_W_takeFirstBetterPair_29 : decode prog_1_method_23_code 29 = .ok (.iload_n 1, 1) := by decide +kernel
theorem wd_W_takeFirstBetterPair_30 : decode prog_1_method_23_code 30 = .ok (.iload_n 2, 1) := by decide +kernel
theorem wd_W_takeFirstBetterPair_31 : decode prog_1_method_23_code 31 = .ok (.invokevirtual 231, 3) := by decide +kernel
theorem wd_W_takeFirstBetterPair_34 : decode prog_1_method_23_code 34 = .ok (.ifCond .eq 5, 3) := by decide +kernel
theorem wd_W_takeFirstBetterPair_37 : decode prog_1_method_23_code 37 = .ok (.iconst 1, 1) := by decide +kernel
theorem wd_W_takeFirstBetterPair_38 : decode prog_1_method_23_code 38 = .ok (.ireturn, 1) := by decide +kernel
theorem wd_W_takeFirstBetterPair_39 : decode prog_1_method_23_code 39 = .ok (.iinc 2 1, 3) := by decide +kernel
theorem wd_W_takeFirstBetterPair_42 : decode prog_1_method_23_code 42 = .ok (.goto (-25), 3) := by decide +kernel
theorem wd_W_takeFirstBetterPair_45 : decode prog_1_method_23_code 45 = .ok (.iinc 1 1, 3) := by decide +kernel
theorem wd_W_takeFirstBetterPair_48 : decode prog_1_method_23_code 48 = .ok (.goto (-46), 3) := by decide +kernel
theorem wd_W_takeFirstBetterPair_51 : decode prog_1_method_23_code 51 = .ok (.iconst 0, 1) := by decide +kernel
theorem wd_W_takeFirstBetterPair_52 : decode prog_1_method_23_code 52 = .ok (.ireturn, 1) := by decide +kernel
end
