section

theorem wd_J_init_0 : decode prog_2_method_1_code 0 = .ok (.aload_n 0, 1) := by decide +kernel
theorem wd_J_init_1 : decode prog_2_method_1_code 1 = .ok (.invokespecial 3, 3) := by decide +kernel
theorem wd_J_init_4 : decode prog_2_method_1_code 4 = .ok (.aload_n 0, 1) := by decide +kernel
theorem wd_J_init_5 : decode prog_2_method_1_code 5 = .ok (.bipush 8, 2) := by decide +kernel
theorem wd_J_init_7 : decode prog_2_method_1_code 7 = .ok (.newarray .int, 2) := by decide +kernel
theorem wd_J_init_9 : decode prog_2_method_1_code 9 = .ok (.putfield 9, 3) := by decide +kernel
theorem wd_J_init_12 : decode prog_2_method_1_code 12 = .ok (.aload_n 0, 1) := by decide +kernel
theorem wd_J_init_13 : decode prog_2_method_1_code 13 = .ok (.bipush 8, 2) := by decide +kernel
theorem wd_J_init_15 : decode prog_2_method_1_code 15 = .ok (.newarray .int, 2) := by decide +kernel
theorem wd_J_init_17 : decode prog_2_method_1_code 17 = .ok (.putfield 15, 3) := by decide +kernel
theorem wd_J_init_20 : decode prog_2_method_1_code 20 = .ok (.aload_n 0, 1) := by decide +kernel
theorem wd_J_init_21 : decode prog_2_method_1_code 21 = .ok (.bipush 8, 2) := by decide +kernel
theorem wd_J_init_23 : decode prog_2_method_1_code 23 = .ok (.newarray .int, 2) := by decide +kernel
theorem wd_J_init_25 : decode prog_2_method_1_code 25 = .ok (.putfield 18, 3) := by decide +kernel
theorem wd_J_init_28 : decode prog_2_method_1_code 28 = .ok (.return_, 1) := by decide +kernel
end
section

theorem wd_G_init_0 : decode prog_6_method_1_code 0 = .ok (.aload_n 0, 1) := by decide +kernel
theorem wd_G_init_1 : decode prog_6_method_1_code 1 = .ok (.invokespecial 3, 3) := by decide +kernel
theorem wd_G_init_4 : decode prog_6_method_1_code 4 = .ok (.aload_n 0, 1) := by decide +kernel
theorem wd_G_init_5 : decode prog_6_method_1_code 5 = .ok (.iconst 4, 1) := by decide +kernel
theorem wd_G_init_6 : decode prog_6_method_1_code 6 = .ok (.newarray .int, 2) := by decide +kernel
theorem wd_G_init_8 : decode prog_6_method_1_code 8 = .ok (.putfield 9, 3) := by decide +kernel
theorem wd_G_init_11 : decode prog_6_method_1_code 11 = .ok (.aload_n 0, 1) := by decide +kernel
theorem wd_G_init_12 : decode prog_6_method_1_code 12 = .ok (.iconst 4, 1) := by decide +kernel
theorem wd_G_init_13 : decode prog_6_method_1_code 13 = .ok (.newarray .int, 2) := by decide +kernel
theorem wd_G_init_15 : decode prog_6_method_1_code 15 = .ok (.putfield 15, 3) := by decide +kernel
theorem wd_G_init_18 : decode prog_6_method_1_code 18 = .ok (.aload_n 0, 1) := by decide +kernel
theorem wd_G_init_19 : decode prog_6_method_1_code 19 = .ok (.iconst 4, 1) := by decide +kernel
theorem wd_G_init_20 : decode prog_6_method_1_code 20 = .ok (.newarray .int, 2) := by decide +kernel
theorem wd_G_init_22 : decode prog_6_method_1_code 22 = .ok (.putfield 18, 3) := by decide +kernel
theorem wd_G_init_25 : decode prog_6_method_1_code 25 = .ok (.return_, 1) := by decide +kernel
end
section

theorem wd_P_init_0 : decode prog_4_method_1_code 0 = .ok (.aload_n 0, 1) := by decide +kernel
theorem wd_P_init_1 : decode prog_4_method_1_code 1 = .ok (.invokespecial 3, 3) := by decide +kernel
theorem wd_P_init_4 : decode prog_4_method_1_code 4 = .ok (.aload_n 0, 1) := by decide +kernel
theorem wd_P_init_5 : decode prog_4_method_1_code 5 = .ok (.bipush 9, 2) := by decide +kernel
theorem wd_P_init_7 : decode prog_4_method_1_code 7 = .ok (.newarray .int, 2) := by decide +kernel
theorem wd_P_init_9 : decode prog_4_method_1_code 9 = .ok (.putfield 9, 3) := by decide +kernel
theorem wd_P_init_12 : decode prog_4_method_1_code 12 = .ok (.aload_n 0, 1) := by decide +kernel
theorem wd_P_init_13 : decode prog_4_method_1_code 13 = .ok (.bipush 9, 2) := by decide +kernel
theorem wd_P_init_15 : decode prog_4_method_1_code 15 = .ok (.newarray .int, 2) := by decide +kernel
theorem wd_P_init_17 : decode prog_4_method_1_code 17 = .ok (.putfield 15, 3) := by decide +kernel
theorem wd_P_init_20 : decode prog_4_method_1_code 20 = .ok (.aload_n 0, 1) := by decide +kernel
theorem wd_P_init_21 : decode prog_4_method_1_code 21 = .ok (.bipush 9, 2) := by decide +kernel
theorem wd_P_init_23 : decode prog_4_method_1_code 23 = .ok (.newarray .int, 2) := by decide +kernel
theorem wd_P_init_25 : decode prog_4_method_1_code 25 = .ok (.putfield 18, 3) := by decide +kernel
theorem wd_P_init_28 : decode prog_4_method_1_code 28 = .ok (.aload_n 0, 1) := by decide +kernel
theorem wd_P_init_29 : decode prog_4_method_1_code 29 = .ok (.bipush 9, 2) := by decide +kernel
theorem wd_P_init_31 : decode prog_4_method_1_code 31 = .ok (.newarray .int, 2) := by decide +kernel
theorem wd_P_init_33 : decode prog_4_method_1_code 33 = .ok (.putfield 21, 3) := by decide +kernel
theorem wd_P_init_36 : decode prog_4_method_1_code 36 = .ok (.aload_n 0, 1) := by decide +kernel
theorem wd_P_init_37 : decode prog_4_method_1_code 37 = .ok (.bipush 9, 2) := by decide +kernel
theorem wd_P_init_39 : decode prog_4_method_1_code 39 = .ok (.newarray .int, 2) := by decide +kernel
theorem wd_P_init_41 : decode prog_4_method_1_code 41 = .ok (.putfield 24, 3) := by decide +kernel
theorem wd_P_init_44 : decode prog_4_method_1_code 44 = .ok (.aload_n 0, 1) := by decide +kernel
theorem wd_P_init_45 : decode prog_4_method_1_code 45 = .ok (.bipush 9, 2) := by decide +kernel
theorem wd_P_init_47 : decode prog_4_method_1_code 47 = .ok (.newarray .int, 2) := by decide +kernel
theorem wd_P_init_49 : decode prog_4_method_1_code 49 = .ok (.putfield 27, 3) := by decide +kernel
theorem wd_P_init_52 : decode prog_4_method_1_code 52 = .ok (.aload_n 0, 1) := by decide +kernel
theorem wd_P_init_53 : decode prog_4_method_1_code 53 = .ok (.bipush 9, 2) := by decide +kernel
theorem wd_P_init_55 : decode prog_4_method_1_code 55 = .ok (.bipush 9, 2) := by decide +kernel
theorem wd_P_init_57 : decode prog_4_method_1_code 57 = .ok (.multianewarray 30 2, 4) := by decide +kernel
theorem wd_P_init_61 : decode prog_4_method_1_code 61 = .ok (.putfield 32, 3) := by decide +kernel
theorem wd_P_init_64 : decode prog_4_method_1_code 64 = .ok (.aload_n 0, 1) := by decide +kernel
theorem wd_P_init_65 : decode prog_4_method_1_code 65 = .ok (.new 35, 3) := by decide +kernel
theorem wd_P_init_68 : decode prog_4_method_1_code 68 = .ok (.dup, 1) := by decide +kernel
theorem wd_P_init_69 : decode prog_4_method_1_code 69 = .ok (.invokespecial 37, 3) := by decide +kernel
theorem wd_P_init_72 : decode prog_4_method_1_code 72 = .ok (.putfield 38, 3) := by decide +kernel
theorem wd_P_init_75 : decode prog_4_method_1_code 75 = .ok (.aload_n 0, 1) := by decide +kernel
theorem wd_P_init_76 : decode prog_4_method_1_code 76 = .ok (.new 35, 3) := by decide +kernel
theorem wd_P_init_79 : decode prog_4_method_1_code 79 = .ok (.dup, 1) := by decide +kernel
theorem wd_P_init_80 : decode prog_4_method_1_code 80 = .ok (.invokespecial 37, 3) := by decide +kernel
theorem wd_P_init_83 : decode prog_4_method_1_code 83 = .ok (.putfield 42, 3) := by decide +kernel
theorem wd_P_init_86 : decode prog_4_method_1_code 86 = .ok (.aload_n 0, 1) := by decide +kernel
theorem wd_P_init_87 : decode prog_4_method_1_code 87 = .ok (.new 45, 3) := by decide +kernel
theorem wd_P_init_90 : decode prog_4_method_1_code 90 = .ok (.dup, 1) := by decide +kernel
theorem wd_P_init_91 : decode prog_4_method_1_code 91 = .ok (.invokespecial 47, 3) := by decide +kernel
theorem wd_P_init_94 : decode prog_4_method_1_code 94 = .ok (.putfield 48, 3) := by decide +kernel
theorem wd_P_init_97 : decode prog_4_method_1_code 97 = .ok (.aload_n 0, 1) := by decide +kernel
theorem wd_P_init_98 : decode prog_4_method_1_code 98 = .ok (.iconst 2, 1) := by decide +kernel
theorem wd_P_init_99 : decode prog_4_method_1_code 99 = .ok (.putfield 52, 3) := by decide +kernel
theorem wd_P_init_102 : decode prog_4_method_1_code 102 = .ok (.aload_n 0, 1) := by decide +kernel
theorem wd_P_init_103 : decode prog_4_method_1_code 103 = .ok (.sipush 1000, 3) := by decide +kernel
theorem wd_P_init_106 : decode prog_4_method_1_code 106 = .ok (.putfield 56, 3) := by decide +kernel
theorem wd_P_init_109 : decode prog_4_method_1_code 109 = .ok (.aload_n 0, 1) := by decide +kernel
theorem wd_P_init_110 : decode prog_4_method_1_code 110 = .ok (.bipush 100, 2) := by decide +kernel
theorem wd_P_init_112 : decode prog_4_method_1_code 112 = .ok (.putfield 59, 3) := by decide +kernel
theorem wd_P_init_115 : decode prog_4_method_1_code 115 = .ok (.return_, 1) := by decide +kernel
end
section

theorem wd_L_init_0 : decode prog_3_method_1_code 0 = .ok (.aload_n 0, 1) := by decide +kernel
theorem wd_L_init_1 : decode prog_3_method_1_code 1 = .ok (.invokespecial 3, 3) := by decide +kernel
theorem wd_L_init_4 : decode prog_3_method_1_code 4 = .ok (.aload_n 0, 1) := by decide +kernel
theorem wd_L_init_5 : decode prog_3_method_1_code 5 = .ok (.bipush 9, 2) := by decide +kernel
theorem wd_L_init_7 : decode prog_3_method_1_code 7 = .ok (.newarray .int, 2) := by decide +kernel
theorem wd_L_init_9 : decode prog_3_method_1_code 9 = .ok (.putfield 9, 3) := by decide +kernel
theorem wd_L_init_12 : decode prog_3_method_1_code 12 = .ok (.aload_n 0, 1) := by decide +kernel
theorem wd_L_init_13 : decode prog_3_method_1_code 13 = .ok (.bipush 9, 2) := by decide +kernel
theorem wd_L_init_15 : decode prog_3_method_1_code 15 = .ok (.newarray .boolean, 2) := by decide +kernel
theorem wd_L_init_17 : decode prog_3_method_1_code 17 = .ok (.putfield 15, 3) := by decide +kernel
theorem wd_L_init_20 : decode prog_3_method_1_code 20 = .ok (.aload_n 0, 1) := by decide +kernel
theorem wd_L_init_21 : decode prog_3_method_1_code 21 = .ok (.bipush 9, 2) := by decide +kernel
theorem wd_L_init_23 : decode prog_3_method_1_code 23 = .ok (.newarray .boolean, 2) := by decide +kernel
theorem wd_L_init_25 : decode prog_3_method_1_code 25 = .ok (.putfield 19, 3) := by decide +kernel
theorem wd_L_init_28 : decode prog_3_method_1_code 28 = .ok (.aload_n 0, 1) := by decide +kernel
theorem wd_L_init_29 : decode prog_3_method_1_code 29 = .ok (.bipush 10, 2) := by decide +kernel
theorem wd_L_init_31 : decode prog_3_method_1_code 31 = .ok (.newarray .int, 2) := by decide +kernel
theorem wd_L_init_33 : decode prog_3_method_1_code 33 = .ok (.putfield 22, 3) := by decide +kernel
theorem wd_L_init_36 : decode prog_3_method_1_code 36 = .ok (.aload_n 0, 1) := by decide +kernel
theorem wd_L_init_37 : decode prog_3_method_1_code 37 = .ok (.bipush 10, 2) := by decide +kernel
theorem wd_L_init_39 : decode prog_3_method_1_code 39 = .ok (.newarray .int, 2) := by decide +kernel
theorem wd_L_init_41 : decode prog_3_method_1_code 41 = .ok (.putfield 25, 3) := by decide +kernel
theorem wd_L_init_44 : decode prog_3_method_1_code 44 = .ok (.aload_n 0, 1) := by decide +kernel
theorem wd_L_init_45 : decode prog_3_method_1_code 45 = .ok (.bipush 10, 2) := by decide +kernel
theorem wd_L_init_47 : decode prog_3_method_1_code 47 = .ok (.newarray .int, 2) := by decide +kernel
theorem wd_L_init_49 : decode prog_3_method_1_code 49 = .ok (.putfield 28, 3) := by decide +kernel
theorem wd_L_init_52 : decode prog_3_method_1_code 52 = .ok (.aload_n 0, 1) := by decide +kernel
theorem wd_L_init_53 : decode prog_3_method_1_code 53 = .ok (.bipush 10, 2) := by decide +kernel
theorem wd_L_init_55 : decode prog_3_method_1_code 55 = .ok (.newarray .int, 2) := by decide +kernel
theorem wd_L_init_57 : decode prog_3_method_1_code 57 = .ok (.putfield 31, 3) := by decide +kernel
theorem wd_L_init_60 : decode prog_3_method_1_code 60 = .ok (.aload_n 0, 1) := by decide +kernel
theorem wd_L_init_61 : decode prog_3_method_1_code 61 = .ok (.bipush 10, 2) := by decide +kernel
theorem wd_L_init_63 : decode prog_3_method_1_code 63 = .ok (.iconst 4, 1) := by decide +kernel
theorem wd_L_init_64 : decode prog_3_method_1_code 64 = .ok (.multianewarray 34 2, 4) := by decide +kernel
theorem wd_L_init_68 : decode prog_3_method_1_code 68 = .ok (.putfield 36, 3) := by decide +kernel
theorem wd_L_init_71 : decode prog_3_method_1_code 71 = .ok (.aload_n 0, 1) := by decide +kernel
theorem wd_L_init_72 : decode prog_3_method_1_code 72 = .ok (.aload_n 1, 1) := by decide +kernel
theorem wd_L_init_73 : decode prog_3_method_1_code 73 = .ok (.putfield 39, 3) := by decide +kernel
theorem wd_L_init_76 : decode prog_3_method_1_code 76 = .ok (.return_, 1) := by decide +kernel
end
section

theorem wd_S_init_0 : decode prog_5_method_1_code 0 = .ok (.aload_n 0, 1) := by decide +kernel
theorem wd_S_init_1 : decode prog_5_method_1_code 1 = .ok (.invokespecial 3, 3) := by decide +kernel
theorem wd_S_init_4 : decode prog_5_method_1_code 4 = .ok (.aload_n 0, 1) := by decide +kernel
theorem wd_S_init_5 : decode prog_5_method_1_code 5 = .ok (.bipush 9, 2) := by decide +kernel
theorem wd_S_init_7 : decode prog_5_method_1_code 7 = .ok (.newarray .int, 2) := by decide +kernel
theorem wd_S_init_9 : decode prog_5_method_1_code 9 = .ok (.putfield 9, 3) := by decide +kernel
theorem wd_S_init_12 : decode prog_5_method_1_code 12 = .ok (.aload_n 0, 1) := by decide +kernel
theorem wd_S_init_13 : decode prog_5_method_1_code 13 = .ok (.aload_n 1, 1) := by decide +kernel
theorem wd_S_init_14 : decode prog_5_method_1_code 14 = .ok (.putfield 15, 3) := by decide +kernel
theorem wd_S_init_17 : decode prog_5_method_1_code 17 = .ok (.aload_n 0, 1) := by decide +kernel
theorem wd_S_init_18 : decode prog_5_method_1_code 18 = .ok (.aload_n 2, 1) := by decide +kernel
theorem wd_S_init_19 : decode prog_5_method_1_code 19 = .ok (.putfield 19, 3) := by decide +kernel
theorem wd_S_init_22 : decode prog_5_method_1_code 22 = .ok (.return_, 1) := by decide +kernel
end
section

theorem wd_W_init_0 : decode prog_1_method_1_code 0 = .ok (.aload_n 0, 1) := by decide +kernel
theorem wd_W_init_1 : decode prog_1_method_1_code 1 = .ok (.invokespecial 1, 3) := by decide +kernel
theorem wd_W_init_4 : decode prog_1_method_1_code 4 = .ok (.aload_n 0, 1) := by decide +kernel
theorem wd_W_init_5 : decode prog_1_method_1_code 5 = .ok (.new 7, 3) := by decide +kernel
theorem wd_W_init_8 : decode prog_1_method_1_code 8 = .ok (.dup, 1) := by decide +kernel
theorem wd_W_init_9 : decode prog_1_method_1_code 9 = .ok (.invokespecial 9, 3) := by decide +kernel
theorem wd_W_init_12 : decode prog_1_method_1_code 12 = .ok (.putfield 10, 3) := by decide +kernel
theorem wd_W_init_15 : decode prog_1_method_1_code 15 = .ok (.aload_n 0, 1) := by decide +kernel
theorem wd_W_init_16 : decode prog_1_method_1_code 16 = .ok (.new 16, 3) := by decide +kernel
theorem wd_W_init_19 : decode prog_1_method_1_code 19 = .ok (.dup, 1) := by decide +kernel
theorem wd_W_init_20 : decode prog_1_method_1_code 20 = .ok (.aload_n 0, 1) := by decide +kernel
theorem wd_W_init_21 : decode prog_1_method_1_code 21 = .ok (.getfield 10, 3) := by decide +kernel
theorem wd_W_init_24 : decode prog_1_method_1_code 24 = .ok (.invokespecial 18, 3) := by decide +kernel
theorem wd_W_init_27 : decode prog_1_method_1_code 27 = .ok (.putfield 21, 3) := by decide +kernel
theorem wd_W_init_30 : decode prog_1_method_1_code 30 = .ok (.aload_n 0, 1) := by decide +kernel
theorem wd_W_init_31 : decode prog_1_method_1_code 31 = .ok (.new 16, 3) := by decide +kernel
theorem wd_W_init_34 : decode prog_1_method_1_code 34 = .ok (.dup, 1) := by decide +kernel
theorem wd_W_init_35 : decode prog_1_method_1_code 35 = .ok (.aload_n 0, 1) := by decide +kernel
theorem wd_W_init_36 : decode prog_1_method_1_code 36 = .ok (.getfield 10, 3) := by decide +kernel
theorem wd_W_init_39 : decode prog_1_method_1_code 39 = .ok (.invokespecial 18, 3) := by decide +kernel
theorem wd_W_init_42 : decode prog_1_method_1_code 42 = .ok (.putfield 25, 3) := by decide +kernel
theorem wd_W_init_45 : decode prog_1_method_1_code 45 = .ok (.aload_n 0, 1) := by decide +kernel
theorem wd_W_init_46 : decode prog_1_method_1_code 46 = .ok (.new 28, 3) := by decide +kernel
theorem wd_W_init_49 : decode prog_1_method_1_code 49 = .ok (.dup, 1) := by decide +kernel
theorem wd_W_init_50 : decode prog_1_method_1_code 50 = .ok (.aload_n 0, 1) := by decide +kernel
theorem wd_W_init_51 : decode prog_1_method_1_code 51 = .ok (.getfield 10, 3) := by decide +kernel
theorem wd_W_init_54 : decode prog_1_method_1_code 54 = .ok (.aload_n 0, 1) := by decide +kernel
theorem wd_W_init_55 : decode prog_1_method_1_code 55 = .ok (.getfield 21, 3) := by decide +kernel
theorem wd_W_init_58 : decode prog_1_method_1_code 58 = .ok (.invokespecial 30, 3) := by decide +kernel
theorem wd_W_init_61 : decode prog_1_method_1_code 61 = .ok (.putfield 33, 3) := by decide +kernel
theorem wd_W_init_64 : decode prog_1_method_1_code 64 = .ok (.aload_n 0, 1) := by decide +kernel
theorem wd_W_init_65 : decode prog_1_method_1_code 65 = .ok (.bipush 9, 2) := by decide +kernel
theorem wd_W_init_67 : decode prog_1_method_1_code 67 = .ok (.newarray .int, 2) := by decide +kernel
theorem wd_W_init_69 : decode prog_1_method_1_code 69 = .ok (.putfield 37, 3) := by decide +kernel
theorem wd_W_init_72 : decode prog_1_method_1_code 72 = .ok (.return_, 1) := by decide +kernel
end
section

theorem wd_M_init_0 : decode prog_8_method_1_code 0 = .ok (.aload_n 0, 1) := by decide +kernel
theorem wd_M_init_1 : decode prog_8_method_1_code 1 = .ok (.invokespecial 1, 3) := by decide +kernel
theorem wd_M_init_4 : decode prog_8_method_1_code 4 = .ok (.aload_n 0, 1) := by decide +kernel
theorem wd_M_init_5 : decode prog_8_method_1_code 5 = .ok (.bipush 9, 2) := by decide +kernel
theorem wd_M_init_7 : decode prog_8_method_1_code 7 = .ok (.newarray .int, 2) := by decide +kernel
theorem wd_M_init_9 : decode prog_8_method_1_code 9 = .ok (.putfield 7, 3) := by decide +kernel
theorem wd_M_init_12 : decode prog_8_method_1_code 12 = .ok (.aload_n 0, 1) := by decide +kernel
theorem wd_M_init_13 : decode prog_8_method_1_code 13 = .ok (.bipush 9, 2) := by decide +kernel
theorem wd_M_init_15 : decode prog_8_method_1_code 15 = .ok (.newarray .int, 2) := by decide +kernel
theorem wd_M_init_17 : decode prog_8_method_1_code 17 = .ok (.putfield 13, 3) := by decide +kernel
theorem wd_M_init_20 : decode prog_8_method_1_code 20 = .ok (.aload_n 0, 1) := by decide +kernel
theorem wd_M_init_21 : decode prog_8_method_1_code 21 = .ok (.bipush 9, 2) := by decide +kernel
theorem wd_M_init_23 : decode prog_8_method_1_code 23 = .ok (.newarray .int, 2) := by decide +kernel
theorem wd_M_init_25 : decode prog_8_method_1_code 25 = .ok (.putfield 16, 3) := by decide +kernel
theorem wd_M_init_28 : decode prog_8_method_1_code 28 = .ok (.aload_n 0, 1) := by decide +kernel
theorem wd_M_init_29 : decode prog_8_method_1_code 29 = .ok (.bipush 9, 2) := by decide +kernel
theorem wd_M_init_31 : decode prog_8_method_1_code 31 = .ok (.newarray .int, 2) := by decide +kernel
theorem wd_M_init_33 : decode prog_8_method_1_code 33 = .ok (.putfield 19, 3) := by decide +kernel
theorem wd_M_init_36 : decode prog_8_method_1_code 36 = .ok (.aload_n 0, 1) := by decide +kernel
theorem wd_M_init_37 : decode prog_8_method_1_code 37 = .ok (.bipush 9, 2) := by decide +kernel
theorem wd_M_init_39 : decode prog_8_method_1_code 39 = .ok (.newarray .int, 2) := by decide +kernel
theorem wd_M_init_41 : decode prog_8_method_1_code 41 = .ok (.putfield 22, 3) := by decide +kernel
theorem wd_M_init_44 : decode prog_8_method_1_code 44 = .ok (.aload_n 0, 1) := by decide +kernel
theorem wd_M_init_45 : decode prog_8_method_1_code 45 = .ok (.bipush 9, 2) := by decide +kernel
theorem wd_M_init_47 : decode prog_8_method_1_code 47 = .ok (.newarray .int, 2) := by decide +kernel
theorem wd_M_init_49 : decode prog_8_method_1_code 49 = .ok (.putfield 25, 3) := by decide +kernel
theorem wd_M_init_52 : decode prog_8_method_1_code 52 = .ok (.aload_n 0, 1) := by decide +kernel
theorem wd_M_init_53 : decode prog_8_method_1_code 53 = .ok (.iconst 2, 1) := by decide +kernel
theorem wd_M_init_54 : decode prog_8_method_1_code 54 = .ok (.newarray .int, 2) := by decide +kernel
theorem wd_M_init_56 : decode prog_8_method_1_code 56 = .ok (.putfield 28, 3) := by decide +kernel
theorem wd_M_init_59 : decode prog_8_method_1_code 59 = .ok (.aload_n 0, 1) := by decide +kernel
theorem wd_M_init_60 : decode prog_8_method_1_code 60 = .ok (.bipush 16, 2) := by decide +kernel
theorem wd_M_init_62 : decode prog_8_method_1_code 62 = .ok (.newarray .int, 2) := by decide +kernel
theorem wd_M_init_64 : decode prog_8_method_1_code 64 = .ok (.putfield 31, 3) := by decide +kernel
theorem wd_M_init_67 : decode prog_8_method_1_code 67 = .ok (.aload_n 0, 1) := by decide +kernel
theorem wd_M_init_68 : decode prog_8_method_1_code 68 = .ok (.bipush 16, 2) := by decide +kernel
theorem wd_M_init_70 : decode prog_8_method_1_code 70 = .ok (.newarray .int, 2) := by decide +kernel
theorem wd_M_init_72 : decode prog_8_method_1_code 72 = .ok (.putfield 34, 3) := by decide +kernel
theorem wd_M_init_75 : decode prog_8_method_1_code 75 = .ok (.aload_n 0, 1) := by decide +kernel
theorem wd_M_init_76 : decode prog_8_method_1_code 76 = .ok (.bipush 16, 2) := by decide +kernel
theorem wd_M_init_78 : decode prog_8_method_1_code 78 = .ok (.newarray .int, 2) := by decide +kernel
theorem wd_M_init_80 : decode prog_8_method_1_code 80 = .ok (.putfield 37, 3) := by decide +kernel
theorem wd_M_init_83 : decode prog_8_method_1_code 83 = .ok (.aload_n 0, 1) := by decide +kernel
theorem wd_M_init_84 : decode prog_8_method_1_code 84 = .ok (.iconst 4, 1) := by decide +kernel
theorem wd_M_init_85 : decode prog_8_method_1_code 85 = .ok (.newarray .int, 2) := by decide +kernel
theorem wd_M_init_87 : decode prog_8_method_1_code 87 = .ok (.putfield 40, 3) := by decide +kernel
theorem wd_M_init_90 : decode prog_8_method_1_code 90 = .ok (.aload_n 0, 1) := by decide +kernel
theorem wd_M_init_91 : decode prog_8_method_1_code 91 = .ok (.iconst 4, 1) := by decide +kernel
theorem wd_M_init_92 : decode prog_8_method_1_code 92 = .ok (.newarray .int, 2) := by decide +kernel
theorem wd_M_init_94 : decode prog_8_method_1_code 94 = .ok (.putfield 43, 3) := by decide +kernel
theorem wd_M_init_97 : decode prog_8_method_1_code 97 = .ok (.aload_n 0, 1) := by decide +kernel
theorem wd_M_init_98 : decode prog_8_method_1_code 98 = .ok (.iconst 4, 1) := by decide +kernel
theorem wd_M_init_99 : decode prog_8_method_1_code 99 = .ok (.newarray .int, 2) := by decide +kernel
theorem wd_M_init_101 : decode prog_8_method_1_code 101 = .ok (.putfield 46, 3) := by decide +kernel
theorem wd_M_init_104 : decode prog_8_method_1_code 104 = .ok (.aload_n 0, 1) := by decide +kernel
theorem wd_M_init_105 : decode prog_8_method_1_code 105 = .ok (.iconst 2, 1) := by decide +kernel
theorem wd_M_init_106 : decode prog_8_method_1_code 106 = .ok (.putfield 49, 3) := by decide +kernel
theorem wd_M_init_109 : decode prog_8_method_1_code 109 = .ok (.aload_n 0, 1) := by decide +kernel
theorem wd_M_init_110 : decode prog_8_method_1_code 110 = .ok (.sipush 1000, 3) := by decide +kernel
theorem wd_M_init_113 : decode prog_8_method_1_code 113 = .ok (.putfield 53, 3) := by decide +kernel
theorem wd_M_init_116 : decode prog_8_method_1_code 116 = .ok (.aload_n 0, 1) := by decide +kernel
theorem wd_M_init_117 : decode prog_8_method_1_code 117 = .ok (.bipush 100, 2) := by decide +kernel
theorem wd_M_init_119 : decode prog_8_method_1_code 119 = .ok (.putfield 56, 3) := by decide +kernel
theorem wd_M_init_122 : decode prog_8_method_1_code 122 = .ok (.aload_n 0, 1) := by decide +kernel
theorem wd_M_init_123 : decode prog_8_method_1_code 123 = .ok (.bipush 9, 2) := by decide +kernel
theorem wd_M_init_125 : decode prog_8_method_1_code 125 = .ok (.newarray .int, 2) := by decide +kernel
theorem wd_M_init_127 : decode prog_8_method_1_code 127 = .ok (.putfield 59, 3) := by decide +kernel
theorem wd_M_init_130 : decode prog_8_method_1_code 130 = .ok (.aload_n 0, 1) := by decide +kernel
theorem wd_M_init_131 : decode prog_8_method_1_code 131 = .ok (.bipush 9, 2) := by decide +kernel
theorem wd_M_init_133 : decode prog_8_method_1_code 133 = .ok (.newarray .int, 2) := by decide +kernel
theorem wd_M_init_135 : decode prog_8_method_1_code 135 = .ok (.putfield 62, 3) := by decide +kernel
theorem wd_M_init_138 : decode prog_8_method_1_code 138 = .ok (.aload_n 0, 1) := by decide +kernel
theorem wd_M_init_139 : decode prog_8_method_1_code 139 = .ok (.bipush 9, 2) := by decide +kernel
theorem wd_M_init_141 : decode prog_8_method_1_code 141 = .ok (.newarray .boolean, 2) := by decide +kernel
theorem wd_M_init_143 : decode prog_8_method_1_code 143 = .ok (.putfield 65, 3) := by decide +kernel
theorem wd_M_init_146 : decode prog_8_method_1_code 146 = .ok (.return_, 1) := by decide +kernel
end
