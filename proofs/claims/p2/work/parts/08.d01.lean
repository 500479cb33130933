section

theorem wd_L_mayFollow_0 : decode prog_3_method_8_code 0 = .ok (.aload_n 0, 1) := by decide +kernel
theorem wd_L_mayFollow_1 : decode prog_3_method_8_code 1 = .ok (.getfield 39, 3) := by decide +kernel
theorem wd_L_mayFollow_4 : decode prog_3_method_8_code 4 = .ok (.getfield 70, 3) := by decide +kernel
theorem wd_L_mayFollow_7 : decode prog_3_method_8_code 7 = .ok (.iload_n 1, 1) := by decide +kernel
theorem wd_L_mayFollow_8 : decode prog_3_method_8_code 8 = .ok (.aaload, 1) := by decide +kernel
theorem wd_L_mayFollow_9 : decode prog_3_method_8_code 9 = .ok (.iload_n 2, 1) := by decide +kernel
theorem wd_L_mayFollow_10 : decode prog_3_method_8_code 10 = .ok (.iaload, 1) := by decide +kernel
theorem wd_L_mayFollow_11 : decode prog_3_method_8_code 11 = .ok (.iconst (-1), 1) := by decide +kernel
theorem wd_L_mayFollow_12 : decode prog_3_method_8_code 12 = .ok (.if_icmp .ne 5, 3) := by decide +kernel
theorem wd_L_mayFollow_15 : decode prog_3_method_8_code 15 = .ok (.iconst 0, 1) := by decide +kernel
theorem wd_L_mayFollow_16 : decode prog_3_method_8_code 16 = .ok (.ireturn, 1) := by decide +kernel
theorem wd_L_mayFollow_17 : decode prog_3_method_8_code 17 = .ok (.aload_n 0, 1) := by decide +kernel
theorem wd_L_mayFollow_18 : decode prog_3_method_8_code 18 = .ok (.getfield 39, 3) := by decide +kernel
theorem wd_L_mayFollow_21 : decode prog_3_method_8_code 21 = .ok (.getfield 73, 3) := by decide +kernel
theorem wd_L_mayFollow_24 : decode prog_3_method_8_code 24 = .ok (.iload_n 2, 1) := by decide +kernel
theorem wd_L_mayFollow_25 : decode prog_3_method_8_code 25 = .ok (.iaload, 1) := by decide +kernel
theorem wd_L_mayFollow_26 : decode prog_3_method_8_code 26 = .ok (.aload_n 0, 1) := by decide +kernel
theorem wd_L_mayFollow_27 : decode prog_3_method_8_code 27 = .ok (.getfield 39, 3) := by decide +kernel
theorem wd_L_mayFollow_30 : decode prog_3_method_8_code 30 = .ok (.getfield 73, 3) := by decide +kernel
theorem wd_L_mayFollow_33 : decode prog_3_method_8_code 33 = .ok (.iload_n 1, 1) := by decide +kernel
theorem wd_L_mayFollow_34 : decode prog_3_method_8_code 34 = .ok (.iaload, 1) := by decide +kernel
theorem wd_L_mayFollow_35 : decode prog_3_method_8_code 35 = .ok (.isub, 1) := by decide +kernel
theorem wd_L_mayFollow_36 : decode prog_3_method_8_code 36 = .ok (.istore_n 3, 1) := by decide +kernel
theorem wd_L_mayFollow_37 : decode prog_3_method_8_code 37 = .ok (.aload_n 0, 1) := by decide +kernel
theorem wd_L_mayFollow_38 : decode prog_3_method_8_code 38 = .ok (.getfield 43, 3) := by decide +kernel
theorem wd_L_mayFollow_41 : decode prog_3_method_8_code 41 = .ok (.aload_n 0, 1) := by decide +kernel
theorem wd_L_mayFollow_42 : decode prog_3_method_8_code 42 = .ok (.getfield 39, 3) := by decide +kernel
theorem wd_L_mayFollow_45 : decode prog_3_method_8_code 45 = .ok (.getfield 76, 3) := by decide +kernel
theorem wd_L_mayFollow_48 : decode prog_3_method_8_code 48 = .ok (.if_icmp .ge 15, 3) := by decide +kernel
theorem wd_L_mayFollow_51 : decode prog_3_method_8_code 51 = .ok (.iload_n 3, 1) := by decide +kernel
theorem wd_L_mayFollow_52 : decode prog_3_method_8_code 52 = .ok (.ifCond .lt 7, 3) := by decide +kernel
theorem wd_L_mayFollow_55 : decode prog_3_method_8_code 55 = .ok (.iconst 1, 1) := by decide +kernel
theorem wd_L_mayFollow_56 : decode prog_3_method_8_code 56 = .ok (.goto 16, 3) := by decide +kernel
theorem wd_L_mayFollow_59 : decode prog_3_method_8_code 59 = .ok (.iconst 0, 1) := by decide +kernel
theorem wd_L_mayFollow_60 : decode prog_3_method_8_code 60 = .ok (.goto 12, 3) := by decide +kernel
theorem wd_L_mayFollow_63 : decode prog_3_method_8_code 63 = .ok (.iload_n 3, 1) := by decide +kernel
theorem wd_L_mayFollow_64 : decode prog_3_method_8_code 64 = .ok (.ifCond .gt 7, 3) := by decide +kernel
theorem wd_L_mayFollow_67 : decode prog_3_method_8_code 67 = .ok (.iconst 1, 1) := by decide +kernel
theorem wd_L_mayFollow_68 : decode prog_3_method_8_code 68 = .ok (.goto 4, 3) := by decide +kernel
theorem wd_L_mayFollow_71 : decode prog_3_method_8_code 71 = .ok (.iconst 0, 1) := by decide +kernel
theorem wd_L_mayFollow_72 : decode prog_3_method_8_code 72 = .ok (.ireturn, 1) := by decide +kernel
end
section

theorem wd_L_mayPut_0 : decode prog_3_method_7_code 0 = .ok (.aload_n 0, 1) := by decide +kernel
theorem wd_L_mayPut_1 : decode prog_3_method_7_code 1 = .ok (.getfield 15, 3) := by decide +kernel
theorem wd_L_mayPut_4 : decode prog_3_method_7_code 4 = .ok (.iload_n 1, 1) := by decide +kernel
theorem wd_L_mayPut_5 : decode prog_3_method_7_code 5 = .ok (.baload, 1) := by decide +kernel
theorem wd_L_mayPut_6 : decode prog_3_method_7_code 6 = .ok (.ifCond .ne 19, 3) := by decide +kernel
theorem wd_L_mayPut_9 : decode prog_3_method_7_code 9 = .ok (.aload_n 0, 1) := by decide +kernel
theorem wd_L_mayPut_10 : decode prog_3_method_7_code 10 = .ok (.getfield 43, 3) := by decide +kernel
theorem wd_L_mayPut_13 : decode prog_3_method_7_code 13 = .ok (.aload_n 0, 1) := by decide +kernel
theorem wd_L_mayPut_14 : decode prog_3_method_7_code 14 = .ok (.getfield 39, 3) := by decide +kernel
theorem wd_L_mayPut_17 : decode prog_3_method_7_code 17 = .ok (.getfield 63, 3) := by decide +kernel
theorem wd_L_mayPut_20 : decode prog_3_method_7_code 20 = .ok (.iload_n 1, 1) := by decide +kernel
theorem wd_L_mayPut_21 : decode prog_3_method_7_code 21 = .ok (.iaload, 1) := by decide +kernel
theorem wd_L_mayPut_22 : decode prog_3_method_7_code 22 = .ok (.if_icmp .le 5, 3) := by decide +kernel
theorem wd_L_mayPut_25 : decode prog_3_method_7_code 25 = .ok (.iconst 0, 1) := by decide +kernel
theorem wd_L_mayPut_26 : decode prog_3_method_7_code 26 = .ok (.ireturn, 1) := by decide +kernel
theorem wd_L_mayPut_27 : decode prog_3_method_7_code 27 = .ok (.aload_n 0, 1) := by decide +kernel
theorem wd_L_mayPut_28 : decode prog_3_method_7_code 28 = .ok (.getfield 43, 3) := by decide +kernel
theorem wd_L_mayPut_31 : decode prog_3_method_7_code 31 = .ok (.ifCond .eq 22, 3) := by decide +kernel
theorem wd_L_mayPut_34 : decode prog_3_method_7_code 34 = .ok (.aload_n 0, 1) := by decide +kernel
theorem wd_L_mayPut_35 : decode prog_3_method_7_code 35 = .ok (.aload_n 0, 1) := by decide +kernel
theorem wd_L_mayPut_36 : decode prog_3_method_7_code 36 = .ok (.getfield 9, 3) := by decide +kernel
theorem wd_L_mayPut_39 : decode prog_3_method_7_code 39 = .ok (.aload_n 0, 1) := by decide +kernel
theorem wd_L_mayPut_40 : decode prog_3_method_7_code 40 = .ok (.getfield 43, 3) := by decide +kernel
theorem wd_L_mayPut_43 : decode prog_3_method_7_code 43 = .ok (.iconst 1, 1) := by decide +kernel
theorem wd_L_mayPut_44 : decode prog_3_method_7_code 44 = .ok (.isub, 1) := by decide +kernel
theorem wd_L_mayPut_45 : decode prog_3_method_7_code 45 = .ok (.iaload, 1) := by decide +kernel
theorem wd_L_mayPut_46 : decode prog_3_method_7_code 46 = .ok (.iload_n 1, 1) := by decide +kernel
theorem wd_L_mayPut_47 : decode prog_3_method_7_code 47 = .ok (.invokevirtual 66, 3) := by decide +kernel
theorem wd_L_mayPut_50 : decode prog_3_method_7_code 50 = .ok (.ifCond .eq 7, 3) := by decide +kernel
theorem wd_L_mayPut_53 : decode prog_3_method_7_code 53 = .ok (.iconst 1, 1) := by decide +kernel
theorem wd_L_mayPut_54 : decode prog_3_method_7_code 54 = .ok (.goto 4, 3) := by decide +kernel
theorem wd_L_mayPut_57 : decode prog_3_method_7_code 57 = .ok (.iconst 0, 1) := by decide +kernel
theorem wd_L_mayPut_58 : decode prog_3_method_7_code 58 = .ok (.ireturn, 1) := by decide +kernel
end
section

theorem wd_L_isWornWith_0 : decode prog_3_method_11_code 0 = .ok (.aload_n 0, 1) := by decide +kernel
theorem wd_L_isWornWith_1 : decode prog_3_method_11_code 1 = .ok (.getfield 31, 3) := by decide +kernel
theorem wd_L_isWornWith_4 : decode prog_3_method_11_code 4 = .ok (.aload_n 0, 1) := by decide +kernel
theorem wd_L_isWornWith_5 : decode prog_3_method_11_code 5 = .ok (.getfield 43, 3) := by decide +kernel
theorem wd_L_isWornWith_8 : decode prog_3_method_11_code 8 = .ok (.iaload, 1) := by decide +kernel
theorem wd_L_isWornWith_9 : decode prog_3_method_11_code 9 = .ok (.aload_n 0, 1) := by decide +kernel
theorem wd_L_isWornWith_10 : decode prog_3_method_11_code 10 = .ok (.getfield 39, 3) := by decide +kernel
theorem wd_L_isWornWith_13 : decode prog_3_method_11_code 13 = .ok (.getfield 89, 3) := by decide +kernel
theorem wd_L_isWornWith_16 : decode prog_3_method_11_code 16 = .ok (.iload_n 1, 1) := by decide +kernel
theorem wd_L_isWornWith_17 : decode prog_3_method_11_code 17 = .ok (.iaload, 1) := by decide +kernel
theorem wd_L_isWornWith_18 : decode prog_3_method_11_code 18 = .ok (.iadd, 1) := by decide +kernel
theorem wd_L_isWornWith_19 : decode prog_3_method_11_code 19 = .ok (.aload_n 0, 1) := by decide +kernel
theorem wd_L_isWornWith_20 : decode prog_3_method_11_code 20 = .ok (.getfield 39, 3) := by decide +kernel
theorem wd_L_isWornWith_23 : decode prog_3_method_11_code 23 = .ok (.getfield 92, 3) := by decide +kernel
theorem wd_L_isWornWith_26 : decode prog_3_method_11_code 26 = .ok (.if_icmp .le 5, 3) := by decide +kernel
theorem wd_L_isWornWith_29 : decode prog_3_method_11_code 29 = .ok (.iconst 1, 1) := by decide +kernel
theorem wd_L_isWornWith_30 : decode prog_3_method_11_code 30 = .ok (.ireturn, 1) := by decide +kernel
theorem wd_L_isWornWith_31 : decode prog_3_method_11_code 31 = .ok (.iconst 0, 1) := by decide +kernel
theorem wd_L_isWornWith_32 : decode prog_3_method_11_code 32 = .ok (.istore_n 2, 1) := by decide +kernel
theorem wd_L_isWornWith_33 : decode prog_3_method_11_code 33 = .ok (.iload_n 2, 1) := by decide +kernel
theorem wd_L_isWornWith_34 : decode prog_3_method_11_code 34 = .ok (.aload_n 0, 1) := by decide +kernel
theorem wd_L_isWornWith_35 : decode prog_3_method_11_code 35 = .ok (.getfield 39, 3) := by decide +kernel
theorem wd_L_isWornWith_38 : decode prog_3_method_11_code 38 = .ok (.getfield 95, 3) := by decide +kernel
theorem wd_L_isWornWith_41 : decode prog_3_method_11_code 41 = .ok (.getfield 99, 3) := by decide +kernel
theorem wd_L_isWornWith_44 : decode prog_3_method_11_code 44 = .ok (.if_icmp .ge 49, 3) := by decide +kernel
theorem wd_L_isWornWith_47 : decode prog_3_method_11_code 47 = .ok (.aload_n 0, 1) := by decide +kernel
theorem wd_L_isWornWith_48 : decode prog_3_method_11_code 48 = .ok (.getfield 36, 3) := by decide +kernel
theorem wd_L_isWornWith_51 : decode prog_3_method_11_code 51 = .ok (.aload_n 0, 1) := by decide +kernel
theorem wd_L_isWornWith_52 : decode prog_3_method_11_code 52 = .ok (.getfield 43, 3) := by decide +kernel
theorem wd_L_isWornWith_55 : decode prog_3_method_11_code 55 = .ok (.aaload, 1) := by decide +kernel
theorem wd_L_isWornWith_56 : decode prog_3_method_11_code 56 = .ok (.iload_n 2, 1) := by decide +kernel
theorem wd_L_isWornWith_57 : decode prog_3_method_11_code 57 = .ok (.iaload, 1) := by decide +kernel
theorem wd_L_isWornWith_58 : decode prog_3_method_11_code 58 = .ok (.aload_n 0, 1) := by decide +kernel
theorem wd_L_isWornWith_59 : decode prog_3_method_11_code 59 = .ok (.getfield 39, 3) := by decide +kernel
theorem wd_L_isWornWith_62 : decode prog_3_method_11_code 62 = .ok (.iload_n 2, 1) := by decide +kernel
theorem wd_L_isWornWith_63 : decode prog_3_method_11_code 63 = .ok (.iload_n 1, 1) := by decide +kernel
theorem wd_L_isWornWith_64 : decode prog_3_method_11_code 64 = .ok (.invokevirtual 102, 3) := by decide +kernel
theorem wd_L_isWornWith_67 : decode prog_3_method_11_code 67 = .ok (.iadd, 1) := by decide +kernel
theorem wd_L_isWornWith_68 : decode prog_3_method_11_code 68 = .ok (.istore_n 3, 1) := by decide +kernel
theorem wd_L_isWornWith_69 : decode prog_3_method_11_code 69 = .ok (.iload_n 3, 1) := by decide +kernel
theorem wd_L_isWornWith_70 : decode prog_3_method_11_code 70 = .ok (.aload_n 0, 1) := by decide +kernel
theorem wd_L_isWornWith_71 : decode prog_3_method_11_code 71 = .ok (.getfield 39, 3) := by decide +kernel
theorem wd_L_isWornWith_74 : decode prog_3_method_11_code 74 = .ok (.getfield 95, 3) := by decide +kernel
theorem wd_L_isWornWith_77 : decode prog_3_method_11_code 77 = .ok (.getfield 106, 3) := by decide +kernel
theorem wd_L_isWornWith_80 : decode prog_3_method_11_code 80 = .ok (.iload_n 2, 1) := by decide +kernel
theorem wd_L_isWornWith_81 : decode prog_3_method_11_code 81 = .ok (.iaload, 1) := by decide +kernel
theorem wd_L_isWornWith_82 : decode prog_3_method_11_code 82 = .ok (.if_icmp .le 5, 3) := by decide +kernel
theorem wd_L_isWornWith_85 : decode prog_3_method_11_code 85 = .ok (.iconst 1, 1) := by decide +kernel
theorem wd_L_isWornWith_86 : decode prog_3_method_11_code 86 = .ok (.ireturn, 1) := by decide +kernel
theorem wd_L_isWornWith_87 : decode prog_3_method_11_code 87 = .ok (.iinc 2 1, 3) := by decide +kernel
theorem wd_L_isWornWith_90 : decode prog_3_method_11_code 90 = .ok (.goto (-57), 3) := by decide +kernel
theorem wd_L_isWornWith_93 : decode prog_3_method_11_code 93 = .ok (.iconst 0, 1) := by decide +kernel
theorem wd_L_isWornWith_94 : decode prog_3_method_11_code 94 = .ok (.ireturn, 1) := by decide +kernel
end
section

theorem wd_L_countKilometres_0 : decode prog_3_method_12_code 0 = .ok (.aload_n 0, 1) := by decide +kernel
theorem wd_L_countKilometres_1 : decode prog_3_method_12_code 1 = .ok (.getfield 43, 3) := by decide +kernel
theorem wd_L_countKilometres_4 : decode prog_3_method_12_code 4 = .ok (.iconst 1, 1) := by decide +kernel
theorem wd_L_countKilometres_5 : decode prog_3_method_12_code 5 = .ok (.iadd, 1) := by decide +kernel
theorem wd_L_countKilometres_6 : decode prog_3_method_12_code 6 = .ok (.istore_n 3, 1) := by decide +kernel
theorem wd_L_countKilometres_7 : decode prog_3_method_12_code 7 = .ok (.aload_n 0, 1) := by decide +kernel
theorem wd_L_countKilometres_8 : decode prog_3_method_12_code 8 = .ok (.getfield 31, 3) := by decide +kernel
theorem wd_L_countKilometres_11 : decode prog_3_method_12_code 11 = .ok (.iload_n 3, 1) := by decide +kernel
theorem wd_L_countKilometres_12 : decode prog_3_method_12_code 12 = .ok (.iload_n 2, 1) := by decide +kernel
theorem wd_L_countKilometres_13 : decode prog_3_method_12_code 13 = .ok (.ifCond .eq 7, 3) := by decide +kernel
theorem wd_L_countKilometres_16 : decode prog_3_method_12_code 16 = .ok (.iconst 0, 1) := by decide +kernel
theorem wd_L_countKilometres_17 : decode prog_3_method_12_code 17 = .ok (.goto 12, 3) := by decide +kernel
theorem wd_L_countKilometres_20 : decode prog_3_method_12_code 20 = .ok (.aload_n 0, 1) := by decide +kernel
theorem wd_L_countKilometres_21 : decode prog_3_method_12_code 21 = .ok (.getfield 31, 3) := by decide +kernel
theorem wd_L_countKilometres_24 : decode prog_3_method_12_code 24 = .ok (.aload_n 0, 1) := by decide +kernel
theorem wd_L_countKilometres_25 : decode prog_3_method_12_code 25 = .ok (.getfield 43, 3) := by decide +kernel
theorem wd_L_countKilometres_28 : decode prog_3_method_12_code 28 = .ok (.iaload, 1) := by decide +kernel
theorem wd_L_countKilometres_29 : decode prog_3_method_12_code 29 = .ok (.aload_n 0, 1) := by decide +kernel
theorem wd_L_countKilometres_30 : decode prog_3_method_12_code 30 = .ok (.getfield 39, 3) := by decide +kernel
theorem wd_L_countKilometres_33 : decode prog_3_method_12_code 33 = .ok (.getfield 89, 3) := by decide +kernel
theorem wd_L_countKilometres_36 : decode prog_3_method_12_code 36 = .ok (.iload_n 1, 1) := by decide +kernel
theorem wd_L_countKilometres_37 : decode prog_3_method_12_code 37 = .ok (.iaload, 1) := by decide +kernel
theorem wd_L_countKilometres_38 : decode prog_3_method_12_code 38 = .ok (.iadd, 1) := by decide +kernel
theorem wd_L_countKilometres_39 : decode prog_3_method_12_code 39 = .ok (.iastore, 1) := by decide +kernel
theorem wd_L_countKilometres_40 : decode prog_3_method_12_code 40 = .ok (.iconst 0, 1) := by decide +kernel
theorem wd_L_countKilometres_41 : decode prog_3_method_12_code 41 = .ok (.istore 4, 2) := by decide +kernel
theorem wd_L_countKilometres_43 : decode prog_3_method_12_code 43 = .ok (.iload 4, 2) := by decide +kernel
theorem wd_L_countKilometres_45 : decode prog_3_method_12_code 45 = .ok (.aload_n 0, 1) := by decide +kernel
theorem wd_L_countKilometres_46 : decode prog_3_method_12_code 46 = .ok (.getfield 39, 3) := by decide +kernel
theorem wd_L_countKilometres_49 : decode prog_3_method_12_code 49 = .ok (.getfield 95, 3) := by decide +kernel
theorem wd_L_countKilometres_52 : decode prog_3_method_12_code 52 = .ok (.getfield 99, 3) := by decide +kernel
theorem wd_L_countKilometres_55 : decode prog_3_method_12_code 55 = .ok (.if_icmp .ge 53, 3) := by decide +kernel
theorem wd_L_countKilometres_58 : decode prog_3_method_12_code 58 = .ok (.iload_n 2, 1) := by decide +kernel
theorem wd_L_countKilometres_59 : decode prog_3_method_12_code 59 = .ok (.ifCond .eq 7, 3) := by decide +kernel
theorem wd_L_countKilometres_62 : decode prog_3_method_12_code 62 = .ok (.iconst 0, 1) := by decide +kernel
theorem wd_L_countKilometres_63 : decode prog_3_method_12_code 63 = .ok (.goto 15, 3) := by decide +kernel
theorem wd_L_countKilometres_66 : decode prog_3_method_12_code 66 = .ok (.aload_n 0, 1) := by decide +kernel
theorem wd_L_countKilometres_67 : decode prog_3_method_12_code 67 = .ok (.getfield 36, 3) := by decide +kernel
theorem wd_L_countKilometres_70 : decode prog_3_method_12_code 70 = .ok (.aload_n 0, 1) := by decide +kernel
theorem wd_L_countKilometres_71 : decode prog_3_method_12_code 71 = .ok (.getfield 43, 3) := by decide +kernel
theorem wd_L_countKilometres_74 : decode prog_3_method_12_code 74 = .ok (.aaload, 1) := by decide +kernel
theorem wd_L_countKilometres_75 : decode prog_3_method_12_code 75 = .ok (.iload 4, 2) := by decide +kernel
theorem wd_L_countKilometres_77 : decode prog_3_method_12_code 77 = .ok (.iaload, 1) := by decide +kernel
theorem wd_L_countKilometres_78 : decode prog_3_method_12_code 78 = .ok (.istore 5, 2) := by decide +kernel
theorem wd_L_countKilometres_80 : decode prog_3_method_12_code 80 = .ok (.aload_n 0, 1) := by decide +kernel
theorem wd_L_countKilometres_81 : decode prog_3_method_12_code 81 = .ok (.getfield 36, 3) := by decide +kernel
theorem wd_L_countKilometres_84 : decode prog_3_method_12_code 84 = .ok (.iload_n 3, 1) := by decide +kernel
theorem wd_L_countKilometres_85 : decode prog_3_method_12_code 85 = .ok (.aaload, 1) := by decide +kernel
theorem wd_L_countKilometres_86 : decode prog_3_method_12_code 86 = .ok (.iload 4, 2) := by decide +kernel
theorem wd_L_countKilometres_88 : decode prog_3_method_12_code 88 = .ok (.iload 5, 2) := by decide +kernel
theorem wd_L_countKilometres_90 : decode prog_3_method_12_code 90 = .ok (.aload_n 0, 1) := by decide +kernel
theorem wd_L_countKilometres_91 : decode prog_3_method_12_code 91 = .ok (.getfield 39, 3) := by decide +kernel
theorem wd_L_countKilometres_94 : decode prog_3_method_12_code 94 = .ok (.iload 4, 2) := by decide +kernel
theorem wd_L_countKilometres_96 : decode prog_3_method_12_code 96 = .ok (.iload_n 1, 1) := by decide +kernel
theorem wd_L_countKilometres_97 : decode prog_3_method_12_code 97 = .ok (.invokevirtual 102, 3) := by decide +kernel
theorem wd_L_countKilometres_100 : decode prog_3_method_12_code 100 = .ok (.iadd, 1) := by decide +kernel
theorem wd_L_countKilometres_101 : decode prog_3_method_12_code 101 = .ok (.iastore, 1) := by decide +kernel
theorem wd_L_countKilometres_102 : decode prog_3_method_12_code 102 = .ok (.iinc 4 1, 3) := by decide +kernel
theorem wd_L_countKilometres_105 : decode prog_3_method_12_code 105 = .ok (.goto (-62), 3) := by decide +kernel
theorem wd_L_countKilometres_108 : decode prog_3_method_12_code 108 = .ok (.return_, 1) := by decide +kernel
end
section

theorem wd_L_countCosts_0 : decode prog_3_method_13_code 0 = .ok (.aload_n 0, 1) := by decide +kernel
theorem wd_L_countCosts_1 : decode prog_3_method_13_code 1 = .ok (.getfield 43, 3) := by decide +kernel
theorem wd_L_countCosts_4 : decode prog_3_method_13_code 4 = .ok (.iconst 1, 1) := by decide +kernel
theorem wd_L_countCosts_5 : decode prog_3_method_13_code 5 = .ok (.iadd, 1) := by decide +kernel
theorem wd_L_countCosts_6 : decode prog_3_method_13_code 6 = .ok (.istore_n 3, 1) := by decide +kernel
theorem wd_L_countCosts_7 : decode prog_3_method_13_code 7 = .ok (.aload_n 0, 1) := by decide +kernel
theorem wd_L_countCosts_8 : decode prog_3_method_13_code 8 = .ok (.getfield 39, 3) := by decide +kernel
theorem wd_L_countCosts_11 : decode prog_3_method_13_code 11 = .ok (.getfield 109, 3) := by decide +kernel
theorem wd_L_countCosts_14 : decode prog_3_method_13_code 14 = .ok (.iload_n 1, 1) := by decide +kernel
theorem wd_L_countCosts_15 : decode prog_3_method_13_code 15 = .ok (.iaload, 1) := by decide +kernel
theorem wd_L_countCosts_16 : decode prog_3_method_13_code 16 = .ok (.istore 4, 2) := by decide +kernel
theorem wd_L_countCosts_18 : decode prog_3_method_13_code 18 = .ok (.iload 4, 2) := by decide +kernel
theorem wd_L_countCosts_20 : decode prog_3_method_13_code 20 = .ok (.iconst (-1), 1) := by decide +kernel
theorem wd_L_countCosts_21 : decode prog_3_method_13_code 21 = .ok (.if_icmp .eq 16, 3) := by decide +kernel
theorem wd_L_countCosts_24 : decode prog_3_method_13_code 24 = .ok (.iload 4, 2) := by decide +kernel
theorem wd_L_countCosts_26 : decode prog_3_method_13_code 26 = .ok (.aload_n 0, 1) := by decide +kernel
theorem wd_L_countCosts_27 : decode prog_3_method_13_code 27 = .ok (.getfield 43, 3) := by decide +kernel
theorem wd_L_countCosts_30 : decode prog_3_method_13_code 30 = .ok (.if_icmp .eq 7, 3) := by decide +kernel
theorem wd_L_countCosts_33 : decode prog_3_method_13_code 33 = .ok (.iconst 1, 1) := by decide +kernel
theorem wd_L_countCosts_34 : decode prog_3_method_13_code 34 = .ok (.goto 4, 3) := by decide +kernel
theorem wd_L_countCosts_37 : decode prog_3_method_13_code 37 = .ok (.iconst 0, 1) := by decide +kernel
theorem wd_L_countCosts_38 : decode prog_3_method_13_code 38 = .ok (.istore 5, 2) := by decide +kernel
theorem wd_L_countCosts_40 : decode prog_3_method_13_code 40 = .ok (.aload_n 0, 1) := by decide +kernel
theorem wd_L_countCosts_41 : decode prog_3_method_13_code 41 = .ok (.getfield 43, 3) := by decide +kernel
theorem wd_L_countCosts_44 : decode prog_3_method_13_code 44 = .ok (.ifCond .le 27, 3) := by decide +kernel
theorem wd_L_countCosts_47 : decode prog_3_method_13_code 47 = .ok (.aload_n 0, 1) := by decide +kernel
theorem wd_L_countCosts_48 : decode prog_3_method_13_code 48 = .ok (.getfield 39, 3) := by decide +kernel
theorem wd_L_countCosts_51 : decode prog_3_method_13_code 51 = .ok (.getfield 70, 3) := by decide +kernel
theorem wd_L_countCosts_54 : decode prog_3_method_13_code 54 = .ok (.aload_n 0, 1) := by decide +kernel
theorem wd_L_countCosts_55 : decode prog_3_method_13_code 55 = .ok (.getfield 9, 3) := by decide +kernel
theorem wd_L_countCosts_58 : decode prog_3_method_13_code 58 = .ok (.aload_n 0, 1) := by decide +kernel
theorem wd_L_countCosts_59 : decode prog_3_method_13_code 59 = .ok (.getfield 43, 3) := by decide +kernel
theorem wd_L_countCosts_62 : decode prog_3_method_13_code 62 = .ok (.iconst 1, 1) := by decide +kernel
theorem wd_L_countCosts_63 : decode prog_3_method_13_code 63 = .ok (.isub, 1) := by decide +kernel
theorem wd_L_countCosts_64 : decode prog_3_method_13_code 64 = .ok (.iaload, 1) := by decide +kernel
theorem wd_L_countCosts_65 : decode prog_3_method_13_code 65 = .ok (.aaload, 1) := by decide +kernel
theorem wd_L_countCosts_66 : decode prog_3_method_13_code 66 = .ok (.iload_n 1, 1) := by decide +kernel
theorem wd_L_countCosts_67 : decode prog_3_method_13_code 67 = .ok (.iaload, 1) := by decide +kernel
theorem wd_L_countCosts_68 : decode prog_3_method_13_code 68 = .ok (.goto 4, 3) := by decide +kernel
theorem wd_L_countCosts_71 : decode prog_3_method_13_code 71 = .ok (.iconst 0, 1) := by decide +kernel
theorem wd_L_countCosts_72 : decode prog_3_method_13_code 72 = .ok (.istore 6, 2) := by decide +kernel
theorem wd_L_countCosts_74 : decode prog_3_method_13_code 74 = .ok (.aload_n 0, 1) := by decide +kernel
theorem wd_L_countCosts_75 : decode prog_3_method_13_code 75 = .ok (.getfield 25, 3) := by decide +kernel
theorem wd_L_countCosts_78 : decode prog_3_method_13_code 78 = .ok (.iload_n 3, 1) := by decide +kernel
theorem wd_L_countCosts_79 : decode prog_3_method_13_code 79 = .ok (.aload_n 0, 1) := by decide +kernel
theorem wd_L_countCosts_80 : decode prog_3_method_13_code 80 = .ok (.getfield 25, 3) := by decide +kernel
theorem wd_L_countCosts_83 : decode prog_3_method_13_code 83 = .ok (.aload_n 0, 1) := by decide +kernel
theorem wd_L_countCosts_84 : decode prog_3_method_13_code 84 = .ok (.getfield 43, 3) := by decide +kernel
theorem wd_L_countCosts_87 : decode prog_3_method_13_code 87 = .ok (.iaload, 1) := by decide +kernel
theorem wd_L_countCosts_88 : decode prog_3_method_13_code 88 = .ok (.iload_n 2, 1) := by decide +kernel
theorem wd_L_countCosts_89 : decode prog_3_method_13_code 89 = .ok (.ifCond .eq 7, 3) := by decide +kernel
theorem wd_L_countCosts_92 : decode prog_3_method_13_code 92 = .ok (.iconst 1, 1) := by decide +kernel
theorem wd_L_countCosts_93 : decode prog_3_method_13_code 93 = .ok (.goto 4, 3) := by decide +kernel
theorem wd_L_countCosts_96 : decode prog_3_method_13_code 96 = .ok (.iconst 0, 1) := by decide +kernel
theorem wd_L_countCosts_97 : decode prog_3_method_13_code 97 = .ok (.iadd, 1) := by decide +kernel
theorem wd_L_countCosts_98 : decode prog_3_method_13_code 98 = .ok (.iastore, 1) := by decide +kernel
theorem wd_L_countCosts_99 : decode prog_3_method_13_code 99 = .ok (.aload_n 0, 1) := by decide +kernel
theorem wd_L_countCosts_100 : decode prog_3_method_13_code 100 = .ok (.getfield 28, 3) := by decide +kernel
theorem wd_L_countCosts_103 : decode prog_3_method_13_code 103 = .ok (.iload_n 3, 1) := by decide +kernel
theorem wd_L_countCosts_104 : decode prog_3_method_13_code 104 = .ok (.aload_n 0, 1) := by decide +kernel
theorem wd_L_countCosts_105 : decode prog_3_method_13_code 105 = .ok (.getfield 28, 3) := by decide +kernel
theorem wd_L_countCosts_108 : decode prog_3_method_13_code 108 = .ok (.aload_n 0, 1) := by decide +kernel
theorem wd_L_countCosts_109 : decode prog_3_method_13_code 109 = .ok (.getfield 43, 3) := by decide +kernel
theorem wd_L_countCosts_112 : decode prog_3_method_13_code 112 = .ok (.iaload, 1) := by decide +kernel
theorem wd_L_countCosts_113 : decode prog_3_method_13_code 113 = .ok (.iload 5, 2) := by decide +kernel
theorem wd_L_countCosts_115 : decode prog_3_method_13_code 115 = .ok (.ifCond .eq 7, 3) := by decide +kernel
theorem wd_L_countCosts_118 : decode prog_3_method_13_code 118 = .ok (.iconst 1, 1) := by decide +kernel
theorem wd_L_countCosts_119 : decode prog_3_method_13_code 119 = .ok (.goto 4, 3) := by decide +kernel
theorem wd_L_countCosts_122 : decode prog_3_method_13_code 122 = .ok (.iconst 0, 1) := by decide +kernel
theorem wd_L_countCosts_123 : decode prog_3_method_13_code 123 = .ok (.iadd, 1) := by decide +kernel
theorem wd_L_countCosts_124 : decode prog_3_method_13_code 124 = .ok (.iastore, 1) := by decide +kernel
theorem wd_L_countCosts_125 : decode prog_3_method_13_code 125 = .ok (.aload_n 0, 1) := by decide +kernel
theorem wd_L_countCosts_126 : decode prog_3_method_13_code 126 = .ok (.getfield 22, 3) := by decide +kernel
theorem wd_L_countCosts_129 : decode prog_3_method_13_code 129 = .ok (.iload_n 3, 1) := by decide +kernel
theorem wd_L_countCosts_130 : decode prog_3_method_13_code 130 = .ok (.aload_n 0, 1) := by decide +kernel
theorem wd_L_countCosts_131 : decode prog_3_method_13_code 131 = .ok (.getfield 22, 3) := by decide +kernel
theorem wd_L_countCosts_134 : decode prog_3_method_13_code 134 = .ok (.aload_n 0, 1) := by decide +kernel
theorem wd_L_countCosts_135 : decode prog_3_method_13_code 135 = .ok (.getfield 43, 3) := by decide +kernel
theorem wd_L_countCosts_138 : decode prog_3_method_13_code 138 = .ok (.iaload, 1) := by decide +kernel
theorem wd_L_countCosts_139 : decode prog_3_method_13_code 139 = .ok (.iload 6, 2) := by decide +kernel
theorem wd_L_countCosts_141 : decode prog_3_method_13_code 141 = .ok (.iadd, 1) := by decide +kernel
theorem wd_L_countCosts_142 : decode prog_3_method_13_code 142 = .ok (.iload_n 2, 1) := by decide +kernel
theorem wd_L_countCosts_143 : decode prog_3_method_13_code 143 = .ok (.ifCond .eq 13, 3) := by decide +kernel
theorem wd_L_countCosts_146 : decode prog_3_method_13_code 146 = .ok (.aload_n 0, 1) := by decide +kernel
theorem wd_L_countCosts_147 : decode prog_3_method_13_code 147 = .ok (.getfield 39, 3) := by decide +kernel
theorem wd_L_countCosts_150 : decode prog_3_method_13_code 150 = .ok (.getfield 112, 3) := by decide +kernel
theorem wd_L_countCosts_153 : decode prog_3_method_13_code 153 = .ok (.goto 4, 3) := by decide +kernel
theorem wd_L_countCosts_156 : decode prog_3_method_13_code 156 = .ok (.iconst 0, 1) := by decide +kernel
theorem wd_L_countCosts_157 : decode prog_3_method_13_code 157 = .ok (.iadd, 1) := by decide +kernel
theorem wd_L_countCosts_158 : decode prog_3_method_13_code 158 = .ok (.iload 5, 2) := by decide +kernel
theorem wd_L_countCosts_160 : decode prog_3_method_13_code 160 = .ok (.ifCond .eq 13, 3) := by decide +kernel
theorem wd_L_countCosts_163 : decode prog_3_method_13_code 163 = .ok (.aload_n 0, 1) := by decide +kernel
theorem wd_L_countCosts_164 : decode prog_3_method_13_code 164 = .ok (.getfield 39, 3) := by decide +kernel
theorem wd_L_countCosts_167 : decode prog_3_method_13_code 167 = .ok (.getfield 115, 3) := by decide +kernel
theorem wd_L_countCosts_170 : decode prog_3_method_13_code 170 = .ok (.goto 4, 3) := by decide +kernel
theorem wd_L_countCosts_173 : decode prog_3_method_13_code 173 = .ok (.iconst 0, 1) := by decide +kernel
theorem wd_L_countCosts_174 : decode prog_3_method_13_code 174 = .ok (.iadd, 1) := by decide +kernel
theorem wd_L_countCosts_175 : decode prog_3_method_13_code 175 = .ok (.iastore, 1) := by decide +kernel
theorem wd_L_countCosts_176 : decode prog_3_method_13_code 176 = .ok (.return_, 1) := by decide +kernel
end
section

theorem wd_L_put_0 : decode prog_3_method_9_code 0 = .ok (.aload_n 0, 1) := by decide +kernel
theorem wd_L_put_1 : decode prog_3_method_9_code 1 = .ok (.getfield 43, 3) := by decide +kernel
theorem wd_L_put_4 : decode prog_3_method_9_code 4 = .ok (.ifCond .le 15, 3) := by decide +kernel
theorem wd_L_put_7 : decode prog_3_method_9_code 7 = .ok (.aload_n 0, 1) := by decide +kernel
theorem wd_L_put_8 : decode prog_3_method_9_code 8 = .ok (.iload_n 1, 1) := by decide +kernel
theorem wd_L_put_9 : decode prog_3_method_9_code 9 = .ok (.invokevirtual 79, 3) := by decide +kernel
theorem wd_L_put_12 : decode prog_3_method_9_code 12 = .ok (.ifCond .eq 7, 3) := by decide +kernel
theorem wd_L_put_15 : decode prog_3_method_9_code 15 = .ok (.iconst 1, 1) := by decide +kernel
theorem wd_L_put_16 : decode prog_3_method_9_code 16 = .ok (.goto 4, 3) := by decide +kernel
theorem wd_L_put_19 : decode prog_3_method_9_code 19 = .ok (.iconst 0, 1) := by decide +kernel
theorem wd_L_put_20 : decode prog_3_method_9_code 20 = .ok (.istore_n 2, 1) := by decide +kernel
theorem wd_L_put_21 : decode prog_3_method_9_code 21 = .ok (.aload_n 0, 1) := by decide +kernel
theorem wd_L_put_22 : decode prog_3_method_9_code 22 = .ok (.getfield 19, 3) := by decide +kernel
theorem wd_L_put_25 : decode prog_3_method_9_code 25 = .ok (.aload_n 0, 1) := by decide +kernel
theorem wd_L_put_26 : decode prog_3_method_9_code 26 = .ok (.getfield 43, 3) := by decide +kernel
theorem wd_L_put_29 : decode prog_3_method_9_code 29 = .ok (.iload_n 2, 1) := by decide +kernel
theorem wd_L_put_30 : decode prog_3_method_9_code 30 = .ok (.bastore, 1) := by decide +kernel
theorem wd_L_put_31 : decode prog_3_method_9_code 31 = .ok (.aload_n 0, 1) := by decide +kernel
theorem wd_L_put_32 : decode prog_3_method_9_code 32 = .ok (.iload_n 1, 1) := by decide +kernel
theorem wd_L_put_33 : decode prog_3_method_9_code 33 = .ok (.iload_n 2, 1) := by decide +kernel
theorem wd_L_put_34 : decode prog_3_method_9_code 34 = .ok (.invokevirtual 82, 3) := by decide +kernel
theorem wd_L_put_37 : decode prog_3_method_9_code 37 = .ok (.aload_n 0, 1) := by decide +kernel
theorem wd_L_put_38 : decode prog_3_method_9_code 38 = .ok (.iload_n 1, 1) := by decide +kernel
theorem wd_L_put_39 : decode prog_3_method_9_code 39 = .ok (.iload_n 2, 1) := by decide +kernel
theorem wd_L_put_40 : decode prog_3_method_9_code 40 = .ok (.invokevirtual 86, 3) := by decide +kernel
theorem wd_L_put_43 : decode prog_3_method_9_code 43 = .ok (.aload_n 0, 1) := by decide +kernel
theorem wd_L_put_44 : decode prog_3_method_9_code 44 = .ok (.getfield 9, 3) := by decide +kernel
theorem wd_L_put_47 : decode prog_3_method_9_code 47 = .ok (.aload_n 0, 1) := by decide +kernel
theorem wd_L_put_48 : decode prog_3_method_9_code 48 = .ok (.getfield 43, 3) := by decide +kernel
theorem wd_L_put_51 : decode prog_3_method_9_code 51 = .ok (.iload_n 1, 1) := by decide +kernel
theorem wd_L_put_52 : decode prog_3_method_9_code 52 = .ok (.iastore, 1) := by decide +kernel
theorem wd_L_put_53 : decode prog_3_method_9_code 53 = .ok (.aload_n 0, 1) := by decide +kernel
theorem wd_L_put_54 : decode prog_3_method_9_code 54 = .ok (.getfield 15, 3) := by decide +kernel
theorem wd_L_put_57 : decode prog_3_method_9_code 57 = .ok (.iload_n 1, 1) := by decide +kernel
theorem wd_L_put_58 : decode prog_3_method_9_code 58 = .ok (.iconst 1, 1) := by decide +kernel
theorem wd_L_put_59 : decode prog_3_method_9_code 59 = .ok (.bastore, 1) := by decide +kernel
theorem wd_L_put_60 : decode prog_3_method_9_code 60 = .ok (.aload_n 0, 1) := by decide +kernel
theorem wd_L_put_61 : decode prog_3_method_9_code 61 = .ok (.dup, 1) := by decide +kernel
theorem wd_L_put_62 : decode prog_3_method_9_code 62 = .ok (.getfield 43, 3) := by decide +kernel
theorem wd_L_put_65 : decode prog_3_method_9_code 65 = .ok (.iconst 1, 1) := by decide +kernel
theorem wd_L_put_66 : decode prog_3_method_9_code 66 = .ok (.iadd, 1) := by decide +kernel
theorem wd_L_put_67 : decode prog_3_method_9_code 67 = .ok (.putfield 43, 3) := by decide +kernel
theorem wd_L_put_70 : decode prog_3_method_9_code 70 = .ok (.return_, 1) := by decide +kernel
end
