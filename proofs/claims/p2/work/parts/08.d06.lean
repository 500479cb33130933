section

theorem wd_M_mayBe_0 : decode prog_8_method_15_code 0 = .ok (.aload_n 1, 1) := by decide +kernel
theorem wd_M_mayBe_1 : decode prog_8_method_15_code 1 = .ok (.iload_n 2, 1) := by decide +kernel
theorem wd_M_mayBe_2 : decode prog_8_method_15_code 2 = .ok (.iaload, 1) := by decide +kernel
theorem wd_M_mayBe_3 : decode prog_8_method_15_code 3 = .ok (.istore_n 3, 1) := by decide +kernel
theorem wd_M_mayBe_4 : decode prog_8_method_15_code 4 = .ok (.iload_n 2, 1) := by decide +kernel
theorem wd_M_mayBe_5 : decode prog_8_method_15_code 5 = .ok (.aload_n 0, 1) := by decide +kernel
theorem wd_M_mayBe_6 : decode prog_8_method_15_code 6 = .ok (.getfield 22, 3) := by decide +kernel
theorem wd_M_mayBe_9 : decode prog_8_method_15_code 9 = .ok (.iload_n 3, 1) := by decide +kernel
theorem wd_M_mayBe_10 : decode prog_8_method_15_code 10 = .ok (.iaload, 1) := by decide +kernel
theorem wd_M_mayBe_11 : decode prog_8_method_15_code 11 = .ok (.if_icmp .le 5, 3) := by decide +kernel
theorem wd_M_mayBe_14 : decode prog_8_method_15_code 14 = .ok (.iconst 0, 1) := by decide +kernel
theorem wd_M_mayBe_15 : decode prog_8_method_15_code 15 = .ok (.ireturn, 1) := by decide +kernel
theorem wd_M_mayBe_16 : decode prog_8_method_15_code 16 = .ok (.iload_n 2, 1) := by decide +kernel
theorem wd_M_mayBe_17 : decode prog_8_method_15_code 17 = .ok (.ifCond .ne 5, 3) := by decide +kernel
theorem wd_M_mayBe_20 : decode prog_8_method_15_code 20 = .ok (.iconst 1, 1) := by decide +kernel
theorem wd_M_mayBe_21 : decode prog_8_method_15_code 21 = .ok (.ireturn, 1) := by decide +kernel
theorem wd_M_mayBe_22 : decode prog_8_method_15_code 22 = .ok (.aload_n 1, 1) := by decide +kernel
theorem wd_M_mayBe_23 : decode prog_8_method_15_code 23 = .ok (.iload_n 2, 1) := by decide +kernel
theorem wd_M_mayBe_24 : decode prog_8_method_15_code 24 = .ok (.iconst 1, 1) := by decide +kernel
theorem wd_M_mayBe_25 : decode prog_8_method_15_code 25 = .ok (.isub, 1) := by decide +kernel
theorem wd_M_mayBe_26 : decode prog_8_method_15_code 26 = .ok (.iaload, 1) := by decide +kernel
theorem wd_M_mayBe_27 : decode prog_8_method_15_code 27 = .ok (.istore 4, 2) := by decide +kernel
theorem wd_M_mayBe_29 : decode prog_8_method_15_code 29 = .ok (.aload_n 0, 1) := by decide +kernel
theorem wd_M_mayBe_30 : decode prog_8_method_15_code 30 = .ok (.iload 4, 2) := by decide +kernel
theorem wd_M_mayBe_32 : decode prog_8_method_15_code 32 = .ok (.iload_n 3, 1) := by decide +kernel
theorem wd_M_mayBe_33 : decode prog_8_method_15_code 33 = .ok (.invokevirtual 107, 3) := by decide +kernel
theorem wd_M_mayBe_36 : decode prog_8_method_15_code 36 = .ok (.ifCond .ge 5, 3) := by decide +kernel
theorem wd_M_mayBe_39 : decode prog_8_method_15_code 39 = .ok (.iconst 0, 1) := by decide +kernel
theorem wd_M_mayBe_40 : decode prog_8_method_15_code 40 = .ok (.ireturn, 1) := by decide +kernel
theorem wd_M_mayBe_41 : decode prog_8_method_15_code 41 = .ok (.iload_n 2, 1) := by decide +kernel
theorem wd_M_mayBe_42 : decode prog_8_method_15_code 42 = .ok (.aload_n 0, 1) := by decide +kernel
theorem wd_M_mayBe_43 : decode prog_8_method_15_code 43 = .ok (.getfield 49, 3) := by decide +kernel
theorem wd_M_mayBe_46 : decode prog_8_method_15_code 46 = .ok (.if_icmp .ge 27, 3) := by decide +kernel
theorem wd_M_mayBe_49 : decode prog_8_method_15_code 49 = .ok (.aload_n 0, 1) := by decide +kernel
theorem wd_M_mayBe_50 : decode prog_8_method_15_code 50 = .ok (.getfield 7, 3) := by decide +kernel
theorem wd_M_mayBe_53 : decode prog_8_method_15_code 53 = .ok (.iload_n 3, 1) := by decide +kernel
theorem wd_M_mayBe_54 : decode prog_8_method_15_code 54 = .ok (.iaload, 1) := by decide +kernel
theorem wd_M_mayBe_55 : decode prog_8_method_15_code 55 = .ok (.aload_n 0, 1) := by decide +kernel
theorem wd_M_mayBe_56 : decode prog_8_method_15_code 56 = .ok (.getfield 7, 3) := by decide +kernel
theorem wd_M_mayBe_59 : decode prog_8_method_15_code 59 = .ok (.iload 4, 2) := by decide +kernel
theorem wd_M_mayBe_61 : decode prog_8_method_15_code 61 = .ok (.iaload, 1) := by decide +kernel
theorem wd_M_mayBe_62 : decode prog_8_method_15_code 62 = .ok (.if_icmp .lt 7, 3) := by decide +kernel
theorem wd_M_mayBe_65 : decode prog_8_method_15_code 65 = .ok (.iconst 1, 1) := by decide +kernel
theorem wd_M_mayBe_66 : decode prog_8_method_15_code 66 = .ok (.goto 28, 3) := by decide +kernel
theorem wd_M_mayBe_69 : decode prog_8_method_15_code 69 = .ok (.iconst 0, 1) := by decide +kernel
theorem wd_M_mayBe_70 : decode prog_8_method_15_code 70 = .ok (.goto 24, 3) := by decide +kernel
theorem wd_M_mayBe_73 : decode prog_8_method_15_code 73 = .ok (.aload_n 0, 1) := by decide +kernel
theorem wd_M_mayBe_74 : decode prog_8_method_15_code 74 = .ok (.getfield 7, 3) := by decide +kernel
theorem wd_M_mayBe_77 : decode prog_8_method_15_code 77 = .ok (.iload_n 3, 1) := by decide +kernel
theorem wd_M_mayBe_78 : decode prog_8_method_15_code 78 = .ok (.iaload, 1) := by decide +kernel
theorem wd_M_mayBe_79 : decode prog_8_method_15_code 79 = .ok (.aload_n 0, 1) := by decide +kernel
theorem wd_M_mayBe_80 : decode prog_8_method_15_code 80 = .ok (.getfield 7, 3) := by decide +kernel
theorem wd_M_mayBe_83 : decode prog_8_method_15_code 83 = .ok (.iload 4, 2) := by decide +kernel
theorem wd_M_mayBe_85 : decode prog_8_method_15_code 85 = .ok (.iaload, 1) := by decide +kernel
theorem wd_M_mayBe_86 : decode prog_8_method_15_code 86 = .ok (.if_icmp .gt 7, 3) := by decide +kernel
theorem wd_M_mayBe_89 : decode prog_8_method_15_code 89 = .ok (.iconst 1, 1) := by decide +kernel
theorem wd_M_mayBe_90 : decode prog_8_method_15_code 90 = .ok (.goto 4, 3) := by decide +kernel
theorem wd_M_mayBe_93 : decode prog_8_method_15_code 93 = .ok (.iconst 0, 1) := by decide +kernel
theorem wd_M_mayBe_94 : decode prog_8_method_15_code 94 = .ok (.ireturn, 1) := by decide +kernel
end
section

theorem wd_M_isWorn_0 : decode prog_8_method_17_code 0 = .ok (.iconst 0, 1) := by decide +kernel
theorem wd_M_isWorn_1 : decode prog_8_method_17_code 1 = .ok (.istore 4, 2) := by decide +kernel
theorem wd_M_isWorn_3 : decode prog_8_method_17_code 3 = .ok (.iload_n 2, 1) := by decide +kernel
theorem wd_M_isWorn_4 : decode prog_8_method_17_code 4 = .ok (.istore 5, 2) := by decide +kernel
theorem wd_M_isWorn_6 : decode prog_8_method_17_code 6 = .ok (.iload 5, 2) := by decide +kernel
theorem wd_M_isWorn_8 : decode prog_8_method_17_code 8 = .ok (.iload_n 3, 1) := by decide +kernel
theorem wd_M_isWorn_9 : decode prog_8_method_17_code 9 = .ok (.if_icmp .gt 23, 3) := by decide +kernel
theorem wd_M_isWorn_12 : decode prog_8_method_17_code 12 = .ok (.iload 4, 2) := by decide +kernel
theorem wd_M_isWorn_14 : decode prog_8_method_17_code 14 = .ok (.aload_n 0, 1) := by decide +kernel
theorem wd_M_isWorn_15 : decode prog_8_method_17_code 15 = .ok (.getfield 19, 3) := by decide +kernel
theorem wd_M_isWorn_18 : decode prog_8_method_17_code 18 = .ok (.aload_n 1, 1) := by decide +kernel
theorem wd_M_isWorn_19 : decode prog_8_method_17_code 19 = .ok (.iload 5, 2) := by decide +kernel
theorem wd_M_isWorn_21 : decode prog_8_method_17_code 21 = .ok (.iaload, 1) := by decide +kernel
theorem wd_M_isWorn_22 : decode prog_8_method_17_code 22 = .ok (.iaload, 1) := by decide +kernel
theorem wd_M_isWorn_23 : decode prog_8_method_17_code 23 = .ok (.iadd, 1) := by decide +kernel
theorem wd_M_isWorn_24 : decode prog_8_method_17_code 24 = .ok (.istore 4, 2) := by decide +kernel
theorem wd_M_isWorn_26 : decode prog_8_method_17_code 26 = .ok (.iinc 5 1, 3) := by decide +kernel
theorem wd_M_isWorn_29 : decode prog_8_method_17_code 29 = .ok (.goto (-23), 3) := by decide +kernel
theorem wd_M_isWorn_32 : decode prog_8_method_17_code 32 = .ok (.iload 4, 2) := by decide +kernel
theorem wd_M_isWorn_34 : decode prog_8_method_17_code 34 = .ok (.aload_n 0, 1) := by decide +kernel
theorem wd_M_isWorn_35 : decode prog_8_method_17_code 35 = .ok (.getfield 53, 3) := by decide +kernel
theorem wd_M_isWorn_38 : decode prog_8_method_17_code 38 = .ok (.if_icmp .le 5, 3) := by decide +kernel
theorem wd_M_isWorn_41 : decode prog_8_method_17_code 41 = .ok (.iconst 1, 1) := by decide +kernel
theorem wd_M_isWorn_42 : decode prog_8_method_17_code 42 = .ok (.ireturn, 1) := by decide +kernel
theorem wd_M_isWorn_43 : decode prog_8_method_17_code 43 = .ok (.iconst 0, 1) := by decide +kernel
theorem wd_M_isWorn_44 : decode prog_8_method_17_code 44 = .ok (.istore 5, 2) := by decide +kernel
theorem wd_M_isWorn_46 : decode prog_8_method_17_code 46 = .ok (.iload 5, 2) := by decide +kernel
theorem wd_M_isWorn_48 : decode prog_8_method_17_code 48 = .ok (.aload_n 0, 1) := by decide +kernel
theorem wd_M_isWorn_49 : decode prog_8_method_17_code 49 = .ok (.getfield 93, 3) := by decide +kernel
theorem wd_M_isWorn_52 : decode prog_8_method_17_code 52 = .ok (.if_icmp .ge 141, 3) := by decide +kernel
theorem wd_M_isWorn_55 : decode prog_8_method_17_code 55 = .ok (.aload_n 0, 1) := by decide +kernel
theorem wd_M_isWorn_56 : decode prog_8_method_17_code 56 = .ok (.getfield 7, 3) := by decide +kernel
theorem wd_M_isWorn_59 : decode prog_8_method_17_code 59 = .ok (.aload_n 1, 1) := by decide +kernel
theorem wd_M_isWorn_60 : decode prog_8_method_17_code 60 = .ok (.iload_n 3, 1) := by decide +kernel
theorem wd_M_isWorn_61 : decode prog_8_method_17_code 61 = .ok (.iaload, 1) := by decide +kernel
theorem wd_M_isWorn_62 : decode prog_8_method_17_code 62 = .ok (.iaload, 1) := by decide +kernel
theorem wd_M_isWorn_63 : decode prog_8_method_17_code 63 = .ok (.aload_n 0, 1) := by decide +kernel
theorem wd_M_isWorn_64 : decode prog_8_method_17_code 64 = .ok (.getfield 40, 3) := by decide +kernel
theorem wd_M_isWorn_67 : decode prog_8_method_17_code 67 = .ok (.iload 5, 2) := by decide +kernel
theorem wd_M_isWorn_69 : decode prog_8_method_17_code 69 = .ok (.iaload, 1) := by decide +kernel
theorem wd_M_isWorn_70 : decode prog_8_method_17_code 70 = .ok (.if_icmp .lt 25, 3) := by decide +kernel
theorem wd_M_isWorn_73 : decode prog_8_method_17_code 73 = .ok (.aload_n 0, 1) := by decide +kernel
theorem wd_M_isWorn_74 : decode prog_8_method_17_code 74 = .ok (.getfield 7, 3) := by decide +kernel
theorem wd_M_isWorn_77 : decode prog_8_method_17_code 77 = .ok (.aload_n 1, 1) := by decide +kernel
theorem wd_M_isWorn_78 : decode prog_8_method_17_code 78 = .ok (.iload_n 3, 1) := by decide +kernel
theorem wd_M_isWorn_79 : decode prog_8_method_17_code 79 = .ok (.iaload, 1) := by decide +kernel
theorem wd_M_isWorn_80 : decode prog_8_method_17_code 80 = .ok (.iaload, 1) := by decide +kernel
theorem wd_M_isWorn_81 : decode prog_8_method_17_code 81 = .ok (.aload_n 0, 1) := by decide +kernel
theorem wd_M_isWorn_82 : decode prog_8_method_17_code 82 = .ok (.getfield 43, 3) := by decide +kernel
theorem wd_M_isWorn_85 : decode prog_8_method_17_code 85 = .ok (.iload 5, 2) := by decide +kernel
theorem wd_M_isWorn_87 : decode prog_8_method_17_code 87 = .ok (.iaload, 1) := by decide +kernel
theorem wd_M_isWorn_88 : decode prog_8_method_17_code 88 = .ok (.if_icmp .gt 7, 3) := by decide +kernel
theorem wd_M_isWorn_91 : decode prog_8_method_17_code 91 = .ok (.iconst 1, 1) := by decide +kernel
theorem wd_M_isWorn_92 : decode prog_8_method_17_code 92 = .ok (.goto 4, 3) := by decide +kernel
theorem wd_M_isWorn_95 : decode prog_8_method_17_code 95 = .ok (.iconst 0, 1) := by decide +kernel
theorem wd_M_isWorn_96 : decode prog_8_method_17_code 96 = .ok (.istore 6, 2) := by decide +kernel
theorem wd_M_isWorn_98 : decode prog_8_method_17_code 98 = .ok (.iconst 0, 1) := by decide +kernel
theorem wd_M_isWorn_99 : decode prog_8_method_17_code 99 = .ok (.istore 7, 2) := by decide +kernel
theorem wd_M_isWorn_101 : decode prog_8_method_17_code 101 = .ok (.iload_n 2, 1) := by decide +kernel
theorem wd_M_isWorn_102 : decode prog_8_method_17_code 102 = .ok (.istore 8, 2) := by decide +kernel
theorem wd_M_isWorn_104 : decode prog_8_method_17_code 104 = .ok (.iload 8, 2) := by decide +kernel
theorem wd_M_isWorn_106 : decode prog_8_method_17_code 106 = .ok (.iload_n 3, 1) := by decide +kernel
theorem wd_M_isWorn_107 : decode prog_8_method_17_code 107 = .ok (.if_icmp .gt 61, 3) := by decide +kernel
theorem wd_M_isWorn_110 : decode prog_8_method_17_code 110 = .ok (.aload_n 0, 1) := by decide +kernel
theorem wd_M_isWorn_111 : decode prog_8_method_17_code 111 = .ok (.getfield 7, 3) := by decide +kernel
theorem wd_M_isWorn_114 : decode prog_8_method_17_code 114 = .ok (.aload_n 1, 1) := by decide +kernel
theorem wd_M_isWorn_115 : decode prog_8_method_17_code 115 = .ok (.iload 8, 2) := by decide +kernel
theorem wd_M_isWorn_117 : decode prog_8_method_17_code 117 = .ok (.iaload, 1) := by decide +kernel
theorem wd_M_isWorn_118 : decode prog_8_method_17_code 118 = .ok (.iaload, 1) := by decide +kernel
theorem wd_M_isWorn_119 : decode prog_8_method_17_code 119 = .ok (.aload_n 0, 1) := by decide +kernel
theorem wd_M_isWorn_120 : decode prog_8_method_17_code 120 = .ok (.getfield 40, 3) := by decide +kernel
theorem wd_M_isWorn_123 : decode prog_8_method_17_code 123 = .ok (.iload 5, 2) := by decide +kernel
theorem wd_M_isWorn_125 : decode prog_8_method_17_code 125 = .ok (.iaload, 1) := by decide +kernel
theorem wd_M_isWorn_126 : decode prog_8_method_17_code 126 = .ok (.if_icmp .lt 36, 3) := by decide +kernel
theorem wd_M_isWorn_129 : decode prog_8_method_17_code 129 = .ok (.aload_n 0, 1) := by decide +kernel
theorem wd_M_isWorn_130 : decode prog_8_method_17_code 130 = .ok (.getfield 7, 3) := by decide +kernel
theorem wd_M_isWorn_133 : decode prog_8_method_17_code 133 = .ok (.aload_n 1, 1) := by decide +kernel
theorem wd_M_isWorn_134 : decode prog_8_method_17_code 134 = .ok (.iload 8, 2) := by decide +kernel
theorem wd_M_isWorn_136 : decode prog_8_method_17_code 136 = .ok (.iaload, 1) := by decide +kernel
theorem wd_M_isWorn_137 : decode prog_8_method_17_code 137 = .ok (.iaload, 1) := by decide +kernel
theorem wd_M_isWorn_138 : decode prog_8_method_17_code 138 = .ok (.aload_n 0, 1) := by decide +kernel
theorem wd_M_isWorn_139 : decode prog_8_method_17_code 139 = .ok (.getfield 43, 3) := by decide +kernel
theorem wd_M_isWorn_142 : decode prog_8_method_17_code 142 = .ok (.iload 5, 2) := by decide +kernel
theorem wd_M_isWorn_144 : decode prog_8_method_17_code 144 = .ok (.iaload, 1) := by decide +kernel
theorem wd_M_isWorn_145 : decode prog_8_method_17_code 145 = .ok (.if_icmp .gt 17, 3) := by decide +kernel
theorem wd_M_isWorn_148 : decode prog_8_method_17_code 148 = .ok (.iload 7, 2) := by decide +kernel
theorem wd_M_isWorn_150 : decode prog_8_method_17_code 150 = .ok (.aload_n 0, 1) := by decide +kernel
theorem wd_M_isWorn_151 : decode prog_8_method_17_code 151 = .ok (.getfield 19, 3) := by decide +kernel
theorem wd_M_isWorn_154 : decode prog_8_method_17_code 154 = .ok (.aload_n 1, 1) := by decide +kernel
theorem wd_M_isWorn_155 : decode prog_8_method_17_code 155 = .ok (.iload 8, 2) := by decide +kernel
theorem wd_M_isWorn_157 : decode prog_8_method_17_code 157 = .ok (.iaload, 1) := by decide +kernel
theorem wd_M_isWorn_158 : decode prog_8_method_17_code 158 = .ok (.iaload, 1) := by decide +kernel
theorem wd_M_isWorn_159 : decode prog_8_method_17_code 159 = .ok (.iadd, 1) := by decide +kernel
theorem wd_M_isWorn_160 : decode prog_8_method_17_code 160 = .ok (.istore 7, 2) := by decide +kernel
theorem wd_M_isWorn_162 : decode prog_8_method_17_code 162 = .ok (.iinc 8 1, 3) := by decide +kernel
theorem wd_M_isWorn_165 : decode prog_8_method_17_code 165 = .ok (.goto (-61), 3) := by decide +kernel
theorem wd_M_isWorn_168 : decode prog_8_method_17_code 168 = .ok (.iload 6, 2) := by decide +kernel
theorem wd_M_isWorn_170 : decode prog_8_method_17_code 170 = .ok (.ifCond .eq 17, 3) := by decide +kernel
theorem wd_M_isWorn_173 : decode prog_8_method_17_code 173 = .ok (.iload 7, 2) := by decide +kernel
theorem wd_M_isWorn_175 : decode prog_8_method_17_code 175 = .ok (.aload_n 0, 1) := by decide +kernel
theorem wd_M_isWorn_176 : decode prog_8_method_17_code 176 = .ok (.getfield 46, 3) := by decide +kernel
theorem wd_M_isWorn_179 : decode prog_8_method_17_code 179 = .ok (.iload 5, 2) := by decide +kernel
theorem wd_M_isWorn_181 : decode prog_8_method_17_code 181 = .ok (.iaload, 1) := by decide +kernel
theorem wd_M_isWorn_182 : decode prog_8_method_17_code 182 = .ok (.if_icmp .le 5, 3) := by decide +kernel
theorem wd_M_isWorn_185 : decode prog_8_method_17_code 185 = .ok (.iconst 1, 1) := by decide +kernel
theorem wd_M_isWorn_186 : decode prog_8_method_17_code 186 = .ok (.ireturn, 1) := by decide +kernel
theorem wd_M_isWorn_187 : decode prog_8_method_17_code 187 = .ok (.iinc 5 1, 3) := by decide +kernel
theorem wd_M_isWorn_190 : decode prog_8_method_17_code 190 = .ok (.goto (-144), 3) := by decide +kernel
theorem wd_M_isWorn_193 : decode prog_8_method_17_code 193 = .ok (.iconst 0, 1) := by decide +kernel
theorem wd_M_isWorn_194 : decode prog_8_method_17_code 194 = .ok (.ireturn, 1) := by decide +kernel
end
section

theorem wd_M_reckon_0 : decode prog_8_method_16_code 0 = .ok (.aload_n 0, 1) := by decide +kernel
theorem wd_M_reckon_1 : decode prog_8_method_16_code 1 = .ok (.iconst 0, 1) := by decide +kernel
theorem wd_M_reckon_2 : decode prog_8_method_16_code 2 = .ok (.putfield 110, 3) := by decide +kernel
theorem wd_M_reckon_5 : decode prog_8_method_16_code 5 = .ok (.aload_n 0, 1) := by decide +kernel
theorem wd_M_reckon_6 : decode prog_8_method_16_code 6 = .ok (.iconst 0, 1) := by decide +kernel
theorem wd_M_reckon_7 : decode prog_8_method_16_code 7 = .ok (.putfield 113, 3) := by decide +kernel
theorem wd_M_reckon_10 : decode prog_8_method_16_code 10 = .ok (.aload_n 0, 1) := by decide +kernel
theorem wd_M_reckon_11 : decode prog_8_method_16_code 11 = .ok (.iconst 0, 1) := by decide +kernel
theorem wd_M_reckon_12 : decode prog_8_method_16_code 12 = .ok (.putfield 116, 3) := by decide +kernel
theorem wd_M_reckon_15 : decode prog_8_method_16_code 15 = .ok (.iconst 0, 1) := by decide +kernel
theorem wd_M_reckon_16 : decode prog_8_method_16_code 16 = .ok (.istore_n 3, 1) := by decide +kernel
theorem wd_M_reckon_17 : decode prog_8_method_16_code 17 = .ok (.iconst 0, 1) := by decide +kernel
theorem wd_M_reckon_18 : decode prog_8_method_16_code 18 = .ok (.istore 4, 2) := by decide +kernel
theorem wd_M_reckon_20 : decode prog_8_method_16_code 20 = .ok (.iload 4, 2) := by decide +kernel
theorem wd_M_reckon_22 : decode prog_8_method_16_code 22 = .ok (.iload_n 2, 1) := by decide +kernel
theorem wd_M_reckon_23 : decode prog_8_method_16_code 23 = .ok (.if_icmp .ge 150, 3) := by decide +kernel
theorem wd_M_reckon_26 : decode prog_8_method_16_code 26 = .ok (.aload_n 0, 1) := by decide +kernel
theorem wd_M_reckon_27 : decode prog_8_method_16_code 27 = .ok (.getfield 65, 3) := by decide +kernel
theorem wd_M_reckon_30 : decode prog_8_method_16_code 30 = .ok (.iload 4, 2) := by decide +kernel
theorem wd_M_reckon_32 : decode prog_8_method_16_code 32 = .ok (.iload 4, 2) := by decide +kernel
theorem wd_M_reckon_34 : decode prog_8_method_16_code 34 = .ok (.ifCond .le 18, 3) := by decide +kernel
theorem wd_M_reckon_37 : decode prog_8_method_16_code 37 = .ok (.aload_n 0, 1) := by decide +kernel
theorem wd_M_reckon_38 : decode prog_8_method_16_code 38 = .ok (.aload_n 1, 1) := by decide +kernel
theorem wd_M_reckon_39 : decode prog_8_method_16_code 39 = .ok (.iload_n 3, 1) := by decide +kernel
theorem wd_M_reckon_40 : decode prog_8_method_16_code 40 = .ok (.iload 4, 2) := by decide +kernel
theorem wd_M_reckon_42 : decode prog_8_method_16_code 42 = .ok (.invokevirtual 119, 3) := by decide +kernel
theorem wd_M_reckon_45 : decode prog_8_method_16_code 45 = .ok (.ifCond .eq 7, 3) := by decide +kernel
theorem wd_M_reckon_48 : decode prog_8_method_16_code 48 = .ok (.iconst 1, 1) := by decide +kernel
theorem wd_M_reckon_49 : decode prog_8_method_16_code 49 = .ok (.goto 4, 3) := by decide +kernel
theorem wd_M_reckon_52 : decode prog_8_method_16_code 52 = .ok (.iconst 0, 1) := by decide +kernel
theorem wd_M_reckon_53 : decode prog_8_method_16_code 53 = .ok (.bastore, 1) := by decide +kernel
theorem wd_M_reckon_54 : decode prog_8_method_16_code 54 = .ok (.aload_n 0, 1) := by decide +kernel
theorem wd_M_reckon_55 : decode prog_8_method_16_code 55 = .ok (.getfield 65, 3) := by decide +kernel
theorem wd_M_reckon_58 : decode prog_8_method_16_code 58 = .ok (.iload 4, 2) := by decide +kernel
theorem wd_M_reckon_60 : decode prog_8_method_16_code 60 = .ok (.baload, 1) := by decide +kernel
theorem wd_M_reckon_61 : decode prog_8_method_16_code 61 = .ok (.ifCond .eq 29, 3) := by decide +kernel
theorem wd_M_reckon_64 : decode prog_8_method_16_code 64 = .ok (.iload 4, 2) := by decide +kernel
theorem wd_M_reckon_66 : decode prog_8_method_16_code 66 = .ok (.istore_n 3, 1) := by decide +kernel
theorem wd_M_reckon_67 : decode prog_8_method_16_code 67 = .ok (.aload_n 0, 1) := by decide +kernel
theorem wd_M_reckon_68 : decode prog_8_method_16_code 68 = .ok (.dup, 1) := by decide +kernel
theorem wd_M_reckon_69 : decode prog_8_method_16_code 69 = .ok (.getfield 113, 3) := by decide +kernel
theorem wd_M_reckon_72 : decode prog_8_method_16_code 72 = .ok (.iconst 1, 1) := by decide +kernel
theorem wd_M_reckon_73 : decode prog_8_method_16_code 73 = .ok (.iadd, 1) := by decide +kernel
theorem wd_M_reckon_74 : decode prog_8_method_16_code 74 = .ok (.putfield 113, 3) := by decide +kernel
theorem wd_M_reckon_77 : decode prog_8_method_16_code 77 = .ok (.aload_n 0, 1) := by decide +kernel
theorem wd_M_reckon_78 : decode prog_8_method_16_code 78 = .ok (.aload_n 0, 1) := by decide +kernel
theorem wd_M_reckon_79 : decode prog_8_method_16_code 79 = .ok (.getfield 110, 3) := by decide +kernel
theorem wd_M_reckon_82 : decode prog_8_method_16_code 82 = .ok (.aload_n 0, 1) := by decide +kernel
theorem wd_M_reckon_83 : decode prog_8_method_16_code 83 = .ok (.getfield 56, 3) := by decide +kernel
theorem wd_M_reckon_86 : decode prog_8_method_16_code 86 = .ok (.iadd, 1) := by decide +kernel
theorem wd_M_reckon_87 : decode prog_8_method_16_code 87 = .ok (.putfield 110, 3) := by decide +kernel
theorem wd_M_reckon_90 : decode prog_8_method_16_code 90 = .ok (.iload 4, 2) := by decide +kernel
theorem wd_M_reckon_92 : decode prog_8_method_16_code 92 = .ok (.ifCond .le 26, 3) := by decide +kernel
theorem wd_M_reckon_95 : decode prog_8_method_16_code 95 = .ok (.aload_n 0, 1) := by decide +kernel
theorem wd_M_reckon_96 : decode prog_8_method_16_code 96 = .ok (.aload_n 0, 1) := by decide +kernel
theorem wd_M_reckon_97 : decode prog_8_method_16_code 97 = .ok (.getfield 110, 3) := by decide +kernel
theorem wd_M_reckon_100 : decode prog_8_method_16_code 100 = .ok (.aload_n 0, 1) := by decide +kernel
theorem wd_M_reckon_101 : decode prog_8_method_16_code 101 = .ok (.aload_n 1, 1) := by decide +kernel
theorem wd_M_reckon_102 : decode prog_8_method_16_code 102 = .ok (.iload 4, 2) := by decide +kernel
theorem wd_M_reckon_104 : decode prog_8_method_16_code 104 = .ok (.iconst 1, 1) := by decide +kernel
theorem wd_M_reckon_105 : decode prog_8_method_16_code 105 = .ok (.isub, 1) := by decide +kernel
theorem wd_M_reckon_106 : decode prog_8_method_16_code 106 = .ok (.iaload, 1) := by decide +kernel
theorem wd_M_reckon_107 : decode prog_8_method_16_code 107 = .ok (.aload_n 1, 1) := by decide +kernel
theorem wd_M_reckon_108 : decode prog_8_method_16_code 108 = .ok (.iload 4, 2) := by decide +kernel
theorem wd_M_reckon_110 : decode prog_8_method_16_code 110 = .ok (.iaload, 1) := by decide +kernel
theorem wd_M_reckon_111 : decode prog_8_method_16_code 111 = .ok (.invokevirtual 107, 3) := by decide +kernel
theorem wd_M_reckon_114 : decode prog_8_method_16_code 114 = .ok (.iadd, 1) := by decide +kernel
theorem wd_M_reckon_115 : decode prog_8_method_16_code 115 = .ok (.putfield 110, 3) := by decide +kernel
theorem wd_M_reckon_118 : decode prog_8_method_16_code 118 = .ok (.aload_n 0, 1) := by decide +kernel
theorem wd_M_reckon_119 : decode prog_8_method_16_code 119 = .ok (.getfield 25, 3) := by decide +kernel
theorem wd_M_reckon_122 : decode prog_8_method_16_code 122 = .ok (.aload_n 1, 1) := by decide +kernel
theorem wd_M_reckon_123 : decode prog_8_method_16_code 123 = .ok (.iload 4, 2) := by decide +kernel
theorem wd_M_reckon_125 : decode prog_8_method_16_code 125 = .ok (.iaload, 1) := by decide +kernel
theorem wd_M_reckon_126 : decode prog_8_method_16_code 126 = .ok (.iaload, 1) := by decide +kernel
theorem wd_M_reckon_127 : decode prog_8_method_16_code 127 = .ok (.ifCond .lt 40, 3) := by decide +kernel
theorem wd_M_reckon_130 : decode prog_8_method_16_code 130 = .ok (.aload_n 0, 1) := by decide +kernel
theorem wd_M_reckon_131 : decode prog_8_method_16_code 131 = .ok (.getfield 25, 3) := by decide +kernel
theorem wd_M_reckon_134 : decode prog_8_method_16_code 134 = .ok (.aload_n 1, 1) := by decide +kernel
theorem wd_M_reckon_135 : decode prog_8_method_16_code 135 = .ok (.iload 4, 2) := by decide +kernel
theorem wd_M_reckon_137 : decode prog_8_method_16_code 137 = .ok (.iaload, 1) := by decide +kernel
theorem wd_M_reckon_138 : decode prog_8_method_16_code 138 = .ok (.iaload, 1) := by decide +kernel
theorem wd_M_reckon_139 : decode prog_8_method_16_code 139 = .ok (.iload 4, 2) := by decide +kernel
theorem wd_M_reckon_141 : decode prog_8_method_16_code 141 = .ok (.if_icmp .eq 26, 3) := by decide +kernel
theorem wd_M_reckon_144 : decode prog_8_method_16_code 144 = .ok (.aload_n 0, 1) := by decide +kernel
theorem wd_M_reckon_145 : decode prog_8_method_16_code 145 = .ok (.dup, 1) := by decide +kernel
theorem wd_M_reckon_146 : decode prog_8_method_16_code 146 = .ok (.getfield 116, 3) := by decide +kernel
theorem wd_M_reckon_149 : decode prog_8_method_16_code 149 = .ok (.iconst 1, 1) := by decide +kernel
theorem wd_M_reckon_150 : decode prog_8_method_16_code 150 = .ok (.iadd, 1) := by decide +kernel
theorem wd_M_reckon_151 : decode prog_8_method_16_code 151 = .ok (.putfield 116, 3) := by decide +kernel
theorem wd_M_reckon_154 : decode prog_8_method_16_code 154 = .ok (.aload_n 0, 1) := by decide +kernel
theorem wd_M_reckon_155 : decode prog_8_method_16_code 155 = .ok (.aload_n 0, 1) := by decide +kernel
theorem wd_M_reckon_156 : decode prog_8_method_16_code 156 = .ok (.getfield 110, 3) := by decide +kernel
theorem wd_M_reckon_159 : decode prog_8_method_16_code 159 = .ok (.aload_n 0, 1) := by decide +kernel
theorem wd_M_reckon_160 : decode prog_8_method_16_code 160 = .ok (.getfield 100, 3) := by decide +kernel
theorem wd_M_reckon_163 : decode prog_8_method_16_code 163 = .ok (.iadd, 1) := by decide +kernel
theorem wd_M_reckon_164 : decode prog_8_method_16_code 164 = .ok (.putfield 110, 3) := by decide +kernel
theorem wd_M_reckon_167 : decode prog_8_method_16_code 167 = .ok (.iinc 4 1, 3) := by decide +kernel
theorem wd_M_reckon_170 : decode prog_8_method_16_code 170 = .ok (.goto (-150), 3) := by decide +kernel
theorem wd_M_reckon_173 : decode prog_8_method_16_code 173 = .ok (.return_, 1) := by decide +kernel
end
section

theorem wd_M_stands_0 : decode prog_8_method_18_code 0 = .ok (.iconst 0, 1) := by decide +kernel
theorem wd_M_stands_1 : decode prog_8_method_18_code 1 = .ok (.istore_n 3, 1) := by decide +kernel
theorem wd_M_stands_2 : decode prog_8_method_18_code 2 = .ok (.iload_n 3, 1) := by decide +kernel
theorem wd_M_stands_3 : decode prog_8_method_18_code 3 = .ok (.iload_n 2, 1) := by decide +kernel
theorem wd_M_stands_4 : decode prog_8_method_18_code 4 = .ok (.if_icmp .ge 21, 3) := by decide +kernel
theorem wd_M_stands_7 : decode prog_8_method_18_code 7 = .ok (.aload_n 0, 1) := by decide +kernel
theorem wd_M_stands_8 : decode prog_8_method_18_code 8 = .ok (.getfield 62, 3) := by decide +kernel
theorem wd_M_stands_11 : decode prog_8_method_18_code 11 = .ok (.iload_n 3, 1) := by decide +kernel
theorem wd_M_stands_12 : decode prog_8_method_18_code 12 = .ok (.iaload, 1) := by decide +kernel
theorem wd_M_stands_13 : decode prog_8_method_18_code 13 = .ok (.iload_n 1, 1) := by decide +kernel
theorem wd_M_stands_14 : decode prog_8_method_18_code 14 = .ok (.if_icmp .ne 5, 3) := by decide +kernel
theorem wd_M_stands_17 : decode prog_8_method_18_code 17 = .ok (.iconst 1, 1) := by decide +kernel
theorem wd_M_stands_18 : decode prog_8_method_18_code 18 = .ok (.ireturn, 1) := by decide +kernel
theorem wd_M_stands_19 : decode prog_8_method_18_code 19 = .ok (.iinc 3 1, 3) := by decide +kernel
theorem wd_M_stands_22 : decode prog_8_method_18_code 22 = .ok (.goto (-20), 3) := by decide +kernel
theorem wd_M_stands_25 : decode prog_8_method_18_code 25 = .ok (.iconst 0, 1) := by decide +kernel
theorem wd_M_stands_26 : decode prog_8_method_18_code 26 = .ok (.ireturn, 1) := by decide +kernel
end
