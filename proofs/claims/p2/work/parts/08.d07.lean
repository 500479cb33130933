section

theorem wd_M_run_0 : decode prog_8_method_19_code 0 = .ok (.aload_n 0, 1) := by decide +kernel
theorem wd_M_run_1 : decode prog_8_method_19_code 1 = .ok (.iload_n 1, 1) := by decide +kernel
theorem wd_M_run_2 : decode prog_8_method_19_code 2 = .ok (.iconst 0, 1) := by decide +kernel
theorem wd_M_run_3 : decode prog_8_method_19_code 3 = .ok (.ldc 123, 2) := by decide +kernel
theorem wd_M_run_5 : decode prog_8_method_19_code 5 = .ok (.invokestatic 82, 3) := by decide +kernel
theorem wd_M_run_8 : decode prog_8_method_19_code 8 = .ok (.iconst 1, 1) := by decide +kernel
theorem wd_M_run_9 : decode prog_8_method_19_code 9 = .ok (.iconst 1, 1) := by decide +kernel
theorem wd_M_run_10 : decode prog_8_method_19_code 10 = .ok (.invokevirtual 86, 3) := by decide +kernel
theorem wd_M_run_13 : decode prog_8_method_19_code 13 = .ok (.ifCond .ne 5, 3) := by decide +kernel
theorem wd_M_run_16 : decode prog_8_method_19_code 16 = .ok (.iconst 0, 1) := by decide +kernel
theorem wd_M_run_17 : decode prog_8_method_19_code 17 = .ok (.ireturn, 1) := by decide +kernel
theorem wd_M_run_18 : decode prog_8_method_19_code 18 = .ok (.aload_n 0, 1) := by decide +kernel
theorem wd_M_run_19 : decode prog_8_method_19_code 19 = .ok (.iconst 1, 1) := by decide +kernel
theorem wd_M_run_20 : decode prog_8_method_19_code 20 = .ok (.putfield 72, 3) := by decide +kernel
theorem wd_M_run_23 : decode prog_8_method_19_code 23 = .ok (.aload_n 0, 1) := by decide +kernel
theorem wd_M_run_24 : decode prog_8_method_19_code 24 = .ok (.iconst 0, 1) := by decide +kernel
theorem wd_M_run_25 : decode prog_8_method_19_code 25 = .ok (.putfield 76, 3) := by decide +kernel
theorem wd_M_run_28 : decode prog_8_method_19_code 28 = .ok (.aload_n 0, 1) := by decide +kernel
theorem wd_M_run_29 : decode prog_8_method_19_code 29 = .ok (.iconst 1, 1) := by decide +kernel
theorem wd_M_run_30 : decode prog_8_method_19_code 30 = .ok (.putfield 124, 3) := by decide +kernel
theorem wd_M_run_33 : decode prog_8_method_19_code 33 = .ok (.iconst 0, 1) := by decide +kernel
theorem wd_M_run_34 : decode prog_8_method_19_code 34 = .ok (.istore_n 2, 1) := by decide +kernel
theorem wd_M_run_35 : decode prog_8_method_19_code 35 = .ok (.iload_n 1, 1) := by decide +kernel
theorem wd_M_run_36 : decode prog_8_method_19_code 36 = .ok (.istore_n 3, 1) := by decide +kernel
theorem wd_M_run_37 : decode prog_8_method_19_code 37 = .ok (.iconst 0, 1) := by decide +kernel
theorem wd_M_run_38 : decode prog_8_method_19_code 38 = .ok (.istore 4, 2) := by decide +kernel
theorem wd_M_run_40 : decode prog_8_method_19_code 40 = .ok (.aload_n 0, 1) := by decide +kernel
theorem wd_M_run_41 : decode prog_8_method_19_code 41 = .ok (.getfield 62, 3) := by decide +kernel
theorem wd_M_run_44 : decode prog_8_method_19_code 44 = .ok (.iconst 0, 1) := by decide +kernel
theorem wd_M_run_45 : decode prog_8_method_19_code 45 = .ok (.iconst 0, 1) := by decide +kernel
theorem wd_M_run_46 : decode prog_8_method_19_code 46 = .ok (.iastore, 1) := by decide +kernel
theorem wd_M_run_47 : decode prog_8_method_19_code 47 = .ok (.aload_n 0, 1) := by decide +kernel
theorem wd_M_run_48 : decode prog_8_method_19_code 48 = .ok (.getfield 79, 3) := by decide +kernel
theorem wd_M_run_51 : decode prog_8_method_19_code 51 = .ok (.ifCond .ne 10, 3) := by decide +kernel
theorem wd_M_run_54 : decode prog_8_method_19_code 54 = .ok (.aload_n 0, 1) := by decide +kernel
theorem wd_M_run_55 : decode prog_8_method_19_code 55 = .ok (.iconst 1, 1) := by decide +kernel
theorem wd_M_run_56 : decode prog_8_method_19_code 56 = .ok (.putfield 76, 3) := by decide +kernel
theorem wd_M_run_59 : decode prog_8_method_19_code 59 = .ok (.iconst 0, 1) := by decide +kernel
theorem wd_M_run_60 : decode prog_8_method_19_code 60 = .ok (.ireturn, 1) := by decide +kernel
theorem wd_M_run_61 : decode prog_8_method_19_code 61 = .ok (.iload 4, 2) := by decide +kernel
theorem wd_M_run_63 : decode prog_8_method_19_code 63 = .ok (.ifCond .lt 228, 3) := by decide +kernel
theorem wd_M_run_66 : decode prog_8_method_19_code 66 = .ok (.iload 4, 2) := by decide +kernel
theorem wd_M_run_68 : decode prog_8_method_19_code 68 = .ok (.aload_n 0, 1) := by decide +kernel
theorem wd_M_run_69 : decode prog_8_method_19_code 69 = .ok (.getfield 79, 3) := by decide +kernel
theorem wd_M_run_72 : decode prog_8_method_19_code 72 = .ok (.if_icmp .eq 17, 3) := by decide +kernel
theorem wd_M_run_75 : decode prog_8_method_19_code 75 = .ok (.aload_n 0, 1) := by decide +kernel
theorem wd_M_run_76 : decode prog_8_method_19_code 76 = .ok (.getfield 62, 3) := by decide +kernel
theorem wd_M_run_79 : decode prog_8_method_19_code 79 = .ok (.iload 4, 2) := by decide +kernel
theorem wd_M_run_81 : decode prog_8_method_19_code 81 = .ok (.iaload, 1) := by decide +kernel
theorem wd_M_run_82 : decode prog_8_method_19_code 82 = .ok (.aload_n 0, 1) := by decide +kernel
theorem wd_M_run_83 : decode prog_8_method_19_code 83 = .ok (.getfield 79, 3) := by decide +kernel
theorem wd_M_run_86 : decode prog_8_method_19_code 86 = .ok (.if_icmp .ne 25, 3) := by decide +kernel
theorem wd_M_run_89 : decode prog_8_method_19_code 89 = .ok (.iinc 4 (-1), 3) := by decide +kernel
theorem wd_M_run_92 : decode prog_8_method_19_code 92 = .ok (.iload 4, 2) := by decide +kernel
theorem wd_M_run_94 : decode prog_8_method_19_code 94 = .ok (.ifCond .lt (-33), 3) := by decide +kernel
theorem wd_M_run_97 : decode prog_8_method_19_code 97 = .ok (.aload_n 0, 1) := by decide +kernel
theorem wd_M_run_98 : decode prog_8_method_19_code 98 = .ok (.getfield 62, 3) := by decide +kernel
theorem wd_M_run_101 : decode prog_8_method_19_code 101 = .ok (.iload 4, 2) := by decide +kernel
theorem wd_M_run_103 : decode prog_8_method_19_code 103 = .ok (.dup2, 1) := by decide +kernel
theorem wd_M_run_104 : decode prog_8_method_19_code 104 = .ok (.iaload, 1) := by decide +kernel
theorem wd_M_run_105 : decode prog_8_method_19_code 105 = .ok (.iconst 1, 1) := by decide +kernel
theorem wd_M_run_106 : decode prog_8_method_19_code 106 = .ok (.iadd, 1) := by decide +kernel
theorem wd_M_run_107 : decode prog_8_method_19_code 107 = .ok (.iastore, 1) := by decide +kernel
theorem wd_M_run_108 : decode prog_8_method_19_code 108 = .ok (.goto (-47), 3) := by decide +kernel
theorem wd_M_run_111 : decode prog_8_method_19_code 111 = .ok (.aload_n 0, 1) := by decide +kernel
theorem wd_M_run_112 : decode prog_8_method_19_code 112 = .ok (.aload_n 0, 1) := by decide +kernel
theorem wd_M_run_113 : decode prog_8_method_19_code 113 = .ok (.getfield 62, 3) := by decide +kernel
theorem wd_M_run_116 : decode prog_8_method_19_code 116 = .ok (.iload 4, 2) := by decide +kernel
theorem wd_M_run_118 : decode prog_8_method_19_code 118 = .ok (.iaload, 1) := by decide +kernel
theorem wd_M_run_119 : decode prog_8_method_19_code 119 = .ok (.iload 4, 2) := by decide +kernel
theorem wd_M_run_121 : decode prog_8_method_19_code 121 = .ok (.invokevirtual 127, 3) := by decide +kernel
theorem wd_M_run_124 : decode prog_8_method_19_code 124 = .ok (.ifCond .ne 16, 3) := by decide +kernel
theorem wd_M_run_127 : decode prog_8_method_19_code 127 = .ok (.aload_n 0, 1) := by decide +kernel
theorem wd_M_run_128 : decode prog_8_method_19_code 128 = .ok (.aload_n 0, 1) := by decide +kernel
theorem wd_M_run_129 : decode prog_8_method_19_code 129 = .ok (.getfield 62, 3) := by decide +kernel
theorem wd_M_run_132 : decode prog_8_method_19_code 132 = .ok (.iload 4, 2) := by decide +kernel
theorem wd_M_run_134 : decode prog_8_method_19_code 134 = .ok (.invokevirtual 131, 3) := by decide +kernel
theorem wd_M_run_137 : decode prog_8_method_19_code 137 = .ok (.ifCond .ne 17, 3) := by decide +kernel
theorem wd_M_run_140 : decode prog_8_method_19_code 140 = .ok (.aload_n 0, 1) := by decide +kernel
theorem wd_M_run_141 : decode prog_8_method_19_code 141 = .ok (.getfield 62, 3) := by decide +kernel
theorem wd_M_run_144 : decode prog_8_method_19_code 144 = .ok (.iload 4, 2) := by decide +kernel
theorem wd_M_run_146 : decode prog_8_method_19_code 146 = .ok (.dup2, 1) := by decide +kernel
theorem wd_M_run_147 : decode prog_8_method_19_code 147 = .ok (.iaload, 1) := by decide +kernel
theorem wd_M_run_148 : decode prog_8_method_19_code 148 = .ok (.iconst 1, 1) := by decide +kernel
theorem wd_M_run_149 : decode prog_8_method_19_code 149 = .ok (.iadd, 1) := by decide +kernel
theorem wd_M_run_150 : decode prog_8_method_19_code 150 = .ok (.iastore, 1) := by decide +kernel
theorem wd_M_run_151 : decode prog_8_method_19_code 151 = .ok (.goto (-90), 3) := by decide +kernel
theorem wd_M_run_154 : decode prog_8_method_19_code 154 = .ok (.iload_n 3, 1) := by decide +kernel
theorem wd_M_run_155 : decode prog_8_method_19_code 155 = .ok (.ifCond .ne 11, 3) := by decide +kernel
theorem wd_M_run_158 : decode prog_8_method_19_code 158 = .ok (.aload_n 0, 1) := by decide +kernel
theorem wd_M_run_159 : decode prog_8_method_19_code 159 = .ok (.iconst 0, 1) := by decide +kernel
theorem wd_M_run_160 : decode prog_8_method_19_code 160 = .ok (.putfield 124, 3) := by decide +kernel
theorem wd_M_run_163 : decode prog_8_method_19_code 163 = .ok (.goto 128, 3) := by decide +kernel
theorem wd_M_run_166 : decode prog_8_method_19_code 166 = .ok (.iinc 3 (-1), 3) := by decide +kernel
theorem wd_M_run_169 : decode prog_8_method_19_code 169 = .ok (.aload_n 0, 1) := by decide +kernel
theorem wd_M_run_170 : decode prog_8_method_19_code 170 = .ok (.aload_n 0, 1) := by decide +kernel
theorem wd_M_run_171 : decode prog_8_method_19_code 171 = .ok (.getfield 62, 3) := by decide +kernel
theorem wd_M_run_174 : decode prog_8_method_19_code 174 = .ok (.iload 4, 2) := by decide +kernel
theorem wd_M_run_176 : decode prog_8_method_19_code 176 = .ok (.iconst 1, 1) := by decide +kernel
theorem wd_M_run_177 : decode prog_8_method_19_code 177 = .ok (.iadd, 1) := by decide +kernel
theorem wd_M_run_178 : decode prog_8_method_19_code 178 = .ok (.invokevirtual 135, 3) := by decide +kernel
theorem wd_M_run_181 : decode prog_8_method_19_code 181 = .ok (.aload_n 0, 1) := by decide +kernel
theorem wd_M_run_182 : decode prog_8_method_19_code 182 = .ok (.getfield 76, 3) := by decide +kernel
theorem wd_M_run_185 : decode prog_8_method_19_code 185 = .ok (.ifCond .eq 25, 3) := by decide +kernel
theorem wd_M_run_188 : decode prog_8_method_19_code 188 = .ok (.aload_n 0, 1) := by decide +kernel
theorem wd_M_run_189 : decode prog_8_method_19_code 189 = .ok (.getfield 110, 3) := by decide +kernel
theorem wd_M_run_192 : decode prog_8_method_19_code 192 = .ok (.iload_n 2, 1) := by decide +kernel
theorem wd_M_run_193 : decode prog_8_method_19_code 193 = .ok (.if_icmp .lt 17, 3) := by decide +kernel
theorem wd_M_run_196 : decode prog_8_method_19_code 196 = .ok (.aload_n 0, 1) := by decide +kernel
theorem wd_M_run_197 : decode prog_8_method_19_code 197 = .ok (.getfield 62, 3) := by decide +kernel
theorem wd_M_run_200 : decode prog_8_method_19_code 200 = .ok (.iload 4, 2) := by decide +kernel
theorem wd_M_run_202 : decode prog_8_method_19_code 202 = .ok (.dup2, 1) := by decide +kernel
theorem wd_M_run_203 : decode prog_8_method_19_code 203 = .ok (.iaload, 1) := by decide +kernel
theorem wd_M_run_204 : decode prog_8_method_19_code 204 = .ok (.iconst 1, 1) := by decide +kernel
theorem wd_M_run_205 : decode prog_8_method_19_code 205 = .ok (.iadd, 1) := by decide +kernel
theorem wd_M_run_206 : decode prog_8_method_19_code 206 = .ok (.iastore, 1) := by decide +kernel
theorem wd_M_run_207 : decode prog_8_method_19_code 207 = .ok (.goto (-146), 3) := by decide +kernel
theorem wd_M_run_210 : decode prog_8_method_19_code 210 = .ok (.iload 4, 2) := by decide +kernel
theorem wd_M_run_212 : decode prog_8_method_19_code 212 = .ok (.aload_n 0, 1) := by decide +kernel
theorem wd_M_run_213 : decode prog_8_method_19_code 213 = .ok (.getfield 79, 3) := by decide +kernel
theorem wd_M_run_216 : decode prog_8_method_19_code 216 = .ok (.iconst 1, 1) := by decide +kernel
theorem wd_M_run_217 : decode prog_8_method_19_code 217 = .ok (.isub, 1) := by decide +kernel
theorem wd_M_run_218 : decode prog_8_method_19_code 218 = .ok (.if_icmp .ne 59, 3) := by decide +kernel
theorem wd_M_run_221 : decode prog_8_method_19_code 221 = .ok (.aload_n 0, 1) := by decide +kernel
theorem wd_M_run_222 : decode prog_8_method_19_code 222 = .ok (.iconst 1, 1) := by decide +kernel
theorem wd_M_run_223 : decode prog_8_method_19_code 223 = .ok (.putfield 76, 3) := by decide +kernel
theorem wd_M_run_226 : decode prog_8_method_19_code 226 = .ok (.aload_n 0, 1) := by decide +kernel
theorem wd_M_run_227 : decode prog_8_method_19_code 227 = .ok (.getfield 110, 3) := by decide +kernel
theorem wd_M_run_230 : decode prog_8_method_19_code 230 = .ok (.istore_n 2, 1) := by decide +kernel
theorem wd_M_run_231 : decode prog_8_method_19_code 231 = .ok (.iconst 0, 1) := by decide +kernel
theorem wd_M_run_232 : decode prog_8_method_19_code 232 = .ok (.istore 5, 2) := by decide +kernel
theorem wd_M_run_234 : decode prog_8_method_19_code 234 = .ok (.iload 5, 2) := by decide +kernel
theorem wd_M_run_236 : decode prog_8_method_19_code 236 = .ok (.aload_n 0, 1) := by decide +kernel
theorem wd_M_run_237 : decode prog_8_method_19_code 237 = .ok (.getfield 79, 3) := by decide +kernel
theorem wd_M_run_240 : decode prog_8_method_19_code 240 = .ok (.if_icmp .ge 23, 3) := by decide +kernel
theorem wd_M_run_243 : decode prog_8_method_19_code 243 = .ok (.aload_n 0, 1) := by decide +kernel
theorem wd_M_run_244 : decode prog_8_method_19_code 244 = .ok (.getfield 59, 3) := by decide +kernel
theorem wd_M_run_247 : decode prog_8_method_19_code 247 = .ok (.iload 5, 2) := by decide +kernel
theorem wd_M_run_249 : decode prog_8_method_19_code 249 = .ok (.aload_n 0, 1) := by decide +kernel
theorem wd_M_run_250 : decode prog_8_method_19_code 250 = .ok (.getfield 62, 3) := by decide +kernel
theorem wd_M_run_253 : decode prog_8_method_19_code 253 = .ok (.iload 5, 2) := by decide +kernel
theorem wd_M_run_255 : decode prog_8_method_19_code 255 = .ok (.iaload, 1) := by decide +kernel
theorem wd_M_run_256 : decode prog_8_method_19_code 256 = .ok (.iastore, 1) := by decide +kernel
theorem wd_M_run_257 : decode prog_8_method_19_code 257 = .ok (.iinc 5 1, 3) := by decide +kernel
theorem wd_M_run_260 : decode prog_8_method_19_code 260 = .ok (.goto (-26), 3) := by decide +kernel
theorem wd_M_run_263 : decode prog_8_method_19_code 263 = .ok (.aload_n 0, 1) := by decide +kernel
theorem wd_M_run_264 : decode prog_8_method_19_code 264 = .ok (.getfield 62, 3) := by decide +kernel
theorem wd_M_run_267 : decode prog_8_method_19_code 267 = .ok (.iload 4, 2) := by decide +kernel
theorem wd_M_run_269 : decode prog_8_method_19_code 269 = .ok (.dup2, 1) := by decide +kernel
theorem wd_M_run_270 : decode prog_8_method_19_code 270 = .ok (.iaload, 1) := by decide +kernel
theorem wd_M_run_271 : decode prog_8_method_19_code 271 = .ok (.iconst 1, 1) := by decide +kernel
theorem wd_M_run_272 : decode prog_8_method_19_code 272 = .ok (.iadd, 1) := by decide +kernel
theorem wd_M_run_273 : decode prog_8_method_19_code 273 = .ok (.iastore, 1) := by decide +kernel
theorem wd_M_run_274 : decode prog_8_method_19_code 274 = .ok (.goto (-213), 3) := by decide +kernel
theorem wd_M_run_277 : decode prog_8_method_19_code 277 = .ok (.iinc 4 1, 3) := by decide +kernel
theorem wd_M_run_280 : decode prog_8_method_19_code 280 = .ok (.aload_n 0, 1) := by decide +kernel
theorem wd_M_run_281 : decode prog_8_method_19_code 281 = .ok (.getfield 62, 3) := by decide +kernel
theorem wd_M_run_284 : decode prog_8_method_19_code 284 = .ok (.iload 4, 2) := by decide +kernel
theorem wd_M_run_286 : decode prog_8_method_19_code 286 = .ok (.iconst 0, 1) := by decide +kernel
theorem wd_M_run_287 : decode prog_8_method_19_code 287 = .ok (.iastore, 1) := by decide +kernel
theorem wd_M_run_288 : decode prog_8_method_19_code 288 = .ok (.goto (-227), 3) := by decide +kernel
theorem wd_M_run_291 : decode prog_8_method_19_code 291 = .ok (.aload_n 0, 1) := by decide +kernel
theorem wd_M_run_292 : decode prog_8_method_19_code 292 = .ok (.getfield 76, 3) := by decide +kernel
theorem wd_M_run_295 : decode prog_8_method_19_code 295 = .ok (.ifCond .eq 10, 3) := by decide +kernel
theorem wd_M_run_298 : decode prog_8_method_19_code 298 = .ok (.aload_n 0, 1) := by decide +kernel
theorem wd_M_run_299 : decode prog_8_method_19_code 299 = .ok (.getfield 79, 3) := by decide +kernel
theorem wd_M_run_302 : decode prog_8_method_19_code 302 = .ok (.goto 4, 3) := by decide +kernel
theorem wd_M_run_305 : decode prog_8_method_19_code 305 = .ok (.iconst (-1), 1) := by decide +kernel
theorem wd_M_run_306 : decode prog_8_method_19_code 306 = .ok (.ireturn, 1) := by decide +kernel
end
section

theorem wd_M_proved_0 : decode prog_8_method_20_code 0 = .ok (.aload_n 0, 1) := by decide +kernel
theorem wd_M_proved_1 : decode prog_8_method_20_code 1 = .ok (.aload_n 0, 1) := by decide +kernel
theorem wd_M_proved_2 : decode prog_8_method_20_code 2 = .ok (.getfield 72, 3) := by decide +kernel
theorem wd_M_proved_5 : decode prog_8_method_20_code 5 = .ok (.iconst 1, 1) := by decide +kernel
theorem wd_M_proved_6 : decode prog_8_method_20_code 6 = .ok (.iconst 1, 1) := by decide +kernel
theorem wd_M_proved_7 : decode prog_8_method_20_code 7 = .ok (.invokevirtual 86, 3) := by decide +kernel
theorem wd_M_proved_10 : decode prog_8_method_20_code 10 = .ok (.ifCond .eq 14, 3) := by decide +kernel
theorem wd_M_proved_13 : decode prog_8_method_20_code 13 = .ok (.aload_n 0, 1) := by decide +kernel
theorem wd_M_proved_14 : decode prog_8_method_20_code 14 = .ok (.getfield 124, 3) := by decide +kernel
theorem wd_M_proved_17 : decode prog_8_method_20_code 17 = .ok (.ifCond .eq 7, 3) := by decide +kernel
theorem wd_M_proved_20 : decode prog_8_method_20_code 20 = .ok (.iconst 1, 1) := by decide +kernel
theorem wd_M_proved_21 : decode prog_8_method_20_code 21 = .ok (.goto 4, 3) := by decide +kernel
theorem wd_M_proved_24 : decode prog_8_method_20_code 24 = .ok (.iconst 0, 1) := by decide +kernel
theorem wd_M_proved_25 : decode prog_8_method_20_code 25 = .ok (.ireturn, 1) := by decide +kernel
end
section

theorem wd_M_order_0 : decode prog_8_method_21_code 0 = .ok (.aload_n 0, 1) := by decide +kernel
theorem wd_M_order_1 : decode prog_8_method_21_code 1 = .ok (.aload_n 0, 1) := by decide +kernel
theorem wd_M_order_2 : decode prog_8_method_21_code 2 = .ok (.getfield 76, 3) := by decide +kernel
theorem wd_M_order_5 : decode prog_8_method_21_code 5 = .ok (.ifCond .ne 7, 3) := by decide +kernel
theorem wd_M_order_8 : decode prog_8_method_21_code 8 = .ok (.iconst 2, 1) := by decide +kernel
theorem wd_M_order_9 : decode prog_8_method_21_code 9 = .ok (.goto 22, 3) := by decide +kernel
theorem wd_M_order_12 : decode prog_8_method_21_code 12 = .ok (.iload_n 1, 1) := by decide +kernel
theorem wd_M_order_13 : decode prog_8_method_21_code 13 = .ok (.iconst 0, 1) := by decide +kernel
theorem wd_M_order_14 : decode prog_8_method_21_code 14 = .ok (.aload_n 0, 1) := by decide +kernel
theorem wd_M_order_15 : decode prog_8_method_21_code 15 = .ok (.getfield 79, 3) := by decide +kernel
theorem wd_M_order_18 : decode prog_8_method_21_code 18 = .ok (.iconst 1, 1) := by decide +kernel
theorem wd_M_order_19 : decode prog_8_method_21_code 19 = .ok (.isub, 1) := by decide +kernel
theorem wd_M_order_20 : decode prog_8_method_21_code 20 = .ok (.invokestatic 82, 3) := by decide +kernel
theorem wd_M_order_23 : decode prog_8_method_21_code 23 = .ok (.ifCond .ne 7, 3) := by decide +kernel
theorem wd_M_order_26 : decode prog_8_method_21_code 26 = .ok (.iconst 1, 1) := by decide +kernel
theorem wd_M_order_27 : decode prog_8_method_21_code 27 = .ok (.goto 4, 3) := by decide +kernel
theorem wd_M_order_30 : decode prog_8_method_21_code 30 = .ok (.iconst 0, 1) := by decide +kernel
theorem wd_M_order_31 : decode prog_8_method_21_code 31 = .ok (.putfield 69, 3) := by decide +kernel
theorem wd_M_order_34 : decode prog_8_method_21_code 34 = .ok (.aload_n 0, 1) := by decide +kernel
theorem wd_M_order_35 : decode prog_8_method_21_code 35 = .ok (.getfield 69, 3) := by decide +kernel
theorem wd_M_order_38 : decode prog_8_method_21_code 38 = .ok (.ifCond .le 7, 3) := by decide +kernel
theorem wd_M_order_41 : decode prog_8_method_21_code 41 = .ok (.iconst 0, 1) := by decide +kernel
theorem wd_M_order_42 : decode prog_8_method_21_code 42 = .ok (.goto 9, 3) := by decide +kernel
theorem wd_M_order_45 : decode prog_8_method_21_code 45 = .ok (.aload_n 0, 1) := by decide +kernel
theorem wd_M_order_46 : decode prog_8_method_21_code 46 = .ok (.getfield 59, 3) := by decide +kernel
theorem wd_M_order_49 : decode prog_8_method_21_code 49 = .ok (.iload_n 1, 1) := by decide +kernel
theorem wd_M_order_50 : decode prog_8_method_21_code 50 = .ok (.iaload, 1) := by decide +kernel
theorem wd_M_order_51 : decode prog_8_method_21_code 51 = .ok (.ireturn, 1) := by decide +kernel
end
section

theorem wd_M_told_0 : decode prog_8_method_22_code 0 = .ok (.aload_n 0, 1) := by decide +kernel
theorem wd_M_told_1 : decode prog_8_method_22_code 1 = .ok (.iload_n 1, 1) := by decide +kernel
theorem wd_M_told_2 : decode prog_8_method_22_code 2 = .ok (.iconst 0, 1) := by decide +kernel
theorem wd_M_told_3 : decode prog_8_method_22_code 3 = .ok (.iconst 2, 1) := by decide +kernel
theorem wd_M_told_4 : decode prog_8_method_22_code 4 = .ok (.invokestatic 82, 3) := by decide +kernel
theorem wd_M_told_7 : decode prog_8_method_22_code 7 = .ok (.aload_n 0, 1) := by decide +kernel
theorem wd_M_told_8 : decode prog_8_method_22_code 8 = .ok (.getfield 76, 3) := by decide +kernel
theorem wd_M_told_11 : decode prog_8_method_22_code 11 = .ok (.iconst 1, 1) := by decide +kernel
theorem wd_M_told_12 : decode prog_8_method_22_code 12 = .ok (.invokevirtual 86, 3) := by decide +kernel
theorem wd_M_told_15 : decode prog_8_method_22_code 15 = .ok (.ifCond .ne 5, 3) := by decide +kernel
theorem wd_M_told_18 : decode prog_8_method_22_code 18 = .ok (.iconst 0, 1) := by decide +kernel
theorem wd_M_told_19 : decode prog_8_method_22_code 19 = .ok (.ireturn, 1) := by decide +kernel
theorem wd_M_told_20 : decode prog_8_method_22_code 20 = .ok (.aload_n 0, 1) := by decide +kernel
theorem wd_M_told_21 : decode prog_8_method_22_code 21 = .ok (.aload_n 0, 1) := by decide +kernel
theorem wd_M_told_22 : decode prog_8_method_22_code 22 = .ok (.getfield 59, 3) := by decide +kernel
theorem wd_M_told_25 : decode prog_8_method_22_code 25 = .ok (.aload_n 0, 1) := by decide +kernel
theorem wd_M_told_26 : decode prog_8_method_22_code 26 = .ok (.getfield 79, 3) := by decide +kernel
theorem wd_M_told_29 : decode prog_8_method_22_code 29 = .ok (.invokevirtual 135, 3) := by decide +kernel
theorem wd_M_told_32 : decode prog_8_method_22_code 32 = .ok (.iload_n 1, 1) := by decide +kernel
theorem wd_M_told_33 : decode prog_8_method_22_code 33 = .ok (.ifCond .ne 10, 3) := by decide +kernel
theorem wd_M_told_36 : decode prog_8_method_22_code 36 = .ok (.aload_n 0, 1) := by decide +kernel
theorem wd_M_told_37 : decode prog_8_method_22_code 37 = .ok (.getfield 110, 3) := by decide +kernel
theorem wd_M_told_40 : decode prog_8_method_22_code 40 = .ok (.goto 19, 3) := by decide +kernel
theorem wd_M_told_43 : decode prog_8_method_22_code 43 = .ok (.iload_n 1, 1) := by decide +kernel
theorem wd_M_told_44 : decode prog_8_method_22_code 44 = .ok (.iconst 1, 1) := by decide +kernel
theorem wd_M_told_45 : decode prog_8_method_22_code 45 = .ok (.if_icmp .ne 10, 3) := by decide +kernel
theorem wd_M_told_48 : decode prog_8_method_22_code 48 = .ok (.aload_n 0, 1) := by decide +kernel
theorem wd_M_told_49 : decode prog_8_method_22_code 49 = .ok (.getfield 113, 3) := by decide +kernel
theorem wd_M_told_52 : decode prog_8_method_22_code 52 = .ok (.goto 7, 3) := by decide +kernel
theorem wd_M_told_55 : decode prog_8_method_22_code 55 = .ok (.aload_n 0, 1) := by decide +kernel
theorem wd_M_told_56 : decode prog_8_method_22_code 56 = .ok (.getfield 116, 3) := by decide +kernel
theorem wd_M_told_59 : decode prog_8_method_22_code 59 = .ok (.ireturn, 1) := by decide +kernel
end
section

theorem wd_M_change_0 : decode prog_8_method_23_code 0 = .ok (.aload_n 0, 1) := by decide +kernel
theorem wd_M_change_1 : decode prog_8_method_23_code 1 = .ok (.aload_n 0, 1) := by decide +kernel
theorem wd_M_change_2 : decode prog_8_method_23_code 2 = .ok (.getfield 76, 3) := by decide +kernel
theorem wd_M_change_5 : decode prog_8_method_23_code 5 = .ok (.ifCond .ne 7, 3) := by decide +kernel
theorem wd_M_change_8 : decode prog_8_method_23_code 8 = .ok (.iconst 2, 1) := by decide +kernel
theorem wd_M_change_9 : decode prog_8_method_23_code 9 = .ok (.goto 22, 3) := by decide +kernel
theorem wd_M_change_12 : decode prog_8_method_23_code 12 = .ok (.iload_n 1, 1) := by decide +kernel
theorem wd_M_change_13 : decode prog_8_method_23_code 13 = .ok (.iconst 0, 1) := by decide +kernel
theorem wd_M_change_14 : decode prog_8_method_23_code 14 = .ok (.aload_n 0, 1) := by decide +kernel
theorem wd_M_change_15 : decode prog_8_method_23_code 15 = .ok (.getfield 79, 3) := by decide +kernel
theorem wd_M_change_18 : decode prog_8_method_23_code 18 = .ok (.iconst 1, 1) := by decide +kernel
theorem wd_M_change_19 : decode prog_8_method_23_code 19 = .ok (.isub, 1) := by decide +kernel
theorem wd_M_change_20 : decode prog_8_method_23_code 20 = .ok (.invokestatic 82, 3) := by decide +kernel
theorem wd_M_change_23 : decode prog_8_method_23_code 23 = .ok (.ifCond .ne 7, 3) := by decide +kernel
theorem wd_M_change_26 : decode prog_8_method_23_code 26 = .ok (.iconst 1, 1) := by decide +kernel
theorem wd_M_change_27 : decode prog_8_method_23_code 27 = .ok (.goto 4, 3) := by decide +kernel
theorem wd_M_change_30 : decode prog_8_method_23_code 30 = .ok (.iconst 0, 1) := by decide +kernel
theorem wd_M_change_31 : decode prog_8_method_23_code 31 = .ok (.putfield 69, 3) := by decide +kernel
theorem wd_M_change_34 : decode prog_8_method_23_code 34 = .ok (.aload_n 0, 1) := by decide +kernel
theorem wd_M_change_35 : decode prog_8_method_23_code 35 = .ok (.getfield 69, 3) := by decide +kernel
theorem wd_M_change_38 : decode prog_8_method_23_code 38 = .ok (.ifCond .le 5, 3) := by decide +kernel
theorem wd_M_change_41 : decode prog_8_method_23_code 41 = .ok (.iconst 0, 1) := by decide +kernel
theorem wd_M_change_42 : decode prog_8_method_23_code 42 = .ok (.ireturn, 1) := by decide +kernel
theorem wd_M_change_43 : decode prog_8_method_23_code 43 = .ok (.aload_n 0, 1) := by decide +kernel
theorem wd_M_change_44 : decode prog_8_method_23_code 44 = .ok (.aload_n 0, 1) := by decide +kernel
theorem wd_M_change_45 : decode prog_8_method_23_code 45 = .ok (.getfield 59, 3) := by decide +kernel
theorem wd_M_change_48 : decode prog_8_method_23_code 48 = .ok (.aload_n 0, 1) := by decide +kernel
theorem wd_M_change_49 : decode prog_8_method_23_code 49 = .ok (.getfield 79, 3) := by decide +kernel
theorem wd_M_change_52 : decode prog_8_method_23_code 52 = .ok (.invokevirtual 135, 3) := by decide +kernel
theorem wd_M_change_55 : decode prog_8_method_23_code 55 = .ok (.aload_n 0, 1) := by decide +kernel
theorem wd_M_change_56 : decode prog_8_method_23_code 56 = .ok (.getfield 65, 3) := by decide +kernel
theorem wd_M_change_59 : decode prog_8_method_23_code 59 = .ok (.iload_n 1, 1) := by decide +kernel
theorem wd_M_change_60 : decode prog_8_method_23_code 60 = .ok (.baload, 1) := by decide +kernel
theorem wd_M_change_61 : decode prog_8_method_23_code 61 = .ok (.ireturn, 1) := by decide +kernel
end
section

theorem wd_M_jump_0 : decode prog_8_method_24_code 0 = .ok (.aload_n 0, 1) := by decide +kernel
theorem wd_M_jump_1 : decode prog_8_method_24_code 1 = .ok (.aload_n 0, 1) := by decide +kernel
theorem wd_M_jump_2 : decode prog_8_method_24_code 2 = .ok (.iload_n 1, 1) := by decide +kernel
theorem wd_M_jump_3 : decode prog_8_method_24_code 3 = .ok (.invokevirtual 96, 3) := by decide +kernel
theorem wd_M_jump_6 : decode prog_8_method_24_code 6 = .ok (.ifCond .eq 20, 3) := by decide +kernel
theorem wd_M_jump_9 : decode prog_8_method_24_code 9 = .ok (.aload_n 0, 1) := by decide +kernel
theorem wd_M_jump_10 : decode prog_8_method_24_code 10 = .ok (.iload_n 2, 1) := by decide +kernel
theorem wd_M_jump_11 : decode prog_8_method_24_code 11 = .ok (.invokevirtual 96, 3) := by decide +kernel
theorem wd_M_jump_14 : decode prog_8_method_24_code 14 = .ok (.ifCond .eq 12, 3) := by decide +kernel
theorem wd_M_jump_17 : decode prog_8_method_24_code 17 = .ok (.iload_n 1, 1) := by decide +kernel
theorem wd_M_jump_18 : decode prog_8_method_24_code 18 = .ok (.iload_n 2, 1) := by decide +kernel
theorem wd_M_jump_19 : decode prog_8_method_24_code 19 = .ok (.if_icmp .eq 7, 3) := by decide +kernel
theorem wd_M_jump_22 : decode prog_8_method_24_code 22 = .ok (.iconst 1, 1) := by decide +kernel
theorem wd_M_jump_23 : decode prog_8_method_24_code 23 = .ok (.goto 4, 3) := by decide +kernel
theorem wd_M_jump_26 : decode prog_8_method_24_code 26 = .ok (.iconst 0, 1) := by decide +kernel
theorem wd_M_jump_27 : decode prog_8_method_24_code 27 = .ok (.iconst 1, 1) := by decide +kernel
theorem wd_M_jump_28 : decode prog_8_method_24_code 28 = .ok (.iconst 1, 1) := by decide +kernel
theorem wd_M_jump_29 : decode prog_8_method_24_code 29 = .ok (.invokevirtual 86, 3) := by decide +kernel
theorem wd_M_jump_32 : decode prog_8_method_24_code 32 = .ok (.ifCond .ne 5, 3) := by decide +kernel
theorem wd_M_jump_35 : decode prog_8_method_24_code 35 = .ok (.iconst 0, 1) := by decide +kernel
theorem wd_M_jump_36 : decode prog_8_method_24_code 36 = .ok (.ireturn, 1) := by decide +kernel
theorem wd_M_jump_37 : decode prog_8_method_24_code 37 = .ok (.aload_n 0, 1) := by decide +kernel
theorem wd_M_jump_38 : decode prog_8_method_24_code 38 = .ok (.iload_n 1, 1) := by decide +kernel
theorem wd_M_jump_39 : decode prog_8_method_24_code 39 = .ok (.iload_n 2, 1) := by decide +kernel
theorem wd_M_jump_40 : decode prog_8_method_24_code 40 = .ok (.invokevirtual 107, 3) := by decide +kernel
theorem wd_M_jump_43 : decode prog_8_method_24_code 43 = .ok (.ireturn, 1) := by decide +kernel
end
