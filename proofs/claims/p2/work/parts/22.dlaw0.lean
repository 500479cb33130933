theorem wd_K_law_23 : decode code 23 = .ok (.iload 4, 2) := by decide +kernel
theorem wd_K_law_25 : decode code 25 = .ok (.aload_n 0, 1) := by decide +kernel
theorem wd_K_law_26 : decode code 26 = .ok (.arraylength, 1) := by decide +kernel
theorem wd_K_law_27 : decode code 27 = .ok (.iconst 5, 1) := by decide +kernel
theorem wd_K_law_28 : decode code 28 = .ok (.isub, 1) := by decide +kernel
theorem wd_K_law_29 : decode code 29 = .ok (.if_icmp .gt 698, 3) := by decide +kernel
theorem wd_K_law_32 : decode code 32 = .ok (.aload_n 0, 1) := by decide +kernel
theorem wd_K_law_33 : decode code 33 = .ok (.iload 4, 2) := by decide +kernel
theorem wd_K_law_35 : decode code 35 = .ok (.iaload, 1) := by decide +kernel
theorem wd_K_law_36 : decode code 36 = .ok (.bipush 15, 2) := by decide +kernel
theorem wd_K_law_38 : decode code 38 = .ok (.iand, 1) := by decide +kernel
theorem wd_K_law_39 : decode code 39 = .ok (.tableswitch 682 0 14 #[73, 165, 229, 281, 318, 355, 416, 444, 460, 488, 516, 544, 584, 597, 654], 73) := by decide +kernel
theorem wd_K_law_112 : decode code 112 = .ok (.aload_n 1, 1) := by decide +kernel
theorem wd_K_law_113 : decode code 113 = .ok (.aload_n 0, 1) := by decide +kernel
theorem wd_K_law_114 : decode code 114 = .ok (.iload 4, 2) := by decide +kernel
theorem wd_K_law_116 : decode code 116 = .ok (.iconst 1, 1) := by decide +kernel
theorem wd_K_law_117 : decode code 117 = .ok (.iadd, 1) := by decide +kernel
theorem wd_K_law_118 : decode code 118 = .ok (.iaload, 1) := by decide +kernel
theorem wd_K_law_119 : decode code 119 = .ok (.aload_n 0, 1) := by decide +kernel
theorem wd_K_law_120 : decode code 120 = .ok (.iload 4, 2) := by decide +kernel
theorem wd_K_law_122 : decode code 122 = .ok (.iconst 2, 1) := by decide +kernel
theorem wd_K_law_123 : decode code 123 = .ok (.iadd, 1) := by decide +kernel
theorem wd_K_law_124 : decode code 124 = .ok (.iaload, 1) := by decide +kernel
theorem wd_K_law_125 : decode code 125 = .ok (.aload_n 0, 1) := by decide +kernel
theorem wd_K_law_126 : decode code 126 = .ok (.iload 4, 2) := by decide +kernel
theorem wd_K_law_128 : decode code 128 = .ok (.iconst 3, 1) := by decide +kernel
theorem wd_K_law_129 : decode code 129 = .ok (.iadd, 1) := by decide +kernel
theorem wd_K_law_130 : decode code 130 = .ok (.iaload, 1) := by decide +kernel
theorem wd_K_law_131 : decode code 131 = .ok (.aload_n 0, 1) := by decide +kernel
theorem wd_K_law_132 : decode code 132 = .ok (.iload 4, 2) := by decide +kernel
theorem wd_K_law_134 : decode code 134 = .ok (.iconst 4, 1) := by decide +kernel
theorem wd_K_law_135 : decode code 135 = .ok (.iadd, 1) := by decide +kernel
theorem wd_K_law_136 : decode code 136 = .ok (.iaload, 1) := by decide +kernel
theorem wd_K_law_137 : decode code 137 = .ok (.aload_n 3, 1) := by decide +kernel
theorem wd_K_law_138 : decode code 138 = .ok (.invokestatic 72, 3) := by decide +kernel
theorem wd_K_law_141 : decode code 141 = .ok (.istore 5, 2) := by decide +kernel
theorem wd_K_law_143 : decode code 143 = .ok (.aload_n 2, 1) := by decide +kernel
theorem wd_K_law_144 : decode code 144 = .ok (.aload_n 0, 1) := by decide +kernel
theorem wd_K_law_145 : decode code 145 = .ok (.iload 4, 2) := by decide +kernel
theorem wd_K_law_147 : decode code 147 = .ok (.iconst 1, 1) := by decide +kernel
theorem wd_K_law_148 : decode code 148 = .ok (.iadd, 1) := by decide +kernel
theorem wd_K_law_149 : decode code 149 = .ok (.iaload, 1) := by decide +kernel
theorem wd_K_law_150 : decode code 150 = .ok (.aload_n 0, 1) := by decide +kernel
theorem wd_K_law_151 : decode code 151 = .ok (.iload 4, 2) := by decide +kernel
theorem wd_K_law_153 : decode code 153 = .ok (.iconst 2, 1) := by decide +kernel
theorem wd_K_law_154 : decode code 154 = .ok (.iadd, 1) := by decide +kernel
theorem wd_K_law_155 : decode code 155 = .ok (.iaload, 1) := by decide +kernel
theorem wd_K_law_156 : decode code 156 = .ok (.aload_n 0, 1) := by decide +kernel
theorem wd_K_law_157 : decode code 157 = .ok (.iload 4, 2) := by decide +kernel
theorem wd_K_law_159 : decode code 159 = .ok (.iconst 3, 1) := by decide +kernel
theorem wd_K_law_160 : decode code 160 = .ok (.iadd, 1) := by decide +kernel
theorem wd_K_law_161 : decode code 161 = .ok (.iaload, 1) := by decide +kernel
theorem wd_K_law_162 : decode code 162 = .ok (.aload_n 0, 1) := by decide +kernel
theorem wd_K_law_163 : decode code 163 = .ok (.iload 4, 2) := by decide +kernel
theorem wd_K_law_165 : decode code 165 = .ok (.iconst 4, 1) := by decide +kernel
theorem wd_K_law_166 : decode code 166 = .ok (.iadd, 1) := by decide +kernel
theorem wd_K_law_167 : decode code 167 = .ok (.iaload, 1) := by decide +kernel
theorem wd_K_law_168 : decode code 168 = .ok (.invokevirtual 77, 3) := by decide +kernel
theorem wd_K_law_171 : decode code 171 = .ok (.istore 6, 2) := by decide +kernel
theorem wd_K_law_173 : decode code 173 = .ok (.aload_n 2, 1) := by decide +kernel
theorem wd_K_law_174 : decode code 174 = .ok (.invokevirtual 78, 3) := by decide +kernel
theorem wd_K_law_177 : decode code 177 = .ok (.iload 5, 2) := by decide +kernel
theorem wd_K_law_179 : decode code 179 = .ok (.if_icmp .eq 5, 3) := by decide +kernel
theorem wd_K_law_182 : decode code 182 = .ok (.iconst 0, 1) := by decide +kernel
theorem wd_K_law_183 : decode code 183 = .ok (.ireturn, 1) := by decide +kernel
theorem wd_K_law_184 : decode code 184 = .ok (.iload 5, 2) := by decide +kernel
theorem wd_K_law_186 : decode code 186 = .ok (.ifCond .ne 15, 3) := by decide +kernel
theorem wd_K_law_189 : decode code 189 = .ok (.aload_n 3, 1) := by decide +kernel
theorem wd_K_law_190 : decode code 190 = .ok (.iconst 0, 1) := by decide +kernel
theorem wd_K_law_191 : decode code 191 = .ok (.laload, 1) := by decide +kernel
theorem wd_K_law_192 : decode code 192 = .ok (.iload 6, 2) := by decide +kernel
theorem wd_K_law_194 : decode code 194 = .ok (.i2l, 1) := by decide +kernel
theorem wd_K_law_195 : decode code 195 = .ok (.lcmp, 1) := by decide +kernel
theorem wd_K_law_196 : decode code 196 = .ok (.ifCond .eq 5, 3) := by decide +kernel
theorem wd_K_law_199 : decode code 199 = .ok (.iconst 0, 1) := by decide +kernel
theorem wd_K_law_200 : decode code 200 = .ok (.ireturn, 1) := by decide +kernel
theorem wd_K_law_201 : decode code 201 = .ok (.goto 520, 3) := by decide +kernel
theorem wd_K_law_204 : decode code 204 = .ok (.aload_n 1, 1) := by decide +kernel
theorem wd_K_law_205 : decode code 205 = .ok (.aload_n 0, 1) := by decide +kernel
theorem wd_K_law_206 : decode code 206 = .ok (.iload 4, 2) := by decide +kernel
theorem wd_K_law_208 : decode code 208 = .ok (.iconst 1, 1) := by decide +kernel
theorem wd_K_law_209 : decode code 209 = .ok (.iadd, 1) := by decide +kernel
theorem wd_K_law_210 : decode code 210 = .ok (.iaload, 1) := by decide +kernel
theorem wd_K_law_211 : decode code 211 = .ok (.aload_n 0, 1) := by decide +kernel
theorem wd_K_law_212 : decode code 212 = .ok (.iload 4, 2) := by decide +kernel
theorem wd_K_law_214 : decode code 214 = .ok (.iconst 2, 1) := by decide +kernel
theorem wd_K_law_215 : decode code 215 = .ok (.iadd, 1) := by decide +kernel
theorem wd_K_law_216 : decode code 216 = .ok (.iaload, 1) := by decide +kernel
theorem wd_K_law_217 : decode code 217 = .ok (.aload_n 0, 1) := by decide +kernel
theorem wd_K_law_218 : decode code 218 = .ok (.iload 4, 2) := by decide +kernel
theorem wd_K_law_220 : decode code 220 = .ok (.iconst 3, 1) := by decide +kernel
theorem wd_K_law_221 : decode code 221 = .ok (.iadd, 1) := by decide +kernel
theorem wd_K_law_222 : decode code 222 = .ok (.iaload, 1) := by decide +kernel
theorem wd_K_law_223 : decode code 223 = .ok (.aload_n 0, 1) := by decide +kernel
theorem wd_K_law_224 : decode code 224 = .ok (.iload 4, 2) := by decide +kernel
theorem wd_K_law_226 : decode code 226 = .ok (.iconst 4, 1) := by decide +kernel
theorem wd_K_law_227 : decode code 227 = .ok (.iadd, 1) := by decide +kernel
theorem wd_K_law_228 : decode code 228 = .ok (.iaload, 1) := by decide +kernel
theorem wd_K_law_229 : decode code 229 = .ok (.aload_n 3, 1) := by decide +kernel
theorem wd_K_law_230 : decode code 230 = .ok (.invokestatic 82, 3) := by decide +kernel
theorem wd_K_law_233 : decode code 233 = .ok (.istore 5, 2) := by decide +kernel
theorem wd_K_law_235 : decode code 235 = .ok (.aload_n 2, 1) := by decide +kernel
theorem wd_K_law_236 : decode code 236 = .ok (.aload_n 0, 1) := by decide +kernel
theorem wd_K_law_237 : decode code 237 = .ok (.iload 4, 2) := by decide +kernel
theorem wd_K_law_239 : decode code 239 = .ok (.iconst 1, 1) := by decide +kernel
theorem wd_K_law_240 : decode code 240 = .ok (.iadd, 1) := by decide +kernel
theorem wd_K_law_241 : decode code 241 = .ok (.iaload, 1) := by decide +kernel
theorem wd_K_law_242 : decode code 242 = .ok (.aload_n 0, 1) := by decide +kernel
theorem wd_K_law_243 : decode code 243 = .ok (.iload 4, 2) := by decide +kernel
theorem wd_K_law_245 : decode code 245 = .ok (.iconst 2, 1) := by decide +kernel
theorem wd_K_law_246 : decode code 246 = .ok (.iadd, 1) := by decide +kernel
theorem wd_K_law_247 : decode code 247 = .ok (.iaload, 1) := by decide +kernel
theorem wd_K_law_248 : decode code 248 = .ok (.aload_n 0, 1) := by decide +kernel
theorem wd_K_law_249 : decode code 249 = .ok (.iload 4, 2) := by decide +kernel
theorem wd_K_law_251 : decode code 251 = .ok (.iconst 3, 1) := by decide +kernel
theorem wd_K_law_252 : decode code 252 = .ok (.iadd, 1) := by decide +kernel
theorem wd_K_law_253 : decode code 253 = .ok (.iaload, 1) := by decide +kernel
theorem wd_K_law_254 : decode code 254 = .ok (.aload_n 0, 1) := by decide +kernel
theorem wd_K_law_255 : decode code 255 = .ok (.iload 4, 2) := by decide +kernel
theorem wd_K_law_257 : decode code 257 = .ok (.iconst 4, 1) := by decide +kernel
theorem wd_K_law_258 : decode code 258 = .ok (.iadd, 1) := by decide +kernel
theorem wd_K_law_259 : decode code 259 = .ok (.iaload, 1) := by decide +kernel
theorem wd_K_law_260 : decode code 260 = .ok (.invokevirtual 84, 3) := by decide +kernel
theorem wd_K_law_263 : decode code 263 = .ok (.istore 6, 2) := by decide +kernel
theorem wd_K_law_265 : decode code 265 = .ok (.goto 456, 3) := by decide +kernel
theorem wd_K_law_268 : decode code 268 = .ok (.aload_n 1, 1) := by decide +kernel
theorem wd_K_law_269 : decode code 269 = .ok (.aload_n 0, 1) := by decide +kernel
theorem wd_K_law_270 : decode code 270 = .ok (.iload 4, 2) := by decide +kernel
theorem wd_K_law_272 : decode code 272 = .ok (.iconst 1, 1) := by decide +kernel
theorem wd_K_law_273 : decode code 273 = .ok (.iadd, 1) := by decide +kernel
