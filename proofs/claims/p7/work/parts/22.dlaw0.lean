theorem wd_K_law_23 : decode code 23 = .ok (.iload 4, 2) := by decide +kernel
theorem wd_K_law_25 : decode code 25 = .ok (.aload_n 0, 1) := by decide +kernel
theorem wd_K_law_26 : decode code 26 = .ok (.arraylength, 1) := by decide +kernel
theorem wd_K_law_27 : decode code 27 = .ok (.iconst 5, 1) := by decide +kernel
theorem wd_K_law_28 : decode code 28 = .ok (.isub, 1) := by decide +kernel
theorem wd_K_law_29 : decode code 29 = .ok (.if_icmp .gt 681, 3) := by decide +kernel
theorem wd_K_law_32 : decode code 32 = .ok (.aload_n 0, 1) := by decide +kernel
theorem wd_K_law_33 : decode code 33 = .ok (.iload 4, 2) := by decide +kernel
theorem wd_K_law_35 : decode code 35 = .ok (.iaload, 1) := by decide +kernel
theorem wd_K_law_36 : decode code 36 = .ok (.bipush 15, 2) := by decide +kernel
theorem wd_K_law_38 : decode code 38 = .ok (.iand, 1) := by decide +kernel
theorem wd_K_law_39 : decode code 39 = .ok (.tableswitch 665 0 14 #[73, 137, 201, 253, 290, 327, 399, 427, 443, 471, 499, 527, 567, 580, 637], 73) := by decide +kernel
theorem wd_K_law_112 : decode code 112 = .ok (.aload_n 1, 1) := by decide +kernel
theorem wd_K_law_113 : decode code 113 = .ok (.aload_n 0, 1) := by decide +kernel
theorem wd_K_law_114 : decode code 114 = .ok (.iload 4, 2) := by decide +kernel
theorem wd_K_law_116 : decode code 116 = .ok (.iconst 1, 1) := by decide +kernel
theorem wd_K_law_117 : decode code 117 = .ok (.iadd, 1) := by decide +kernel
theorem wd_K_law_118 : decode code 118 = .ok (.iaload, 1) := by decide +kernel
theorem wd_K_law_119 : decode code 119 = .ok (.aload_n 0, 1) := by decide +kernel
theorem wd_K_law_120 : decode code 120 = .ok (.iload 4, 2) := by decide +kernel
theorem wd_K_law_122 : decode code 122 = .ok (.iconst 2, 1) := by decide +kernel
theorem wd_K_law_123 : decode code 123 = .ok (.iadd, 1) := by decide +kernel
theorem wd_K_law_124 : decode code 124 = .ok (.iaload, 1) := by decide +kernel
theorem wd_K_law_125 : decode code 125 = .ok (.aload_n 0, 1) := by decide +kernel
theorem wd_K_law_126 : decode code 126 = .ok (.iload 4, 2) := by decide +kernel
theorem wd_K_law_128 : decode code 128 = .ok (.iconst 3, 1) := by decide +kernel
theorem wd_K_law_129 : decode code 129 = .ok (.iadd, 1) := by decide +kernel
theorem wd_K_law_130 : decode code 130 = .ok (.iaload, 1) := by decide +kernel
theorem wd_K_law_131 : decode code 131 = .ok (.aload_n 0, 1) := by decide +kernel
theorem wd_K_law_132 : decode code 132 = .ok (.iload 4, 2) := by decide +kernel
theorem wd_K_law_134 : decode code 134 = .ok (.iconst 4, 1) := by decide +kernel
theorem wd_K_law_135 : decode code 135 = .ok (.iadd, 1) := by decide +kernel
theorem wd_K_law_136 : decode code 136 = .ok (.iaload, 1) := by decide +kernel
theorem wd_K_law_137 : decode code 137 = .ok (.aload_n 3, 1) := by decide +kernel
theorem wd_K_law_138 : decode code 138 = .ok (.invokestatic 72, 3) := by decide +kernel
theorem wd_K_law_141 : decode code 141 = .ok (.istore 5, 2) := by decide +kernel
theorem wd_K_law_143 : decode code 143 = .ok (.aload_n 2, 1) := by decide +kernel
theorem wd_K_law_144 : decode code 144 = .ok (.aload_n 0, 1) := by decide +kernel
theorem wd_K_law_145 : decode code 145 = .ok (.iload 4, 2) := by decide +kernel
theorem wd_K_law_147 : decode code 147 = .ok (.iconst 1, 1) := by decide +kernel
theorem wd_K_law_148 : decode code 148 = .ok (.iadd, 1) := by decide +kernel
theorem wd_K_law_149 : decode code 149 = .ok (.iaload, 1) := by decide +kernel
theorem wd_K_law_150 : decode code 150 = .ok (.aload_n 0, 1) := by decide +kernel
theorem wd_K_law_151 : decode code 151 = .ok (.iload 4, 2) := by decide +kernel
theorem wd_K_law_153 : decode code 153 = .ok (.iconst 2, 1) := by decide +kernel
theorem wd_K_law_154 : decode code 154 = .ok (.iadd, 1) := by decide +kernel
theorem wd_K_law_155 : decode code 155 = .ok (.iaload, 1) := by decide +kernel
theorem wd_K_law_156 : decode code 156 = .ok (.aload_n 0, 1) := by decide +kernel
theorem wd_K_law_157 : decode code 157 = .ok (.iload 4, 2) := by decide +kernel
theorem wd_K_law_159 : decode code 159 = .ok (.iconst 3, 1) := by decide +kernel
theorem wd_K_law_160 : decode code 160 = .ok (.iadd, 1) := by decide +kernel
theorem wd_K_law_161 : decode code 161 = .ok (.iaload, 1) := by decide +kernel
theorem wd_K_law_162 : decode code 162 = .ok (.aload_n 0, 1) := by decide +kernel
theorem wd_K_law_163 : decode code 163 = .ok (.iload 4, 2) := by decide +kernel
theorem wd_K_law_165 : decode code 165 = .ok (.iconst 4, 1) := by decide +kernel
theorem wd_K_law_166 : decode code 166 = .ok (.iadd, 1) := by decide +kernel
theorem wd_K_law_167 : decode code 167 = .ok (.iaload, 1) := by decide +kernel
theorem wd_K_law_168 : decode code 168 = .ok (.invokevirtual 77, 3) := by decide +kernel
theorem wd_K_law_171 : decode code 171 = .ok (.istore 6, 2) := by decide +kernel
theorem wd_K_law_173 : decode code 173 = .ok (.goto 531, 3) := by decide +kernel
theorem wd_K_law_176 : decode code 176 = .ok (.aload_n 1, 1) := by decide +kernel
theorem wd_K_law_177 : decode code 177 = .ok (.aload_n 0, 1) := by decide +kernel
theorem wd_K_law_178 : decode code 178 = .ok (.iload 4, 2) := by decide +kernel
theorem wd_K_law_180 : decode code 180 = .ok (.iconst 1, 1) := by decide +kernel
theorem wd_K_law_181 : decode code 181 = .ok (.iadd, 1) := by decide +kernel
theorem wd_K_law_182 : decode code 182 = .ok (.iaload, 1) := by decide +kernel
theorem wd_K_law_183 : decode code 183 = .ok (.aload_n 0, 1) := by decide +kernel
theorem wd_K_law_184 : decode code 184 = .ok (.iload 4, 2) := by decide +kernel
theorem wd_K_law_186 : decode code 186 = .ok (.iconst 2, 1) := by decide +kernel
theorem wd_K_law_187 : decode code 187 = .ok (.iadd, 1) := by decide +kernel
theorem wd_K_law_188 : decode code 188 = .ok (.iaload, 1) := by decide +kernel
theorem wd_K_law_189 : decode code 189 = .ok (.aload_n 0, 1) := by decide +kernel
theorem wd_K_law_190 : decode code 190 = .ok (.iload 4, 2) := by decide +kernel
theorem wd_K_law_192 : decode code 192 = .ok (.iconst 3, 1) := by decide +kernel
theorem wd_K_law_193 : decode code 193 = .ok (.iadd, 1) := by decide +kernel
theorem wd_K_law_194 : decode code 194 = .ok (.iaload, 1) := by decide +kernel
theorem wd_K_law_195 : decode code 195 = .ok (.aload_n 0, 1) := by decide +kernel
theorem wd_K_law_196 : decode code 196 = .ok (.iload 4, 2) := by decide +kernel
theorem wd_K_law_198 : decode code 198 = .ok (.iconst 4, 1) := by decide +kernel
theorem wd_K_law_199 : decode code 199 = .ok (.iadd, 1) := by decide +kernel
theorem wd_K_law_200 : decode code 200 = .ok (.iaload, 1) := by decide +kernel
theorem wd_K_law_201 : decode code 201 = .ok (.aload_n 3, 1) := by decide +kernel
theorem wd_K_law_202 : decode code 202 = .ok (.invokestatic 78, 3) := by decide +kernel
theorem wd_K_law_205 : decode code 205 = .ok (.istore 5, 2) := by decide +kernel
theorem wd_K_law_207 : decode code 207 = .ok (.aload_n 2, 1) := by decide +kernel
theorem wd_K_law_208 : decode code 208 = .ok (.aload_n 0, 1) := by decide +kernel
theorem wd_K_law_209 : decode code 209 = .ok (.iload 4, 2) := by decide +kernel
theorem wd_K_law_211 : decode code 211 = .ok (.iconst 1, 1) := by decide +kernel
theorem wd_K_law_212 : decode code 212 = .ok (.iadd, 1) := by decide +kernel
theorem wd_K_law_213 : decode code 213 = .ok (.iaload, 1) := by decide +kernel
theorem wd_K_law_214 : decode code 214 = .ok (.aload_n 0, 1) := by decide +kernel
theorem wd_K_law_215 : decode code 215 = .ok (.iload 4, 2) := by decide +kernel
theorem wd_K_law_217 : decode code 217 = .ok (.iconst 2, 1) := by decide +kernel
theorem wd_K_law_218 : decode code 218 = .ok (.iadd, 1) := by decide +kernel
theorem wd_K_law_219 : decode code 219 = .ok (.iaload, 1) := by decide +kernel
theorem wd_K_law_220 : decode code 220 = .ok (.aload_n 0, 1) := by decide +kernel
theorem wd_K_law_221 : decode code 221 = .ok (.iload 4, 2) := by decide +kernel
theorem wd_K_law_223 : decode code 223 = .ok (.iconst 3, 1) := by decide +kernel
theorem wd_K_law_224 : decode code 224 = .ok (.iadd, 1) := by decide +kernel
theorem wd_K_law_225 : decode code 225 = .ok (.iaload, 1) := by decide +kernel
theorem wd_K_law_226 : decode code 226 = .ok (.aload_n 0, 1) := by decide +kernel
theorem wd_K_law_227 : decode code 227 = .ok (.iload 4, 2) := by decide +kernel
theorem wd_K_law_229 : decode code 229 = .ok (.iconst 4, 1) := by decide +kernel
theorem wd_K_law_230 : decode code 230 = .ok (.iadd, 1) := by decide +kernel
theorem wd_K_law_231 : decode code 231 = .ok (.iaload, 1) := by decide +kernel
theorem wd_K_law_232 : decode code 232 = .ok (.invokevirtual 80, 3) := by decide +kernel
theorem wd_K_law_235 : decode code 235 = .ok (.istore 6, 2) := by decide +kernel
theorem wd_K_law_237 : decode code 237 = .ok (.goto 467, 3) := by decide +kernel
theorem wd_K_law_240 : decode code 240 = .ok (.aload_n 1, 1) := by decide +kernel
theorem wd_K_law_241 : decode code 241 = .ok (.aload_n 0, 1) := by decide +kernel
theorem wd_K_law_242 : decode code 242 = .ok (.iload 4, 2) := by decide +kernel
theorem wd_K_law_244 : decode code 244 = .ok (.iconst 1, 1) := by decide +kernel
theorem wd_K_law_245 : decode code 245 = .ok (.iadd, 1) := by decide +kernel
theorem wd_K_law_246 : decode code 246 = .ok (.iaload, 1) := by decide +kernel
theorem wd_K_law_247 : decode code 247 = .ok (.aload_n 0, 1) := by decide +kernel
theorem wd_K_law_248 : decode code 248 = .ok (.iload 4, 2) := by decide +kernel
theorem wd_K_law_250 : decode code 250 = .ok (.iconst 2, 1) := by decide +kernel
theorem wd_K_law_251 : decode code 251 = .ok (.iadd, 1) := by decide +kernel
theorem wd_K_law_252 : decode code 252 = .ok (.iaload, 1) := by decide +kernel
theorem wd_K_law_253 : decode code 253 = .ok (.aload_n 0, 1) := by decide +kernel
theorem wd_K_law_254 : decode code 254 = .ok (.iload 4, 2) := by decide +kernel
theorem wd_K_law_256 : decode code 256 = .ok (.iconst 3, 1) := by decide +kernel
theorem wd_K_law_257 : decode code 257 = .ok (.iadd, 1) := by decide +kernel
theorem wd_K_law_258 : decode code 258 = .ok (.iaload, 1) := by decide +kernel
theorem wd_K_law_259 : decode code 259 = .ok (.aload_n 3, 1) := by decide +kernel
theorem wd_K_law_260 : decode code 260 = .ok (.invokestatic 81, 3) := by decide +kernel
theorem wd_K_law_263 : decode code 263 = .ok (.istore 5, 2) := by decide +kernel
theorem wd_K_law_265 : decode code 265 = .ok (.aload_n 2, 1) := by decide +kernel
theorem wd_K_law_266 : decode code 266 = .ok (.aload_n 0, 1) := by decide +kernel
theorem wd_K_law_267 : decode code 267 = .ok (.iload 4, 2) := by decide +kernel
