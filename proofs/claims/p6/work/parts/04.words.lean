/-! words that rows use -/
theorem wt_1 : (.initialized "WidthCampaigns" : Cond) ∈ wx_all := wx_mem 45 (by decide +kernel) (by decide +kernel)
theorem wt_2 : (.initialized "WidthCampaigns$Plant" : Cond) ∈ wx_all := wx_mem 46 (by decide +kernel) (by decide +kernel)
theorem wt_3 : (.initialized "WidthCampaigns$JumpTable" : Cond) ∈ wx_all := wx_mem 47 (by decide +kernel) (by decide +kernel)
theorem wt_4 : (.initialized "WidthCampaigns$WidthGroups" : Cond) ∈ wx_all := wx_mem 48 (by decide +kernel) (by decide +kernel)
theorem wt_5 : (.initialized "WidthCampaigns$Line" : Cond) ∈ wx_all := wx_mem 49 (by decide +kernel) (by decide +kernel)
theorem wt_6 : (.initialized "WidthCampaigns$Search" : Cond) ∈ wx_all := wx_mem 50 (by decide +kernel) (by decide +kernel)
theorem wt_7 : (.initialized "WidthCampaignsModel" : Cond) ∈ wx_all := wx_mem 51 (by decide +kernel) (by decide +kernel)
theorem wt_11 : (.initialized "java/lang/IllegalArgumentException" : Cond) ∈ wx_all := wx_mem 55 (by decide +kernel) (by decide +kernel)
theorem wt_12 : (.initialized "java/lang/UnsupportedOperationException" : Cond) ∈ wx_all := wx_mem 56 (by decide +kernel) (by decide +kernel)
theorem wt_13 : (.initialized "java/lang/Math" : Cond) ∈ wx_all := wx_mem 57 (by decide +kernel) (by decide +kernel)
theorem wt_14 : (.initialized "java/lang/IndexOutOfBoundsException" : Cond) ∈ wx_all := wx_mem 58 (by decide +kernel) (by decide +kernel)
theorem wt_15 : (.initialized "java/lang/System" : Cond) ∈ wx_all := wx_mem 59 (by decide +kernel) (by decide +kernel)
theorem wt_16 : (.initialized "java/lang/IllegalStateException" : Cond) ∈ wx_all := wx_mem 60 (by decide +kernel) (by decide +kernel)
theorem wt_39 : (.fieldLink "WidthCampaigns$JumpTable" 9 "WidthCampaigns$JumpTable" "from" "[I" : Cond) ∈ wx_all := wx_mem 83 (by decide +kernel) (by decide +kernel)
theorem wt_40 : (.fieldLink "WidthCampaigns$JumpTable" 15 "WidthCampaigns$JumpTable" "to" "[I" : Cond) ∈ wx_all := wx_mem 84 (by decide +kernel) (by decide +kernel)
theorem wt_41 : (.fieldLink "WidthCampaigns$JumpTable" 18 "WidthCampaigns$JumpTable" "cost" "[I" : Cond) ∈ wx_all := wx_mem 85 (by decide +kernel) (by decide +kernel)
theorem wt_42 : (.fieldLink "WidthCampaigns$JumpTable" 21 "WidthCampaigns$JumpTable" "rows" "I" : Cond) ∈ wx_all := wx_mem 86 (by decide +kernel) (by decide +kernel)
theorem wt_60 : (.fieldLink "WidthCampaigns$WidthGroups" 9 "WidthCampaigns$WidthGroups" "from" "[I" : Cond) ∈ wx_all := wx_mem 104 (by decide +kernel) (by decide +kernel)
theorem wt_62 : (.fieldLink "WidthCampaigns$WidthGroups" 15 "WidthCampaigns$WidthGroups" "to" "[I" : Cond) ∈ wx_all := wx_mem 106 (by decide +kernel) (by decide +kernel)
theorem wt_64 : (.fieldLink "WidthCampaigns$WidthGroups" 18 "WidthCampaigns$WidthGroups" "most" "[I" : Cond) ∈ wx_all := wx_mem 108 (by decide +kernel) (by decide +kernel)
theorem wt_66 : (.fieldLink "WidthCampaigns$WidthGroups" 21 "WidthCampaigns$WidthGroups" "count" "I" : Cond) ∈ wx_all := wx_mem 110 (by decide +kernel) (by decide +kernel)
theorem wt_78 : (.fieldLink "WidthCampaigns$Plant" 9 "WidthCampaigns$Plant" "width" "[I" : Cond) ∈ wx_all := wx_mem 122 (by decide +kernel) (by decide +kernel)
theorem wt_80 : (.fieldLink "WidthCampaigns$Plant" 15 "WidthCampaigns$Plant" "thick" "[I" : Cond) ∈ wx_all := wx_mem 124 (by decide +kernel) (by decide +kernel)
theorem wt_81 : (.fieldLink "WidthCampaigns$Plant" 18 "WidthCampaigns$Plant" "hard" "[I" : Cond) ∈ wx_all := wx_mem 125 (by decide +kernel) (by decide +kernel)
theorem wt_82 : (.fieldLink "WidthCampaigns$Plant" 21 "WidthCampaigns$Plant" "kilometres" "[I" : Cond) ∈ wx_all := wx_mem 126 (by decide +kernel) (by decide +kernel)
theorem wt_84 : (.fieldLink "WidthCampaigns$Plant" 24 "WidthCampaigns$Plant" "last" "[I" : Cond) ∈ wx_all := wx_mem 128 (by decide +kernel) (by decide +kernel)
theorem wt_87 : (.fieldLink "WidthCampaigns$Plant" 27 "WidthCampaigns$Plant" "oldPlace" "[I" : Cond) ∈ wx_all := wx_mem 131 (by decide +kernel) (by decide +kernel)
theorem wt_90 : (.fieldLink "WidthCampaigns$Plant" 32 "WidthCampaigns$Plant" "jumpCost" "[[I" : Cond) ∈ wx_all := wx_mem 134 (by decide +kernel) (by decide +kernel)
theorem wt_93 : (.fieldLink "WidthCampaigns$Plant" 38 "WidthCampaigns$Plant" "hardJumps" "LWidthCampaigns$JumpTable;" : Cond) ∈ wx_all := wx_mem 137 (by decide +kernel) (by decide +kernel)
theorem wt_95 : (.fieldLink "WidthCampaigns$Plant" 42 "WidthCampaigns$Plant" "thickJumps" "LWidthCampaigns$JumpTable;" : Cond) ∈ wx_all := wx_mem 139 (by decide +kernel) (by decide +kernel)
theorem wt_97 : (.fieldLink "WidthCampaigns$Plant" 48 "WidthCampaigns$Plant" "groups" "LWidthCampaigns$WidthGroups;" : Cond) ∈ wx_all := wx_mem 141 (by decide +kernel) (by decide +kernel)
theorem wt_100 : (.fieldLink "WidthCampaigns$Plant" 62 "WidthCampaigns$Plant" "count" "I" : Cond) ∈ wx_all := wx_mem 144 (by decide +kernel) (by decide +kernel)
theorem wt_153 : (.fieldLink "WidthCampaigns$Line" 39 "WidthCampaigns$Line" "plant" "LWidthCampaigns$Plant;" : Cond) ∈ wx_all := wx_mem 197 (by decide +kernel) (by decide +kernel)
theorem wt_154 : (.fieldLink "WidthCampaigns$Line" 9 "WidthCampaigns$Line" "coils" "[I" : Cond) ∈ wx_all := wx_mem 198 (by decide +kernel) (by decide +kernel)
theorem wt_157 : (.fieldLink "WidthCampaigns$Line" 15 "WidthCampaigns$Line" "stands" "[Z" : Cond) ∈ wx_all := wx_mem 201 (by decide +kernel) (by decide +kernel)
theorem wt_158 : (.fieldLink "WidthCampaigns$Line" 19 "WidthCampaigns$Line" "changeAhead" "[Z" : Cond) ∈ wx_all := wx_mem 202 (by decide +kernel) (by decide +kernel)
theorem wt_160 : (.fieldLink "WidthCampaigns$Line" 22 "WidthCampaigns$Line" "penalty" "[I" : Cond) ∈ wx_all := wx_mem 204 (by decide +kernel) (by decide +kernel)
theorem wt_161 : (.fieldLink "WidthCampaigns$Line" 25 "WidthCampaigns$Line" "changes" "[I" : Cond) ∈ wx_all := wx_mem 205 (by decide +kernel) (by decide +kernel)
theorem wt_162 : (.fieldLink "WidthCampaigns$Line" 28 "WidthCampaigns$Line" "moved" "[I" : Cond) ∈ wx_all := wx_mem 206 (by decide +kernel) (by decide +kernel)
theorem wt_163 : (.fieldLink "WidthCampaigns$Line" 31 "WidthCampaigns$Line" "rolled" "[I" : Cond) ∈ wx_all := wx_mem 207 (by decide +kernel) (by decide +kernel)
theorem wt_164 : (.fieldLink "WidthCampaigns$Line" 36 "WidthCampaigns$Line" "rolledInGroup" "[[I" : Cond) ∈ wx_all := wx_mem 208 (by decide +kernel) (by decide +kernel)
theorem wt_165 : (.fieldLink "WidthCampaigns$Line" 43 "WidthCampaigns$Line" "length" "I" : Cond) ∈ wx_all := wx_mem 209 (by decide +kernel) (by decide +kernel)
theorem wt_194 : (.fieldLink "WidthCampaigns$Search" 15 "WidthCampaigns$Search" "plant" "LWidthCampaigns$Plant;" : Cond) ∈ wx_all := wx_mem 238 (by decide +kernel) (by decide +kernel)
theorem wt_195 : (.fieldLink "WidthCampaigns$Search" 19 "WidthCampaigns$Search" "line" "LWidthCampaigns$Line;" : Cond) ∈ wx_all := wx_mem 239 (by decide +kernel) (by decide +kernel)
theorem wt_196 : (.fieldLink "WidthCampaigns$Search" 9 "WidthCampaigns$Search" "best" "[I" : Cond) ∈ wx_all := wx_mem 240 (by decide +kernel) (by decide +kernel)
theorem wt_198 : (.fieldLink "WidthCampaigns$Search" 30 "WidthCampaigns$Search" "bestPenalty" "I" : Cond) ∈ wx_all := wx_mem 242 (by decide +kernel) (by decide +kernel)
theorem wt_199 : (.fieldLink "WidthCampaigns$Search" 23 "WidthCampaigns$Search" "nodesLeft" "I" : Cond) ∈ wx_all := wx_mem 243 (by decide +kernel) (by decide +kernel)
theorem wt_200 : (.fieldLink "WidthCampaigns$Search" 33 "WidthCampaigns$Search" "found" "Z" : Cond) ∈ wx_all := wx_mem 244 (by decide +kernel) (by decide +kernel)
theorem wt_202 : (.fieldLink "WidthCampaigns$Search" 37 "WidthCampaigns$Search" "leftOut" "Z" : Cond) ∈ wx_all := wx_mem 246 (by decide +kernel) (by decide +kernel)
theorem wt_219 : (.fieldLink "WidthCampaigns" 10 "WidthCampaigns" "plant" "LWidthCampaigns$Plant;" : Cond) ∈ wx_all := wx_mem 263 (by decide +kernel) (by decide +kernel)
theorem wt_220 : (.fieldLink "WidthCampaigns" 21 "WidthCampaigns" "trial" "LWidthCampaigns$Line;" : Cond) ∈ wx_all := wx_mem 264 (by decide +kernel) (by decide +kernel)
theorem wt_221 : (.fieldLink "WidthCampaigns" 25 "WidthCampaigns" "standing" "LWidthCampaigns$Line;" : Cond) ∈ wx_all := wx_mem 265 (by decide +kernel) (by decide +kernel)
theorem wt_222 : (.fieldLink "WidthCampaigns" 33 "WidthCampaigns" "search" "LWidthCampaigns$Search;" : Cond) ∈ wx_all := wx_mem 266 (by decide +kernel) (by decide +kernel)
theorem wt_223 : (.fieldLink "WidthCampaigns" 37 "WidthCampaigns" "scratch" "[I" : Cond) ∈ wx_all := wx_mem 267 (by decide +kernel) (by decide +kernel)
theorem wt_224 : (.fieldLink "WidthCampaigns" 154 "WidthCampaigns" "ordered" "Z" : Cond) ∈ wx_all := wx_mem 268 (by decide +kernel) (by decide +kernel)
theorem wt_225 : (.fieldLink "WidthCampaigns" 147 "WidthCampaigns" "searched" "Z" : Cond) ∈ wx_all := wx_mem 269 (by decide +kernel) (by decide +kernel)
theorem wt_247 : (.instanceMethod ⟨"WidthCampaigns$Plant", "leastJumpTo", "(I)I"⟩ : Cond) ∈ wx_all := wx_mem 291 (by decide +kernel) (by decide +kernel)
theorem wt_248 : (.code ⟨"WidthCampaigns$Plant", "leastJumpTo", "(I)I"⟩ prog_4_method_5_code 5 (Option.some Jvm.ClassFile.FieldType.int) : Cond) ∈ wx_all := wx_mem 292 (by decide +kernel) (by decide +kernel)
theorem wt_249 : (.methodLink "WidthCampaigns" 207 ⟨"java/lang/Math", "max", "(II)I"⟩ : Cond) ∈ wx_all := wx_mem 293 (by decide +kernel) (by decide +kernel)
theorem wt_250 : (.static ⟨"java/lang/Math", "max", "(II)I"⟩ : Cond) ∈ wx_all := wx_mem 294 (by decide +kernel) (by decide +kernel)
theorem wt_251 : (.code ⟨"java/lang/Math", "max", "(II)I"⟩ prog_13_method_65_code 2 (Option.some Jvm.ClassFile.FieldType.int) : Cond) ∈ wx_all := wx_mem 295 (by decide +kernel) (by decide +kernel)
theorem wt_255 : (.classLink "WidthCampaignsLaw" 13 "java/lang/IllegalArgumentException" : Cond) ∈ wx_all := wx_mem 299 (by decide +kernel) (by decide +kernel)
theorem wt_256 : (.classLink "WidthCampaignsLaw" 15 "java/lang/UnsupportedOperationException" : Cond) ∈ wx_all := wx_mem 300 (by decide +kernel) (by decide +kernel)
theorem wt_257 : (.methodLink "WidthCampaignsLaw" 7 ⟨"WidthCampaigns", "coil", "(IIII)I"⟩ : Cond) ∈ wx_all := wx_mem 301 (by decide +kernel) (by decide +kernel)
theorem wt_258 : (.instanceMethod ⟨"WidthCampaigns", "coil", "(IIII)I"⟩ : Cond) ∈ wx_all := wx_mem 302 (by decide +kernel) (by decide +kernel)
theorem wt_259 : (.selects "WidthCampaigns" ⟨"WidthCampaigns", "coil", "(IIII)I"⟩ ⟨"WidthCampaigns", "coil", "(IIII)I"⟩ : Cond) ∈ wx_all := wx_mem 303 (by decide +kernel) (by decide +kernel)
theorem wt_260 : (.code ⟨"WidthCampaigns", "coil", "(IIII)I"⟩ prog_1_method_2_code 5 (Option.some Jvm.ClassFile.FieldType.int) : Cond) ∈ wx_all := wx_mem 304 (by decide +kernel) (by decide +kernel)
theorem wt_261 : (.methodLink "WidthCampaigns" 41 ⟨"WidthCampaigns", "isOutside", "(III)Z"⟩ : Cond) ∈ wx_all := wx_mem 305 (by decide +kernel) (by decide +kernel)
theorem wt_262 : (.static ⟨"WidthCampaigns", "isOutside", "(III)Z"⟩ : Cond) ∈ wx_all := wx_mem 306 (by decide +kernel) (by decide +kernel)
theorem wt_263 : (.code ⟨"WidthCampaigns", "isOutside", "(III)Z"⟩ prog_1_method_17_code 3 (Option.some Jvm.ClassFile.FieldType.boolean) : Cond) ∈ wx_all := wx_mem 307 (by decide +kernel) (by decide +kernel)
theorem wt_264 : (.classLink "WidthCampaigns" 45 "java/lang/IllegalArgumentException" : Cond) ∈ wx_all := wx_mem 308 (by decide +kernel) (by decide +kernel)
theorem wt_333 : (.classLink "WidthCampaigns" 56 "java/lang/UnsupportedOperationException" : Cond) ∈ wx_all := wx_mem 377 (by decide +kernel) (by decide +kernel)
theorem wt_349 : (.methodLink "WidthCampaigns" 61 ⟨"WidthCampaigns", "forgetOrder", "()V"⟩ : Cond) ∈ wx_all := wx_mem 393 (by decide +kernel) (by decide +kernel)
theorem wt_351 : (.instanceMethod ⟨"WidthCampaigns", "forgetOrder", "()V"⟩ : Cond) ∈ wx_all := wx_mem 395 (by decide +kernel) (by decide +kernel)
theorem wt_352 : (.code ⟨"WidthCampaigns", "forgetOrder", "()V"⟩ prog_1_method_19_code 1 (Option.none : Option Jvm.ClassFile.FieldType) : Cond) ∈ wx_all := wx_mem 396 (by decide +kernel) (by decide +kernel)
theorem wt_355 : (.instanceMethod ⟨"WidthCampaigns$Plant", "addCoil", "(IIII)I"⟩ : Cond) ∈ wx_all := wx_mem 399 (by decide +kernel) (by decide +kernel)
theorem wt_356 : (.code ⟨"WidthCampaigns$Plant", "addCoil", "(IIII)I"⟩ prog_4_method_2_code 6 (Option.some Jvm.ClassFile.FieldType.int) : Cond) ∈ wx_all := wx_mem 400 (by decide +kernel) (by decide +kernel)
theorem wt_357 : (.methodLink "WidthCampaigns$Plant" 65 ⟨"WidthCampaigns$Plant", "reckonJumps", "()V"⟩ : Cond) ∈ wx_all := wx_mem 401 (by decide +kernel) (by decide +kernel)
theorem wt_359 : (.instanceMethod ⟨"WidthCampaigns$Plant", "reckonJumps", "()V"⟩ : Cond) ∈ wx_all := wx_mem 403 (by decide +kernel) (by decide +kernel)
theorem wt_360 : (.code ⟨"WidthCampaigns$Plant", "reckonJumps", "()V"⟩ prog_4_method_3_code 3 (Option.none : Option Jvm.ClassFile.FieldType) : Cond) ∈ wx_all := wx_mem 404 (by decide +kernel) (by decide +kernel)
theorem wt_361 : (.methodLink "WidthCampaigns$Plant" 68 ⟨"WidthCampaigns$Plant", "reckonJump", "(II)I"⟩ : Cond) ∈ wx_all := wx_mem 405 (by decide +kernel) (by decide +kernel)
theorem wt_363 : (.instanceMethod ⟨"WidthCampaigns$Plant", "reckonJump", "(II)I"⟩ : Cond) ∈ wx_all := wx_mem 407 (by decide +kernel) (by decide +kernel)
theorem wt_364 : (.code ⟨"WidthCampaigns$Plant", "reckonJump", "(II)I"⟩ prog_4_method_4_code 5 (Option.some Jvm.ClassFile.FieldType.int) : Cond) ∈ wx_all := wx_mem 408 (by decide +kernel) (by decide +kernel)
theorem wt_365 : (.methodLink "WidthCampaigns$Plant" 72 ⟨"java/lang/Math", "abs", "(I)I"⟩ : Cond) ∈ wx_all := wx_mem 409 (by decide +kernel) (by decide +kernel)
theorem wt_366 : (.static ⟨"java/lang/Math", "abs", "(I)I"⟩ : Cond) ∈ wx_all := wx_mem 410 (by decide +kernel) (by decide +kernel)
theorem wt_367 : (.code ⟨"java/lang/Math", "abs", "(I)I"⟩ prog_13_method_59_code 1 (Option.some Jvm.ClassFile.FieldType.int) : Cond) ∈ wx_all := wx_mem 411 (by decide +kernel) (by decide +kernel)
theorem wt_370 : (.instanceMethod ⟨"WidthCampaigns$JumpTable", "costOf", "(I)I"⟩ : Cond) ∈ wx_all := wx_mem 414 (by decide +kernel) (by decide +kernel)
theorem wt_371 : (.code ⟨"WidthCampaigns$JumpTable", "costOf", "(I)I"⟩ prog_2_method_3_code 3 (Option.some Jvm.ClassFile.FieldType.int) : Cond) ∈ wx_all := wx_mem 415 (by decide +kernel) (by decide +kernel)
theorem wt_375 : (.classLink "WidthCampaignsLaw" 20 "java/lang/IndexOutOfBoundsException" : Cond) ∈ wx_all := wx_mem 419 (by decide +kernel) (by decide +kernel)
theorem wt_376 : (.methodLink "WidthCampaignsLaw" 17 ⟨"WidthCampaigns", "table", "(IIII)I"⟩ : Cond) ∈ wx_all := wx_mem 420 (by decide +kernel) (by decide +kernel)
theorem wt_377 : (.instanceMethod ⟨"WidthCampaigns", "table", "(IIII)I"⟩ : Cond) ∈ wx_all := wx_mem 421 (by decide +kernel) (by decide +kernel)
theorem wt_378 : (.selects "WidthCampaigns" ⟨"WidthCampaigns", "table", "(IIII)I"⟩ ⟨"WidthCampaigns", "table", "(IIII)I"⟩ : Cond) ∈ wx_all := wx_mem 422 (by decide +kernel) (by decide +kernel)
theorem wt_379 : (.code ⟨"WidthCampaigns", "table", "(IIII)I"⟩ prog_1_method_3_code 6 (Option.some Jvm.ClassFile.FieldType.int) : Cond) ∈ wx_all := wx_mem 423 (by decide +kernel) (by decide +kernel)
theorem wt_380 : (.classLink "WidthCampaigns" 68 "java/lang/IndexOutOfBoundsException" : Cond) ∈ wx_all := wx_mem 424 (by decide +kernel) (by decide +kernel)
theorem wt_400 : (.instanceMethod ⟨"WidthCampaigns$JumpTable", "addRow", "(III)V"⟩ : Cond) ∈ wx_all := wx_mem 444 (by decide +kernel) (by decide +kernel)
theorem wt_401 : (.code ⟨"WidthCampaigns$JumpTable", "addRow", "(III)V"⟩ prog_2_method_2_code 4 (Option.none : Option Jvm.ClassFile.FieldType) : Cond) ∈ wx_all := wx_mem 445 (by decide +kernel) (by decide +kernel)
theorem wt_406 : (.methodLink "WidthCampaignsLaw" 22 ⟨"WidthCampaigns", "group", "(III)I"⟩ : Cond) ∈ wx_all := wx_mem 450 (by decide +kernel) (by decide +kernel)
theorem wt_407 : (.instanceMethod ⟨"WidthCampaigns", "group", "(III)I"⟩ : Cond) ∈ wx_all := wx_mem 451 (by decide +kernel) (by decide +kernel)
theorem wt_408 : (.selects "WidthCampaigns" ⟨"WidthCampaigns", "group", "(III)I"⟩ ⟨"WidthCampaigns", "group", "(III)I"⟩ : Cond) ∈ wx_all := wx_mem 452 (by decide +kernel) (by decide +kernel)
theorem wt_409 : (.code ⟨"WidthCampaigns", "group", "(III)I"⟩ prog_1_method_4_code 4 (Option.some Jvm.ClassFile.FieldType.int) : Cond) ∈ wx_all := wx_mem 453 (by decide +kernel) (by decide +kernel)
theorem wt_414 : (.instanceMethod ⟨"WidthCampaigns$WidthGroups", "addGroup", "(III)V"⟩ : Cond) ∈ wx_all := wx_mem 458 (by decide +kernel) (by decide +kernel)
theorem wt_415 : (.code ⟨"WidthCampaigns$WidthGroups", "addGroup", "(III)V"⟩ prog_6_method_2_code 4 (Option.none : Option Jvm.ClassFile.FieldType) : Cond) ∈ wx_all := wx_mem 459 (by decide +kernel) (by decide +kernel)
theorem wt_419 : (.methodLink "WidthCampaignsLaw" 26 ⟨"WidthCampaigns", "urgent", "(II)V"⟩ : Cond) ∈ wx_all := wx_mem 463 (by decide +kernel) (by decide +kernel)
theorem wt_420 : (.instanceMethod ⟨"WidthCampaigns", "urgent", "(II)V"⟩ : Cond) ∈ wx_all := wx_mem 464 (by decide +kernel) (by decide +kernel)
theorem wt_421 : (.selects "WidthCampaigns" ⟨"WidthCampaigns", "urgent", "(II)V"⟩ ⟨"WidthCampaigns", "urgent", "(II)V"⟩ : Cond) ∈ wx_all := wx_mem 465 (by decide +kernel) (by decide +kernel)
theorem wt_422 : (.code ⟨"WidthCampaigns", "urgent", "(II)V"⟩ prog_1_method_5_code 3 (Option.none : Option Jvm.ClassFile.FieldType) : Cond) ∈ wx_all := wx_mem 466 (by decide +kernel) (by decide +kernel)
theorem wt_423 : (.methodLink "WidthCampaigns" 110 ⟨"WidthCampaigns", "isNoCoil", "(I)Z"⟩ : Cond) ∈ wx_all := wx_mem 467 (by decide +kernel) (by decide +kernel)
theorem wt_425 : (.instanceMethod ⟨"WidthCampaigns", "isNoCoil", "(I)Z"⟩ : Cond) ∈ wx_all := wx_mem 469 (by decide +kernel) (by decide +kernel)
theorem wt_426 : (.code ⟨"WidthCampaigns", "isNoCoil", "(I)Z"⟩ prog_1_method_18_code 2 (Option.some Jvm.ClassFile.FieldType.boolean) : Cond) ∈ wx_all := wx_mem 470 (by decide +kernel) (by decide +kernel)
theorem wt_432 : (.methodLink "WidthCampaignsLaw" 30 ⟨"WidthCampaigns", "old", "(II)V"⟩ : Cond) ∈ wx_all := wx_mem 476 (by decide +kernel) (by decide +kernel)
theorem wt_433 : (.instanceMethod ⟨"WidthCampaigns", "old", "(II)V"⟩ : Cond) ∈ wx_all := wx_mem 477 (by decide +kernel) (by decide +kernel)
theorem wt_434 : (.selects "WidthCampaigns" ⟨"WidthCampaigns", "old", "(II)V"⟩ ⟨"WidthCampaigns", "old", "(II)V"⟩ : Cond) ∈ wx_all := wx_mem 478 (by decide +kernel) (by decide +kernel)
theorem wt_435 : (.code ⟨"WidthCampaigns", "old", "(II)V"⟩ prog_1_method_6_code 3 (Option.none : Option Jvm.ClassFile.FieldType) : Cond) ∈ wx_all := wx_mem 479 (by decide +kernel) (by decide +kernel)
theorem wt_440 : (.methodLink "WidthCampaignsLaw" 33 ⟨"WidthCampaigns", "rules", "(IIII)V"⟩ : Cond) ∈ wx_all := wx_mem 484 (by decide +kernel) (by decide +kernel)
theorem wt_441 : (.instanceMethod ⟨"WidthCampaigns", "rules", "(IIII)V"⟩ : Cond) ∈ wx_all := wx_mem 485 (by decide +kernel) (by decide +kernel)
theorem wt_442 : (.selects "WidthCampaigns" ⟨"WidthCampaigns", "rules", "(IIII)V"⟩ ⟨"WidthCampaigns", "rules", "(IIII)V"⟩ : Cond) ∈ wx_all := wx_mem 486 (by decide +kernel) (by decide +kernel)
theorem wt_443 : (.code ⟨"WidthCampaigns", "rules", "(IIII)V"⟩ prog_1_method_7_code 5 (Option.none : Option Jvm.ClassFile.FieldType) : Cond) ∈ wx_all := wx_mem 487 (by decide +kernel) (by decide +kernel)
theorem wt_448 : (.methodLink "WidthCampaignsLaw" 37 ⟨"WidthCampaigns", "run", "(I)I"⟩ : Cond) ∈ wx_all := wx_mem 492 (by decide +kernel) (by decide +kernel)
theorem wt_449 : (.instanceMethod ⟨"WidthCampaigns", "run", "(I)I"⟩ : Cond) ∈ wx_all := wx_mem 493 (by decide +kernel) (by decide +kernel)
theorem wt_450 : (.selects "WidthCampaigns" ⟨"WidthCampaigns", "run", "(I)I"⟩ ⟨"WidthCampaigns", "run", "(I)I"⟩ : Cond) ∈ wx_all := wx_mem 494 (by decide +kernel) (by decide +kernel)
theorem wt_451 : (.code ⟨"WidthCampaigns", "run", "(I)I"⟩ prog_1_method_8_code 2 (Option.some Jvm.ClassFile.FieldType.int) : Cond) ∈ wx_all := wx_mem 495 (by decide +kernel) (by decide +kernel)
theorem wt_452 : (.constant "WidthCampaigns" 140 100000 : Cond) ∈ wx_all := wx_mem 496 (by decide +kernel) (by decide +kernel)
theorem wt_456 : (.instanceMethod ⟨"WidthCampaigns$Search", "searchWith", "(I)V"⟩ : Cond) ∈ wx_all := wx_mem 500 (by decide +kernel) (by decide +kernel)
theorem wt_457 : (.code ⟨"WidthCampaigns$Search", "searchWith", "(I)V"⟩ prog_5_method_2_code 2 (Option.none : Option Jvm.ClassFile.FieldType) : Cond) ∈ wx_all := wx_mem 501 (by decide +kernel) (by decide +kernel)
theorem wt_458 : (.constant "WidthCampaigns$Search" 29 2147483647 : Cond) ∈ wx_all := wx_mem 502 (by decide +kernel) (by decide +kernel)
theorem wt_461 : (.instanceMethod ⟨"WidthCampaigns$Line", "clear", "()V"⟩ : Cond) ∈ wx_all := wx_mem 505 (by decide +kernel) (by decide +kernel)
theorem wt_462 : (.code ⟨"WidthCampaigns$Line", "clear", "()V"⟩ prog_3_method_5_code 2 (Option.none : Option Jvm.ClassFile.FieldType) : Cond) ∈ wx_all := wx_mem 506 (by decide +kernel) (by decide +kernel)
theorem wt_463 : (.methodLink "WidthCampaigns$Search" 45 ⟨"WidthCampaigns$Search", "goOnAt", "(I)V"⟩ : Cond) ∈ wx_all := wx_mem 507 (by decide +kernel) (by decide +kernel)
theorem wt_465 : (.instanceMethod ⟨"WidthCampaigns$Search", "goOnAt", "(I)V"⟩ : Cond) ∈ wx_all := wx_mem 509 (by decide +kernel) (by decide +kernel)
theorem wt_466 : (.code ⟨"WidthCampaigns$Search", "goOnAt", "(I)V"⟩ prog_5_method_3_code 3 (Option.none : Option Jvm.ClassFile.FieldType) : Cond) ∈ wx_all := wx_mem 510 (by decide +kernel) (by decide +kernel)
theorem wt_467 : (.methodLink "WidthCampaigns$Search" 54 ⟨"WidthCampaigns$Search", "keepBest", "()V"⟩ : Cond) ∈ wx_all := wx_mem 511 (by decide +kernel) (by decide +kernel)
theorem wt_469 : (.instanceMethod ⟨"WidthCampaigns$Search", "keepBest", "()V"⟩ : Cond) ∈ wx_all := wx_mem 513 (by decide +kernel) (by decide +kernel)
theorem wt_470 : (.code ⟨"WidthCampaigns$Search", "keepBest", "()V"⟩ prog_5_method_5_code 1 (Option.none : Option Jvm.ClassFile.FieldType) : Cond) ∈ wx_all := wx_mem 514 (by decide +kernel) (by decide +kernel)
theorem wt_473 : (.instanceMethod ⟨"WidthCampaigns$Line", "penaltySoFar", "()I"⟩ : Cond) ∈ wx_all := wx_mem 517 (by decide +kernel) (by decide +kernel)
theorem wt_474 : (.code ⟨"WidthCampaigns$Line", "penaltySoFar", "()I"⟩ prog_3_method_2_code 1 (Option.some Jvm.ClassFile.FieldType.int) : Cond) ∈ wx_all := wx_mem 518 (by decide +kernel) (by decide +kernel)
theorem wt_475 : (.methodLink "WidthCampaigns$Search" 78 ⟨"java/lang/System", "arraycopy", "(Ljava/lang/Object;ILjava/lang/Object;II)V"⟩ : Cond) ∈ wx_all := wx_mem 519 (by decide +kernel) (by decide +kernel)
theorem wt_476 : (.static ⟨"java/lang/System", "arraycopy", "(Ljava/lang/Object;ILjava/lang/Object;II)V"⟩ : Cond) ∈ wx_all := wx_mem 520 (by decide +kernel) (by decide +kernel)
theorem wt_477 : (.native ⟨"java/lang/System", "arraycopy", "(Ljava/lang/Object;ILjava/lang/Object;II)V"⟩ : Cond) ∈ wx_all := wx_mem 521 (by decide +kernel) (by decide +kernel)
theorem wt_480 : (.instanceMethod ⟨"WidthCampaigns$Line", "mayPut", "(I)Z"⟩ : Cond) ∈ wx_all := wx_mem 524 (by decide +kernel) (by decide +kernel)
theorem wt_481 : (.code ⟨"WidthCampaigns$Line", "mayPut", "(I)Z"⟩ prog_3_method_7_code 2 (Option.some Jvm.ClassFile.FieldType.boolean) : Cond) ∈ wx_all := wx_mem 525 (by decide +kernel) (by decide +kernel)
theorem wt_482 : (.methodLink "WidthCampaigns$Line" 66 ⟨"WidthCampaigns$Line", "mayFollow", "(II)Z"⟩ : Cond) ∈ wx_all := wx_mem 526 (by decide +kernel) (by decide +kernel)
theorem wt_484 : (.instanceMethod ⟨"WidthCampaigns$Line", "mayFollow", "(II)Z"⟩ : Cond) ∈ wx_all := wx_mem 528 (by decide +kernel) (by decide +kernel)
theorem wt_485 : (.code ⟨"WidthCampaigns$Line", "mayFollow", "(II)Z"⟩ prog_3_method_8_code 4 (Option.some Jvm.ClassFile.FieldType.boolean) : Cond) ∈ wx_all := wx_mem 529 (by decide +kernel) (by decide +kernel)
theorem wt_486 : (.methodLink "WidthCampaigns$Search" 61 ⟨"WidthCampaigns$Search", "putAndGoOn", "(II)V"⟩ : Cond) ∈ wx_all := wx_mem 530 (by decide +kernel) (by decide +kernel)
theorem wt_488 : (.instanceMethod ⟨"WidthCampaigns$Search", "putAndGoOn", "(II)V"⟩ : Cond) ∈ wx_all := wx_mem 532 (by decide +kernel) (by decide +kernel)
theorem wt_489 : (.code ⟨"WidthCampaigns$Search", "putAndGoOn", "(II)V"⟩ prog_5_method_4_code 3 (Option.none : Option Jvm.ClassFile.FieldType) : Cond) ∈ wx_all := wx_mem 533 (by decide +kernel) (by decide +kernel)
theorem wt_492 : (.instanceMethod ⟨"WidthCampaigns$Line", "put", "(I)V"⟩ : Cond) ∈ wx_all := wx_mem 536 (by decide +kernel) (by decide +kernel)
theorem wt_493 : (.code ⟨"WidthCampaigns$Line", "put", "(I)V"⟩ prog_3_method_9_code 3 (Option.none : Option Jvm.ClassFile.FieldType) : Cond) ∈ wx_all := wx_mem 537 (by decide +kernel) (by decide +kernel)
theorem wt_494 : (.methodLink "WidthCampaigns$Line" 79 ⟨"WidthCampaigns$Line", "isWornWith", "(I)Z"⟩ : Cond) ∈ wx_all := wx_mem 538 (by decide +kernel) (by decide +kernel)
theorem wt_496 : (.instanceMethod ⟨"WidthCampaigns$Line", "isWornWith", "(I)Z"⟩ : Cond) ∈ wx_all := wx_mem 540 (by decide +kernel) (by decide +kernel)
theorem wt_497 : (.code ⟨"WidthCampaigns$Line", "isWornWith", "(I)Z"⟩ prog_3_method_11_code 4 (Option.some Jvm.ClassFile.FieldType.boolean) : Cond) ∈ wx_all := wx_mem 541 (by decide +kernel) (by decide +kernel)
theorem wt_500 : (.instanceMethod ⟨"WidthCampaigns$Plant", "kilometresInGroup", "(II)I"⟩ : Cond) ∈ wx_all := wx_mem 544 (by decide +kernel) (by decide +kernel)
theorem wt_501 : (.code ⟨"WidthCampaigns$Plant", "kilometresInGroup", "(II)I"⟩ prog_4_method_6_code 4 (Option.some Jvm.ClassFile.FieldType.int) : Cond) ∈ wx_all := wx_mem 545 (by decide +kernel) (by decide +kernel)
theorem wt_502 : (.methodLink "WidthCampaigns$Line" 82 ⟨"WidthCampaigns$Line", "countKilometres", "(IZ)V"⟩ : Cond) ∈ wx_all := wx_mem 546 (by decide +kernel) (by decide +kernel)
theorem wt_504 : (.instanceMethod ⟨"WidthCampaigns$Line", "countKilometres", "(IZ)V"⟩ : Cond) ∈ wx_all := wx_mem 548 (by decide +kernel) (by decide +kernel)
theorem wt_505 : (.code ⟨"WidthCampaigns$Line", "countKilometres", "(IZ)V"⟩ prog_3_method_12_code 6 (Option.none : Option Jvm.ClassFile.FieldType) : Cond) ∈ wx_all := wx_mem 549 (by decide +kernel) (by decide +kernel)
theorem wt_506 : (.methodLink "WidthCampaigns$Line" 86 ⟨"WidthCampaigns$Line", "countCosts", "(IZ)V"⟩ : Cond) ∈ wx_all := wx_mem 550 (by decide +kernel) (by decide +kernel)
theorem wt_508 : (.instanceMethod ⟨"WidthCampaigns$Line", "countCosts", "(IZ)V"⟩ : Cond) ∈ wx_all := wx_mem 552 (by decide +kernel) (by decide +kernel)
theorem wt_509 : (.code ⟨"WidthCampaigns$Line", "countCosts", "(IZ)V"⟩ prog_3_method_13_code 7 (Option.none : Option Jvm.ClassFile.FieldType) : Cond) ∈ wx_all := wx_mem 553 (by decide +kernel) (by decide +kernel)
theorem wt_512 : (.instanceMethod ⟨"WidthCampaigns$Line", "takeBack", "()V"⟩ : Cond) ∈ wx_all := wx_mem 556 (by decide +kernel) (by decide +kernel)
theorem wt_513 : (.code ⟨"WidthCampaigns$Line", "takeBack", "()V"⟩ prog_3_method_10_code 1 (Option.none : Option Jvm.ClassFile.FieldType) : Cond) ∈ wx_all := wx_mem 557 (by decide +kernel) (by decide +kernel)
theorem wt_516 : (.instanceMethod ⟨"WidthCampaigns$Line", "layAll", "([I)Z"⟩ : Cond) ∈ wx_all := wx_mem 560 (by decide +kernel) (by decide +kernel)
theorem wt_517 : (.code ⟨"WidthCampaigns$Line", "layAll", "([I)Z"⟩ prog_3_method_6_code 3 (Option.some Jvm.ClassFile.FieldType.boolean) : Cond) ∈ wx_all := wx_mem 561 (by decide +kernel) (by decide +kernel)
theorem wt_518 : (.methodLink "WidthCampaigns$Line" 47 ⟨"WidthCampaigns$Line", "clear", "()V"⟩ : Cond) ∈ wx_all := wx_mem 562 (by decide +kernel) (by decide +kernel)
theorem wt_519 : (.methodLink "WidthCampaigns$Line" 55 ⟨"WidthCampaigns$Line", "mayPut", "(I)Z"⟩ : Cond) ∈ wx_all := wx_mem 563 (by decide +kernel) (by decide +kernel)
theorem wt_520 : (.methodLink "WidthCampaigns$Line" 59 ⟨"WidthCampaigns$Line", "put", "(I)V"⟩ : Cond) ∈ wx_all := wx_mem 564 (by decide +kernel) (by decide +kernel)
theorem wt_524 : (.classLink "WidthCampaignsLaw" 45 "java/lang/IllegalStateException" : Cond) ∈ wx_all := wx_mem 568 (by decide +kernel) (by decide +kernel)
theorem wt_525 : (.methodLink "WidthCampaignsLaw" 41 ⟨"WidthCampaigns", "proved", "()Z"⟩ : Cond) ∈ wx_all := wx_mem 569 (by decide +kernel) (by decide +kernel)
theorem wt_526 : (.instanceMethod ⟨"WidthCampaigns", "proved", "()Z"⟩ : Cond) ∈ wx_all := wx_mem 570 (by decide +kernel) (by decide +kernel)
theorem wt_527 : (.selects "WidthCampaigns" ⟨"WidthCampaigns", "proved", "()Z"⟩ ⟨"WidthCampaigns", "proved", "()Z"⟩ : Cond) ∈ wx_all := wx_mem 571 (by decide +kernel) (by decide +kernel)
theorem wt_528 : (.code ⟨"WidthCampaigns", "proved", "()Z"⟩ prog_1_method_9_code 1 (Option.some Jvm.ClassFile.FieldType.boolean) : Cond) ∈ wx_all := wx_mem 572 (by decide +kernel) (by decide +kernel)
theorem wt_529 : (.classLink "WidthCampaigns" 164 "java/lang/IllegalStateException" : Cond) ∈ wx_all := wx_mem 573 (by decide +kernel) (by decide +kernel)
theorem wt_548 : (.methodLink "WidthCampaignsLaw" 47 ⟨"WidthCampaigns", "order", "(I)I"⟩ : Cond) ∈ wx_all := wx_mem 592 (by decide +kernel) (by decide +kernel)
theorem wt_549 : (.instanceMethod ⟨"WidthCampaigns", "order", "(I)I"⟩ : Cond) ∈ wx_all := wx_mem 593 (by decide +kernel) (by decide +kernel)
theorem wt_550 : (.selects "WidthCampaigns" ⟨"WidthCampaigns", "order", "(I)I"⟩ ⟨"WidthCampaigns", "order", "(I)I"⟩ : Cond) ∈ wx_all := wx_mem 594 (by decide +kernel) (by decide +kernel)
theorem wt_551 : (.code ⟨"WidthCampaigns", "order", "(I)I"⟩ prog_1_method_10_code 2 (Option.some Jvm.ClassFile.FieldType.int) : Cond) ∈ wx_all := wx_mem 595 (by decide +kernel) (by decide +kernel)
theorem wt_552 : (.methodLink "WidthCampaigns" 172 ⟨"WidthCampaigns", "requireOrder", "()V"⟩ : Cond) ∈ wx_all := wx_mem 596 (by decide +kernel) (by decide +kernel)
theorem wt_554 : (.instanceMethod ⟨"WidthCampaigns", "requireOrder", "()V"⟩ : Cond) ∈ wx_all := wx_mem 598 (by decide +kernel) (by decide +kernel)
theorem wt_555 : (.code ⟨"WidthCampaigns", "requireOrder", "()V"⟩ prog_1_method_20_code 1 (Option.none : Option Jvm.ClassFile.FieldType) : Cond) ∈ wx_all := wx_mem 599 (by decide +kernel) (by decide +kernel)
theorem wt_557 : (.methodLink "WidthCampaigns" 175 ⟨"WidthCampaigns", "requirePlace", "(I)V"⟩ : Cond) ∈ wx_all := wx_mem 601 (by decide +kernel) (by decide +kernel)
theorem wt_559 : (.instanceMethod ⟨"WidthCampaigns", "requirePlace", "(I)V"⟩ : Cond) ∈ wx_all := wx_mem 603 (by decide +kernel) (by decide +kernel)
theorem wt_560 : (.code ⟨"WidthCampaigns", "requirePlace", "(I)V"⟩ prog_1_method_21_code 2 (Option.none : Option Jvm.ClassFile.FieldType) : Cond) ∈ wx_all := wx_mem 604 (by decide +kernel) (by decide +kernel)
theorem wt_565 : (.methodLink "WidthCampaignsLaw" 50 ⟨"WidthCampaigns", "told", "(I)I"⟩ : Cond) ∈ wx_all := wx_mem 609 (by decide +kernel) (by decide +kernel)
theorem wt_566 : (.instanceMethod ⟨"WidthCampaigns", "told", "(I)I"⟩ : Cond) ∈ wx_all := wx_mem 610 (by decide +kernel) (by decide +kernel)
theorem wt_567 : (.selects "WidthCampaigns" ⟨"WidthCampaigns", "told", "(I)I"⟩ ⟨"WidthCampaigns", "told", "(I)I"⟩ : Cond) ∈ wx_all := wx_mem 611 (by decide +kernel) (by decide +kernel)
theorem wt_568 : (.code ⟨"WidthCampaigns", "told", "(I)I"⟩ prog_1_method_11_code 2 (Option.some Jvm.ClassFile.FieldType.int) : Cond) ∈ wx_all := wx_mem 612 (by decide +kernel) (by decide +kernel)
theorem wt_573 : (.instanceMethod ⟨"WidthCampaigns$Line", "changesSoFar", "()I"⟩ : Cond) ∈ wx_all := wx_mem 617 (by decide +kernel) (by decide +kernel)
theorem wt_574 : (.code ⟨"WidthCampaigns$Line", "changesSoFar", "()I"⟩ prog_3_method_3_code 1 (Option.some Jvm.ClassFile.FieldType.int) : Cond) ∈ wx_all := wx_mem 618 (by decide +kernel) (by decide +kernel)
theorem wt_577 : (.instanceMethod ⟨"WidthCampaigns$Line", "movedSoFar", "()I"⟩ : Cond) ∈ wx_all := wx_mem 621 (by decide +kernel) (by decide +kernel)
theorem wt_578 : (.code ⟨"WidthCampaigns$Line", "movedSoFar", "()I"⟩ prog_3_method_4_code 1 (Option.some Jvm.ClassFile.FieldType.int) : Cond) ∈ wx_all := wx_mem 622 (by decide +kernel) (by decide +kernel)
theorem wt_582 : (.methodLink "WidthCampaignsLaw" 53 ⟨"WidthCampaigns", "change", "(I)Z"⟩ : Cond) ∈ wx_all := wx_mem 626 (by decide +kernel) (by decide +kernel)
theorem wt_583 : (.instanceMethod ⟨"WidthCampaigns", "change", "(I)Z"⟩ : Cond) ∈ wx_all := wx_mem 627 (by decide +kernel) (by decide +kernel)
theorem wt_584 : (.selects "WidthCampaigns" ⟨"WidthCampaigns", "change", "(I)Z"⟩ ⟨"WidthCampaigns", "change", "(I)Z"⟩ : Cond) ∈ wx_all := wx_mem 628 (by decide +kernel) (by decide +kernel)
theorem wt_585 : (.code ⟨"WidthCampaigns", "change", "(I)Z"⟩ prog_1_method_12_code 2 (Option.some Jvm.ClassFile.FieldType.boolean) : Cond) ∈ wx_all := wx_mem 629 (by decide +kernel) (by decide +kernel)
theorem wt_589 : (.methodLink "WidthCampaignsLaw" 57 ⟨"WidthCampaigns", "jump", "(II)I"⟩ : Cond) ∈ wx_all := wx_mem 633 (by decide +kernel) (by decide +kernel)
theorem wt_590 : (.instanceMethod ⟨"WidthCampaigns", "jump", "(II)I"⟩ : Cond) ∈ wx_all := wx_mem 634 (by decide +kernel) (by decide +kernel)
theorem wt_591 : (.selects "WidthCampaigns" ⟨"WidthCampaigns", "jump", "(II)I"⟩ ⟨"WidthCampaigns", "jump", "(II)I"⟩ : Cond) ∈ wx_all := wx_mem 635 (by decide +kernel) (by decide +kernel)
theorem wt_592 : (.code ⟨"WidthCampaigns", "jump", "(II)I"⟩ prog_1_method_13_code 3 (Option.some Jvm.ClassFile.FieldType.int) : Cond) ∈ wx_all := wx_mem 636 (by decide +kernel) (by decide +kernel)
theorem wt_597 : (.methodLink "WidthCampaignsLaw" 61 ⟨"WidthCampaigns", "tell", "(J)V"⟩ : Cond) ∈ wx_all := wx_mem 641 (by decide +kernel) (by decide +kernel)
theorem wt_598 : (.instanceMethod ⟨"WidthCampaigns", "tell", "(J)V"⟩ : Cond) ∈ wx_all := wx_mem 642 (by decide +kernel) (by decide +kernel)
theorem wt_599 : (.selects "WidthCampaigns" ⟨"WidthCampaigns", "tell", "(J)V"⟩ ⟨"WidthCampaigns", "tell", "(J)V"⟩ : Cond) ∈ wx_all := wx_mem 643 (by decide +kernel) (by decide +kernel)
theorem wt_600 : (.code ⟨"WidthCampaigns", "tell", "(J)V"⟩ prog_1_method_15_code 3 (Option.none : Option Jvm.ClassFile.FieldType) : Cond) ∈ wx_all := wx_mem 644 (by decide +kernel) (by decide +kernel)
theorem wt_601 : (.methodLink "WidthCampaigns" 213 ⟨"WidthCampaigns", "readIntoScratch", "(J)Z"⟩ : Cond) ∈ wx_all := wx_mem 645 (by decide +kernel) (by decide +kernel)
theorem wt_603 : (.instanceMethod ⟨"WidthCampaigns", "readIntoScratch", "(J)Z"⟩ : Cond) ∈ wx_all := wx_mem 647 (by decide +kernel) (by decide +kernel)
theorem wt_604 : (.code ⟨"WidthCampaigns", "readIntoScratch", "(J)Z"⟩ prog_1_method_22_code 6 (Option.some Jvm.ClassFile.FieldType.boolean) : Cond) ∈ wx_all := wx_mem 648 (by decide +kernel) (by decide +kernel)
theorem wt_610 : (.methodLink "WidthCampaignsLaw" 65 ⟨"WidthCampaigns", "improve", "(I)I"⟩ : Cond) ∈ wx_all := wx_mem 654 (by decide +kernel) (by decide +kernel)
theorem wt_611 : (.instanceMethod ⟨"WidthCampaigns", "improve", "(I)I"⟩ : Cond) ∈ wx_all := wx_mem 655 (by decide +kernel) (by decide +kernel)
theorem wt_612 : (.selects "WidthCampaigns" ⟨"WidthCampaigns", "improve", "(I)I"⟩ ⟨"WidthCampaigns", "improve", "(I)I"⟩ : Cond) ∈ wx_all := wx_mem 656 (by decide +kernel) (by decide +kernel)
theorem wt_613 : (.code ⟨"WidthCampaigns", "improve", "(I)I"⟩ prog_1_method_16_code 3 (Option.some Jvm.ClassFile.FieldType.int) : Cond) ∈ wx_all := wx_mem 657 (by decide +kernel) (by decide +kernel)
theorem wt_615 : (.methodLink "WidthCampaigns" 223 ⟨"WidthCampaigns", "takeFirstBetterPair", "()Z"⟩ : Cond) ∈ wx_all := wx_mem 659 (by decide +kernel) (by decide +kernel)
theorem wt_617 : (.instanceMethod ⟨"WidthCampaigns", "takeFirstBetterPair", "()Z"⟩ : Cond) ∈ wx_all := wx_mem 661 (by decide +kernel) (by decide +kernel)
theorem wt_618 : (.code ⟨"WidthCampaigns", "takeFirstBetterPair", "()Z"⟩ prog_1_method_23_code 3 (Option.some Jvm.ClassFile.FieldType.boolean) : Cond) ∈ wx_all := wx_mem 662 (by decide +kernel) (by decide +kernel)
theorem wt_619 : (.methodLink "WidthCampaigns" 231 ⟨"WidthCampaigns", "takePairIfBetter", "(II)Z"⟩ : Cond) ∈ wx_all := wx_mem 663 (by decide +kernel) (by decide +kernel)
theorem wt_621 : (.instanceMethod ⟨"WidthCampaigns", "takePairIfBetter", "(II)Z"⟩ : Cond) ∈ wx_all := wx_mem 665 (by decide +kernel) (by decide +kernel)
theorem wt_622 : (.code ⟨"WidthCampaigns", "takePairIfBetter", "(II)Z"⟩ prog_1_method_24_code 3 (Option.some Jvm.ClassFile.FieldType.boolean) : Cond) ∈ wx_all := wx_mem 666 (by decide +kernel) (by decide +kernel)
theorem wt_623 : (.methodLink "WidthCampaigns" 235 ⟨"java/lang/System", "arraycopy", "(Ljava/lang/Object;ILjava/lang/Object;II)V"⟩ : Cond) ∈ wx_all := wx_mem 667 (by decide +kernel) (by decide +kernel)
theorem wt_630 : (.fieldLink "WidthCampaignsModel" 69 "WidthCampaignsModel" "thrown" "I" : Cond) ∈ wx_all := wx_mem 674 (by decide +kernel) (by decide +kernel)
theorem wt_631 : (.fieldLink "WidthCampaignsModel" 79 "WidthCampaignsModel" "coils" "I" : Cond) ∈ wx_all := wx_mem 675 (by decide +kernel) (by decide +kernel)
theorem wt_632 : (.fieldLink "WidthCampaignsModel" 7 "WidthCampaignsModel" "width" "[I" : Cond) ∈ wx_all := wx_mem 676 (by decide +kernel) (by decide +kernel)
theorem wt_633 : (.fieldLink "WidthCampaignsModel" 13 "WidthCampaignsModel" "thick" "[I" : Cond) ∈ wx_all := wx_mem 677 (by decide +kernel) (by decide +kernel)
theorem wt_634 : (.fieldLink "WidthCampaignsModel" 16 "WidthCampaignsModel" "hard" "[I" : Cond) ∈ wx_all := wx_mem 678 (by decide +kernel) (by decide +kernel)
theorem wt_635 : (.fieldLink "WidthCampaignsModel" 19 "WidthCampaignsModel" "kilometres" "[I" : Cond) ∈ wx_all := wx_mem 679 (by decide +kernel) (by decide +kernel)
theorem wt_636 : (.fieldLink "WidthCampaignsModel" 22 "WidthCampaignsModel" "last" "[I" : Cond) ∈ wx_all := wx_mem 680 (by decide +kernel) (by decide +kernel)
theorem wt_637 : (.fieldLink "WidthCampaignsModel" 25 "WidthCampaignsModel" "old" "[I" : Cond) ∈ wx_all := wx_mem 681 (by decide +kernel) (by decide +kernel)
theorem wt_638 : (.fieldLink "WidthCampaignsModel" 28 "WidthCampaignsModel" "rows" "[I" : Cond) ∈ wx_all := wx_mem 682 (by decide +kernel) (by decide +kernel)
theorem wt_639 : (.fieldLink "WidthCampaignsModel" 31 "WidthCampaignsModel" "rowFrom" "[I" : Cond) ∈ wx_all := wx_mem 683 (by decide +kernel) (by decide +kernel)
theorem wt_640 : (.fieldLink "WidthCampaignsModel" 34 "WidthCampaignsModel" "rowTo" "[I" : Cond) ∈ wx_all := wx_mem 684 (by decide +kernel) (by decide +kernel)
theorem wt_641 : (.fieldLink "WidthCampaignsModel" 37 "WidthCampaignsModel" "rowCost" "[I" : Cond) ∈ wx_all := wx_mem 685 (by decide +kernel) (by decide +kernel)
theorem wt_642 : (.fieldLink "WidthCampaignsModel" 93 "WidthCampaignsModel" "groups" "I" : Cond) ∈ wx_all := wx_mem 686 (by decide +kernel) (by decide +kernel)
theorem wt_643 : (.fieldLink "WidthCampaignsModel" 40 "WidthCampaignsModel" "groupFrom" "[I" : Cond) ∈ wx_all := wx_mem 687 (by decide +kernel) (by decide +kernel)
theorem wt_644 : (.fieldLink "WidthCampaignsModel" 43 "WidthCampaignsModel" "groupTo" "[I" : Cond) ∈ wx_all := wx_mem 688 (by decide +kernel) (by decide +kernel)
theorem wt_645 : (.fieldLink "WidthCampaignsModel" 46 "WidthCampaignsModel" "groupMost" "[I" : Cond) ∈ wx_all := wx_mem 689 (by decide +kernel) (by decide +kernel)
theorem wt_646 : (.fieldLink "WidthCampaignsModel" 49 "WidthCampaignsModel" "rise" "I" : Cond) ∈ wx_all := wx_mem 690 (by decide +kernel) (by decide +kernel)
theorem wt_647 : (.fieldLink "WidthCampaignsModel" 53 "WidthCampaignsModel" "wear" "I" : Cond) ∈ wx_all := wx_mem 691 (by decide +kernel) (by decide +kernel)
theorem wt_648 : (.fieldLink "WidthCampaignsModel" 56 "WidthCampaignsModel" "changeCost" "I" : Cond) ∈ wx_all := wx_mem 692 (by decide +kernel) (by decide +kernel)
theorem wt_649 : (.fieldLink "WidthCampaignsModel" 100 "WidthCampaignsModel" "movedCost" "I" : Cond) ∈ wx_all := wx_mem 693 (by decide +kernel) (by decide +kernel)
theorem wt_650 : (.fieldLink "WidthCampaignsModel" 72 "WidthCampaignsModel" "searched" "Z" : Cond) ∈ wx_all := wx_mem 694 (by decide +kernel) (by decide +kernel)
theorem wt_651 : (.fieldLink "WidthCampaignsModel" 124 "WidthCampaignsModel" "proved" "Z" : Cond) ∈ wx_all := wx_mem 695 (by decide +kernel) (by decide +kernel)
theorem wt_652 : (.fieldLink "WidthCampaignsModel" 76 "WidthCampaignsModel" "ordered" "Z" : Cond) ∈ wx_all := wx_mem 696 (by decide +kernel) (by decide +kernel)
theorem wt_653 : (.fieldLink "WidthCampaignsModel" 59 "WidthCampaignsModel" "order" "[I" : Cond) ∈ wx_all := wx_mem 697 (by decide +kernel) (by decide +kernel)
theorem wt_654 : (.fieldLink "WidthCampaignsModel" 62 "WidthCampaignsModel" "tried" "[I" : Cond) ∈ wx_all := wx_mem 698 (by decide +kernel) (by decide +kernel)
theorem wt_655 : (.fieldLink "WidthCampaignsModel" 110 "WidthCampaignsModel" "penalty" "I" : Cond) ∈ wx_all := wx_mem 699 (by decide +kernel) (by decide +kernel)
theorem wt_656 : (.fieldLink "WidthCampaignsModel" 113 "WidthCampaignsModel" "changes" "I" : Cond) ∈ wx_all := wx_mem 700 (by decide +kernel) (by decide +kernel)
theorem wt_657 : (.fieldLink "WidthCampaignsModel" 116 "WidthCampaignsModel" "moved" "I" : Cond) ∈ wx_all := wx_mem 701 (by decide +kernel) (by decide +kernel)
theorem wt_658 : (.fieldLink "WidthCampaignsModel" 65 "WidthCampaignsModel" "changed" "[Z" : Cond) ∈ wx_all := wx_mem 702 (by decide +kernel) (by decide +kernel)
theorem wt_726 : (.methodLink "WidthCampaignsModel" 82 ⟨"WidthCampaignsModel", "in", "(III)Z"⟩ : Cond) ∈ wx_all := wx_mem 770 (by decide +kernel) (by decide +kernel)
theorem wt_727 : (.static ⟨"WidthCampaignsModel", "in", "(III)Z"⟩ : Cond) ∈ wx_all := wx_mem 771 (by decide +kernel) (by decide +kernel)
theorem wt_728 : (.code ⟨"WidthCampaignsModel", "in", "(III)Z"⟩ prog_8_method_3_code 3 (Option.some Jvm.ClassFile.FieldType.boolean) : Cond) ∈ wx_all := wx_mem 772 (by decide +kernel) (by decide +kernel)
theorem wt_729 : (.methodLink "WidthCampaignsModel" 86 ⟨"WidthCampaignsModel", "goes", "(ZZZ)Z"⟩ : Cond) ∈ wx_all := wx_mem 773 (by decide +kernel) (by decide +kernel)
theorem wt_731 : (.instanceMethod ⟨"WidthCampaignsModel", "goes", "(ZZZ)Z"⟩ : Cond) ∈ wx_all := wx_mem 775 (by decide +kernel) (by decide +kernel)
theorem wt_732 : (.code ⟨"WidthCampaignsModel", "goes", "(ZZZ)Z"⟩ prog_8_method_4_code 4 (Option.some Jvm.ClassFile.FieldType.boolean) : Cond) ∈ wx_all := wx_mem 776 (by decide +kernel) (by decide +kernel)
theorem wt_733 : (.methodLink "WidthCampaignsModel" 90 ⟨"WidthCampaignsModel", "gone", "()V"⟩ : Cond) ∈ wx_all := wx_mem 777 (by decide +kernel) (by decide +kernel)
theorem wt_735 : (.instanceMethod ⟨"WidthCampaignsModel", "gone", "()V"⟩ : Cond) ∈ wx_all := wx_mem 779 (by decide +kernel) (by decide +kernel)
theorem wt_736 : (.code ⟨"WidthCampaignsModel", "gone", "()V"⟩ prog_8_method_5_code 1 (Option.none : Option Jvm.ClassFile.FieldType) : Cond) ∈ wx_all := wx_mem 780 (by decide +kernel) (by decide +kernel)
theorem wt_749 : (.methodLink "WidthCampaignsModel" 96 ⟨"WidthCampaignsModel", "isCoil", "(I)Z"⟩ : Cond) ∈ wx_all := wx_mem 793 (by decide +kernel) (by decide +kernel)
theorem wt_751 : (.instanceMethod ⟨"WidthCampaignsModel", "isCoil", "(I)Z"⟩ : Cond) ∈ wx_all := wx_mem 795 (by decide +kernel) (by decide +kernel)
theorem wt_752 : (.code ⟨"WidthCampaignsModel", "isCoil", "(I)Z"⟩ prog_8_method_6_code 2 (Option.some Jvm.ClassFile.FieldType.boolean) : Cond) ∈ wx_all := wx_mem 796 (by decide +kernel) (by decide +kernel)
theorem wt_765 : (.constant "WidthCampaignsModel" 123 100000 : Cond) ∈ wx_all := wx_mem 809 (by decide +kernel) (by decide +kernel)
theorem wt_766 : (.methodLink "WidthCampaignsModel" 127 ⟨"WidthCampaignsModel", "stands", "(II)Z"⟩ : Cond) ∈ wx_all := wx_mem 810 (by decide +kernel) (by decide +kernel)
theorem wt_768 : (.instanceMethod ⟨"WidthCampaignsModel", "stands", "(II)Z"⟩ : Cond) ∈ wx_all := wx_mem 812 (by decide +kernel) (by decide +kernel)
theorem wt_769 : (.code ⟨"WidthCampaignsModel", "stands", "(II)Z"⟩ prog_8_method_18_code 4 (Option.some Jvm.ClassFile.FieldType.boolean) : Cond) ∈ wx_all := wx_mem 813 (by decide +kernel) (by decide +kernel)
theorem wt_770 : (.methodLink "WidthCampaignsModel" 131 ⟨"WidthCampaignsModel", "mayBe", "([II)Z"⟩ : Cond) ∈ wx_all := wx_mem 814 (by decide +kernel) (by decide +kernel)
theorem wt_772 : (.instanceMethod ⟨"WidthCampaignsModel", "mayBe", "([II)Z"⟩ : Cond) ∈ wx_all := wx_mem 816 (by decide +kernel) (by decide +kernel)
theorem wt_773 : (.code ⟨"WidthCampaignsModel", "mayBe", "([II)Z"⟩ prog_8_method_15_code 5 (Option.some Jvm.ClassFile.FieldType.boolean) : Cond) ∈ wx_all := wx_mem 817 (by decide +kernel) (by decide +kernel)
theorem wt_774 : (.methodLink "WidthCampaignsModel" 107 ⟨"WidthCampaignsModel", "jumpOf", "(II)I"⟩ : Cond) ∈ wx_all := wx_mem 818 (by decide +kernel) (by decide +kernel)
theorem wt_776 : (.instanceMethod ⟨"WidthCampaignsModel", "jumpOf", "(II)I"⟩ : Cond) ∈ wx_all := wx_mem 820 (by decide +kernel) (by decide +kernel)
theorem wt_777 : (.code ⟨"WidthCampaignsModel", "jumpOf", "(II)I"⟩ prog_8_method_14_code 5 (Option.some Jvm.ClassFile.FieldType.int) : Cond) ∈ wx_all := wx_mem 821 (by decide +kernel) (by decide +kernel)
theorem wt_778 : (.methodLink "WidthCampaignsModel" 103 ⟨"WidthCampaignsModel", "costOf", "(II)I"⟩ : Cond) ∈ wx_all := wx_mem 822 (by decide +kernel) (by decide +kernel)
theorem wt_780 : (.instanceMethod ⟨"WidthCampaignsModel", "costOf", "(II)I"⟩ : Cond) ∈ wx_all := wx_mem 824 (by decide +kernel) (by decide +kernel)
theorem wt_781 : (.code ⟨"WidthCampaignsModel", "costOf", "(II)I"⟩ prog_8_method_13_code 5 (Option.some Jvm.ClassFile.FieldType.int) : Cond) ∈ wx_all := wx_mem 825 (by decide +kernel) (by decide +kernel)
theorem wt_782 : (.methodLink "WidthCampaignsModel" 135 ⟨"WidthCampaignsModel", "reckon", "([II)V"⟩ : Cond) ∈ wx_all := wx_mem 826 (by decide +kernel) (by decide +kernel)
theorem wt_784 : (.instanceMethod ⟨"WidthCampaignsModel", "reckon", "([II)V"⟩ : Cond) ∈ wx_all := wx_mem 828 (by decide +kernel) (by decide +kernel)
theorem wt_785 : (.code ⟨"WidthCampaignsModel", "reckon", "([II)V"⟩ prog_8_method_16_code 5 (Option.none : Option Jvm.ClassFile.FieldType) : Cond) ∈ wx_all := wx_mem 829 (by decide +kernel) (by decide +kernel)
theorem wt_786 : (.methodLink "WidthCampaignsModel" 119 ⟨"WidthCampaignsModel", "isWorn", "([III)Z"⟩ : Cond) ∈ wx_all := wx_mem 830 (by decide +kernel) (by decide +kernel)
theorem wt_788 : (.instanceMethod ⟨"WidthCampaignsModel", "isWorn", "([III)Z"⟩ : Cond) ∈ wx_all := wx_mem 832 (by decide +kernel) (by decide +kernel)
theorem wt_789 : (.code ⟨"WidthCampaignsModel", "isWorn", "([III)Z"⟩ prog_8_method_17_code 9 (Option.some Jvm.ClassFile.FieldType.boolean) : Cond) ∈ wx_all := wx_mem 833 (by decide +kernel) (by decide +kernel)
theorem wt_818 : (.constantLong "WidthCampaignsModel" 139 15 : Cond) ∈ wx_all := wx_mem 862 (by decide +kernel) (by decide +kernel)
theorem wt_819 : (.methodLink "WidthCampaignsModel" 141 ⟨"WidthCampaignsModel", "isGood", "([I)Z"⟩ : Cond) ∈ wx_all := wx_mem 863 (by decide +kernel) (by decide +kernel)
theorem wt_821 : (.instanceMethod ⟨"WidthCampaignsModel", "isGood", "([I)Z"⟩ : Cond) ∈ wx_all := wx_mem 865 (by decide +kernel) (by decide +kernel)
theorem wt_822 : (.code ⟨"WidthCampaignsModel", "isGood", "([I)Z"⟩ prog_8_method_26_code 3 (Option.some Jvm.ClassFile.FieldType.boolean) : Cond) ∈ wx_all := wx_mem 866 (by decide +kernel) (by decide +kernel)
theorem wt_827 : (.methodLink "WidthCampaignsModel" 148 ⟨"WidthCampaignsModel", "better", "()Z"⟩ : Cond) ∈ wx_all := wx_mem 871 (by decide +kernel) (by decide +kernel)
theorem wt_829 : (.instanceMethod ⟨"WidthCampaignsModel", "better", "()Z"⟩ : Cond) ∈ wx_all := wx_mem 873 (by decide +kernel) (by decide +kernel)
theorem wt_830 : (.code ⟨"WidthCampaignsModel", "better", "()Z"⟩ prog_8_method_29_code 3 (Option.some Jvm.ClassFile.FieldType.boolean) : Cond) ∈ wx_all := wx_mem 874 (by decide +kernel) (by decide +kernel)
theorem wt_831 : (.methodLink "WidthCampaignsModel" 145 ⟨"WidthCampaignsModel", "swaps", "(II)Z"⟩ : Cond) ∈ wx_all := wx_mem 875 (by decide +kernel) (by decide +kernel)
theorem wt_833 : (.instanceMethod ⟨"WidthCampaignsModel", "swaps", "(II)Z"⟩ : Cond) ∈ wx_all := wx_mem 877 (by decide +kernel) (by decide +kernel)
theorem wt_834 : (.code ⟨"WidthCampaignsModel", "swaps", "(II)Z"⟩ prog_8_method_28_code 5 (Option.some Jvm.ClassFile.FieldType.boolean) : Cond) ∈ wx_all := wx_mem 878 (by decide +kernel) (by decide +kernel)
theorem wp_0 : (.selects "WidthCampaigns$Plant" ⟨"WidthCampaigns$Plant", "leastJumpTo", "(I)I"⟩ ⟨"WidthCampaigns$Plant", "leastJumpTo", "(I)I"⟩ : Cond) ∈ wx_all := wx_mem 0 (by decide +kernel) (by decide +kernel)
theorem wp_2 : (.selects "WidthCampaigns" ⟨"WidthCampaigns", "forgetOrder", "()V"⟩ ⟨"WidthCampaigns", "forgetOrder", "()V"⟩ : Cond) ∈ wx_all := wx_mem 2 (by decide +kernel) (by decide +kernel)
theorem wp_3 : (.selects "WidthCampaigns$Plant" ⟨"WidthCampaigns$Plant", "addCoil", "(IIII)I"⟩ ⟨"WidthCampaigns$Plant", "addCoil", "(IIII)I"⟩ : Cond) ∈ wx_all := wx_mem 3 (by decide +kernel) (by decide +kernel)
theorem wp_4 : (.selects "WidthCampaigns$Plant" ⟨"WidthCampaigns$Plant", "reckonJumps", "()V"⟩ ⟨"WidthCampaigns$Plant", "reckonJumps", "()V"⟩ : Cond) ∈ wx_all := wx_mem 4 (by decide +kernel) (by decide +kernel)
theorem wp_5 : (.selects "WidthCampaigns$Plant" ⟨"WidthCampaigns$Plant", "reckonJump", "(II)I"⟩ ⟨"WidthCampaigns$Plant", "reckonJump", "(II)I"⟩ : Cond) ∈ wx_all := wx_mem 5 (by decide +kernel) (by decide +kernel)
theorem wp_6 : (.selects "WidthCampaigns$JumpTable" ⟨"WidthCampaigns$JumpTable", "costOf", "(I)I"⟩ ⟨"WidthCampaigns$JumpTable", "costOf", "(I)I"⟩ : Cond) ∈ wx_all := wx_mem 6 (by decide +kernel) (by decide +kernel)
theorem wp_7 : (.selects "WidthCampaigns$JumpTable" ⟨"WidthCampaigns$JumpTable", "addRow", "(III)V"⟩ ⟨"WidthCampaigns$JumpTable", "addRow", "(III)V"⟩ : Cond) ∈ wx_all := wx_mem 7 (by decide +kernel) (by decide +kernel)
theorem wp_8 : (.selects "WidthCampaigns$WidthGroups" ⟨"WidthCampaigns$WidthGroups", "addGroup", "(III)V"⟩ ⟨"WidthCampaigns$WidthGroups", "addGroup", "(III)V"⟩ : Cond) ∈ wx_all := wx_mem 8 (by decide +kernel) (by decide +kernel)
theorem wp_9 : (.selects "WidthCampaigns" ⟨"WidthCampaigns", "isNoCoil", "(I)Z"⟩ ⟨"WidthCampaigns", "isNoCoil", "(I)Z"⟩ : Cond) ∈ wx_all := wx_mem 9 (by decide +kernel) (by decide +kernel)
theorem wp_10 : (.selects "WidthCampaigns$Search" ⟨"WidthCampaigns$Search", "searchWith", "(I)V"⟩ ⟨"WidthCampaigns$Search", "searchWith", "(I)V"⟩ : Cond) ∈ wx_all := wx_mem 10 (by decide +kernel) (by decide +kernel)
theorem wp_11 : (.selects "WidthCampaigns$Line" ⟨"WidthCampaigns$Line", "clear", "()V"⟩ ⟨"WidthCampaigns$Line", "clear", "()V"⟩ : Cond) ∈ wx_all := wx_mem 11 (by decide +kernel) (by decide +kernel)
theorem wp_12 : (.selects "WidthCampaigns$Search" ⟨"WidthCampaigns$Search", "goOnAt", "(I)V"⟩ ⟨"WidthCampaigns$Search", "goOnAt", "(I)V"⟩ : Cond) ∈ wx_all := wx_mem 12 (by decide +kernel) (by decide +kernel)
theorem wp_13 : (.selects "WidthCampaigns$Search" ⟨"WidthCampaigns$Search", "keepBest", "()V"⟩ ⟨"WidthCampaigns$Search", "keepBest", "()V"⟩ : Cond) ∈ wx_all := wx_mem 13 (by decide +kernel) (by decide +kernel)
theorem wp_14 : (.selects "WidthCampaigns$Line" ⟨"WidthCampaigns$Line", "penaltySoFar", "()I"⟩ ⟨"WidthCampaigns$Line", "penaltySoFar", "()I"⟩ : Cond) ∈ wx_all := wx_mem 14 (by decide +kernel) (by decide +kernel)
theorem wp_15 : (.selects "WidthCampaigns$Line" ⟨"WidthCampaigns$Line", "mayPut", "(I)Z"⟩ ⟨"WidthCampaigns$Line", "mayPut", "(I)Z"⟩ : Cond) ∈ wx_all := wx_mem 15 (by decide +kernel) (by decide +kernel)
theorem wp_16 : (.selects "WidthCampaigns$Line" ⟨"WidthCampaigns$Line", "mayFollow", "(II)Z"⟩ ⟨"WidthCampaigns$Line", "mayFollow", "(II)Z"⟩ : Cond) ∈ wx_all := wx_mem 16 (by decide +kernel) (by decide +kernel)
theorem wp_17 : (.selects "WidthCampaigns$Search" ⟨"WidthCampaigns$Search", "putAndGoOn", "(II)V"⟩ ⟨"WidthCampaigns$Search", "putAndGoOn", "(II)V"⟩ : Cond) ∈ wx_all := wx_mem 17 (by decide +kernel) (by decide +kernel)
theorem wp_18 : (.selects "WidthCampaigns$Line" ⟨"WidthCampaigns$Line", "put", "(I)V"⟩ ⟨"WidthCampaigns$Line", "put", "(I)V"⟩ : Cond) ∈ wx_all := wx_mem 18 (by decide +kernel) (by decide +kernel)
theorem wp_19 : (.selects "WidthCampaigns$Line" ⟨"WidthCampaigns$Line", "isWornWith", "(I)Z"⟩ ⟨"WidthCampaigns$Line", "isWornWith", "(I)Z"⟩ : Cond) ∈ wx_all := wx_mem 19 (by decide +kernel) (by decide +kernel)
theorem wp_20 : (.selects "WidthCampaigns$Plant" ⟨"WidthCampaigns$Plant", "kilometresInGroup", "(II)I"⟩ ⟨"WidthCampaigns$Plant", "kilometresInGroup", "(II)I"⟩ : Cond) ∈ wx_all := wx_mem 20 (by decide +kernel) (by decide +kernel)
theorem wp_21 : (.selects "WidthCampaigns$Line" ⟨"WidthCampaigns$Line", "countKilometres", "(IZ)V"⟩ ⟨"WidthCampaigns$Line", "countKilometres", "(IZ)V"⟩ : Cond) ∈ wx_all := wx_mem 21 (by decide +kernel) (by decide +kernel)
theorem wp_22 : (.selects "WidthCampaigns$Line" ⟨"WidthCampaigns$Line", "countCosts", "(IZ)V"⟩ ⟨"WidthCampaigns$Line", "countCosts", "(IZ)V"⟩ : Cond) ∈ wx_all := wx_mem 22 (by decide +kernel) (by decide +kernel)
theorem wp_23 : (.selects "WidthCampaigns$Line" ⟨"WidthCampaigns$Line", "takeBack", "()V"⟩ ⟨"WidthCampaigns$Line", "takeBack", "()V"⟩ : Cond) ∈ wx_all := wx_mem 23 (by decide +kernel) (by decide +kernel)
theorem wp_24 : (.selects "WidthCampaigns$Line" ⟨"WidthCampaigns$Line", "layAll", "([I)Z"⟩ ⟨"WidthCampaigns$Line", "layAll", "([I)Z"⟩ : Cond) ∈ wx_all := wx_mem 24 (by decide +kernel) (by decide +kernel)
theorem wp_25 : (.selects "WidthCampaigns" ⟨"WidthCampaigns", "requireOrder", "()V"⟩ ⟨"WidthCampaigns", "requireOrder", "()V"⟩ : Cond) ∈ wx_all := wx_mem 25 (by decide +kernel) (by decide +kernel)
theorem wp_26 : (.selects "WidthCampaigns" ⟨"WidthCampaigns", "requirePlace", "(I)V"⟩ ⟨"WidthCampaigns", "requirePlace", "(I)V"⟩ : Cond) ∈ wx_all := wx_mem 26 (by decide +kernel) (by decide +kernel)
theorem wp_27 : (.selects "WidthCampaigns$Line" ⟨"WidthCampaigns$Line", "changesSoFar", "()I"⟩ ⟨"WidthCampaigns$Line", "changesSoFar", "()I"⟩ : Cond) ∈ wx_all := wx_mem 27 (by decide +kernel) (by decide +kernel)
theorem wp_28 : (.selects "WidthCampaigns$Line" ⟨"WidthCampaigns$Line", "movedSoFar", "()I"⟩ ⟨"WidthCampaigns$Line", "movedSoFar", "()I"⟩ : Cond) ∈ wx_all := wx_mem 28 (by decide +kernel) (by decide +kernel)
theorem wp_29 : (.selects "WidthCampaigns" ⟨"WidthCampaigns", "readIntoScratch", "(J)Z"⟩ ⟨"WidthCampaigns", "readIntoScratch", "(J)Z"⟩ : Cond) ∈ wx_all := wx_mem 29 (by decide +kernel) (by decide +kernel)
theorem wp_30 : (.selects "WidthCampaigns" ⟨"WidthCampaigns", "takeFirstBetterPair", "()Z"⟩ ⟨"WidthCampaigns", "takeFirstBetterPair", "()Z"⟩ : Cond) ∈ wx_all := wx_mem 30 (by decide +kernel) (by decide +kernel)
theorem wp_31 : (.selects "WidthCampaigns" ⟨"WidthCampaigns", "takePairIfBetter", "(II)Z"⟩ ⟨"WidthCampaigns", "takePairIfBetter", "(II)Z"⟩ : Cond) ∈ wx_all := wx_mem 31 (by decide +kernel) (by decide +kernel)
theorem wp_32 : (.selects "WidthCampaignsModel" ⟨"WidthCampaignsModel", "goes", "(ZZZ)Z"⟩ ⟨"WidthCampaignsModel", "goes", "(ZZZ)Z"⟩ : Cond) ∈ wx_all := wx_mem 32 (by decide +kernel) (by decide +kernel)
theorem wp_33 : (.selects "WidthCampaignsModel" ⟨"WidthCampaignsModel", "gone", "()V"⟩ ⟨"WidthCampaignsModel", "gone", "()V"⟩ : Cond) ∈ wx_all := wx_mem 33 (by decide +kernel) (by decide +kernel)
theorem wp_34 : (.selects "WidthCampaignsModel" ⟨"WidthCampaignsModel", "isCoil", "(I)Z"⟩ ⟨"WidthCampaignsModel", "isCoil", "(I)Z"⟩ : Cond) ∈ wx_all := wx_mem 34 (by decide +kernel) (by decide +kernel)
theorem wp_35 : (.selects "WidthCampaignsModel" ⟨"WidthCampaignsModel", "stands", "(II)Z"⟩ ⟨"WidthCampaignsModel", "stands", "(II)Z"⟩ : Cond) ∈ wx_all := wx_mem 35 (by decide +kernel) (by decide +kernel)
theorem wp_36 : (.selects "WidthCampaignsModel" ⟨"WidthCampaignsModel", "mayBe", "([II)Z"⟩ ⟨"WidthCampaignsModel", "mayBe", "([II)Z"⟩ : Cond) ∈ wx_all := wx_mem 36 (by decide +kernel) (by decide +kernel)
theorem wp_37 : (.selects "WidthCampaignsModel" ⟨"WidthCampaignsModel", "jumpOf", "(II)I"⟩ ⟨"WidthCampaignsModel", "jumpOf", "(II)I"⟩ : Cond) ∈ wx_all := wx_mem 37 (by decide +kernel) (by decide +kernel)
theorem wp_38 : (.selects "WidthCampaignsModel" ⟨"WidthCampaignsModel", "costOf", "(II)I"⟩ ⟨"WidthCampaignsModel", "costOf", "(II)I"⟩ : Cond) ∈ wx_all := wx_mem 38 (by decide +kernel) (by decide +kernel)
theorem wp_39 : (.selects "WidthCampaignsModel" ⟨"WidthCampaignsModel", "reckon", "([II)V"⟩ ⟨"WidthCampaignsModel", "reckon", "([II)V"⟩ : Cond) ∈ wx_all := wx_mem 39 (by decide +kernel) (by decide +kernel)
theorem wp_40 : (.selects "WidthCampaignsModel" ⟨"WidthCampaignsModel", "isWorn", "([III)Z"⟩ ⟨"WidthCampaignsModel", "isWorn", "([III)Z"⟩ : Cond) ∈ wx_all := wx_mem 40 (by decide +kernel) (by decide +kernel)
theorem wp_41 : (.selects "WidthCampaignsModel" ⟨"WidthCampaignsModel", "isGood", "([I)Z"⟩ ⟨"WidthCampaignsModel", "isGood", "([I)Z"⟩ : Cond) ∈ wx_all := wx_mem 41 (by decide +kernel) (by decide +kernel)
theorem wp_42 : (.selects "WidthCampaignsModel" ⟨"WidthCampaignsModel", "better", "()Z"⟩ ⟨"WidthCampaignsModel", "better", "()Z"⟩ : Cond) ∈ wx_all := wx_mem 42 (by decide +kernel) (by decide +kernel)
theorem wp_43 : (.selects "WidthCampaignsModel" ⟨"WidthCampaignsModel", "swaps", "(II)Z"⟩ ⟨"WidthCampaignsModel", "swaps", "(II)Z"⟩ : Cond) ∈ wx_all := wx_mem 43 (by decide +kernel) (by decide +kernel)
abbrev wy_G_addGroup : MethodName := ⟨"WidthCampaigns$WidthGroups", "addGroup", "(III)V"⟩
abbrev wx_ws_G_addGroup : List Cond := (.code ⟨"WidthCampaigns$WidthGroups", "addGroup", "(III)V"⟩ prog_6_method_2_code 4 (Option.none : Option Jvm.ClassFile.FieldType) : Cond) :: wx_all
theorem wh_G_addGroup : (wy_G_addGroup).cls ≠ "java/lang/invoke/MethodHandle" ∧ (wy_G_addGroup).cls ≠ "java/lang/invoke/VarHandle" ∧ (parseMethodDescriptor (wy_G_addGroup).desc).map (fun d => d.parameters.length) = some 3 := by decide +kernel
abbrev wy_J_addRow : MethodName := ⟨"WidthCampaigns$JumpTable", "addRow", "(III)V"⟩
abbrev wx_ws_J_addRow : List Cond := (.code ⟨"WidthCampaigns$JumpTable", "addRow", "(III)V"⟩ prog_2_method_2_code 4 (Option.none : Option Jvm.ClassFile.FieldType) : Cond) :: wx_all
theorem wh_J_addRow : (wy_J_addRow).cls ≠ "java/lang/invoke/MethodHandle" ∧ (wy_J_addRow).cls ≠ "java/lang/invoke/VarHandle" ∧ (parseMethodDescriptor (wy_J_addRow).desc).map (fun d => d.parameters.length) = some 3 := by decide +kernel
abbrev wy_J_costOf : MethodName := ⟨"WidthCampaigns$JumpTable", "costOf", "(I)I"⟩
abbrev wx_ws_J_costOf : List Cond := (.code ⟨"WidthCampaigns$JumpTable", "costOf", "(I)I"⟩ prog_2_method_3_code 3 (Option.some Jvm.ClassFile.FieldType.int) : Cond) :: wx_all
theorem wh_J_costOf : (wy_J_costOf).cls ≠ "java/lang/invoke/MethodHandle" ∧ (wy_J_costOf).cls ≠ "java/lang/invoke/VarHandle" ∧ (parseMethodDescriptor (wy_J_costOf).desc).map (fun d => d.parameters.length) = some 1 := by decide +kernel
abbrev wy_K_change : MethodName := ⟨"WidthCampaignsLaw", "change", "(LWidthCampaigns;I[J)I"⟩
abbrev wx_ws_K_change : List Cond := (.codeWith ⟨"WidthCampaignsLaw", "change", "(LWidthCampaigns;I[J)I"⟩ method_13_code 4 (Option.some Jvm.ClassFile.FieldType.int) [(0, 16, 19, 20), (0, 16, 22, 45)] : Cond) :: wx_all
theorem wh_K_change : (wy_K_change).cls ≠ "java/lang/invoke/MethodHandle" ∧ (wy_K_change).cls ≠ "java/lang/invoke/VarHandle" ∧ (parseMethodDescriptor (wy_K_change).desc).map (fun d => d.parameters.length) = some 3 := by decide +kernel
abbrev wy_K_coil : MethodName := ⟨"WidthCampaignsLaw", "coil", "(LWidthCampaigns;IIII[J)I"⟩
abbrev wx_ws_K_coil : List Cond := (.codeWith ⟨"WidthCampaignsLaw", "coil", "(LWidthCampaigns;IIII[J)I"⟩ method_3_code 7 (Option.some Jvm.ClassFile.FieldType.int) [(0, 14, 17, 13), (0, 14, 21, 15)] : Cond) :: wx_all
theorem wh_K_coil : (wy_K_coil).cls ≠ "java/lang/invoke/MethodHandle" ∧ (wy_K_coil).cls ≠ "java/lang/invoke/VarHandle" ∧ (parseMethodDescriptor (wy_K_coil).desc).map (fun d => d.parameters.length) = some 6 := by decide +kernel
abbrev wy_K_group : MethodName := ⟨"WidthCampaignsLaw", "group", "(LWidthCampaigns;III[J)I"⟩
abbrev wx_ws_K_group : List Cond := (.codeWith ⟨"WidthCampaignsLaw", "group", "(LWidthCampaigns;III[J)I"⟩ method_5_code 6 (Option.some Jvm.ClassFile.FieldType.int) [(0, 12, 15, 13), (0, 12, 19, 15)] : Cond) :: wx_all
theorem wh_K_group : (wy_K_group).cls ≠ "java/lang/invoke/MethodHandle" ∧ (wy_K_group).cls ≠ "java/lang/invoke/VarHandle" ∧ (parseMethodDescriptor (wy_K_group).desc).map (fun d => d.parameters.length) = some 5 := by decide +kernel
abbrev wy_K_improve : MethodName := ⟨"WidthCampaignsLaw", "improve", "(LWidthCampaigns;I[J)I"⟩
abbrev wx_ws_K_improve : List Cond := (.codeWith ⟨"WidthCampaignsLaw", "improve", "(LWidthCampaigns;I[J)I"⟩ method_16_code 4 (Option.some Jvm.ClassFile.FieldType.int) [(0, 9, 12, 45), (0, 9, 15, 13)] : Cond) :: wx_all
theorem wh_K_improve : (wy_K_improve).cls ≠ "java/lang/invoke/MethodHandle" ∧ (wy_K_improve).cls ≠ "java/lang/invoke/VarHandle" ∧ (parseMethodDescriptor (wy_K_improve).desc).map (fun d => d.parameters.length) = some 3 := by decide +kernel
abbrev wy_K_jump : MethodName := ⟨"WidthCampaignsLaw", "jump", "(LWidthCampaigns;II[J)I"⟩
abbrev wx_ws_K_jump : List Cond := (.codeWith ⟨"WidthCampaignsLaw", "jump", "(LWidthCampaigns;II[J)I"⟩ method_14_code 5 (Option.some Jvm.ClassFile.FieldType.int) [(0, 10, 13, 20)] : Cond) :: wx_all
theorem wh_K_jump : (wy_K_jump).cls ≠ "java/lang/invoke/MethodHandle" ∧ (wy_K_jump).cls ≠ "java/lang/invoke/VarHandle" ∧ (parseMethodDescriptor (wy_K_jump).desc).map (fun d => d.parameters.length) = some 4 := by decide +kernel
abbrev wy_K_old : MethodName := ⟨"WidthCampaignsLaw", "old", "(LWidthCampaigns;II)I"⟩
abbrev wx_ws_K_old : List Cond := (.codeWith ⟨"WidthCampaignsLaw", "old", "(LWidthCampaigns;II)I"⟩ method_7_code 4 (Option.some Jvm.ClassFile.FieldType.int) [(0, 6, 9, 20), (0, 6, 12, 13)] : Cond) :: wx_all
theorem wh_K_old : (wy_K_old).cls ≠ "java/lang/invoke/MethodHandle" ∧ (wy_K_old).cls ≠ "java/lang/invoke/VarHandle" ∧ (parseMethodDescriptor (wy_K_old).desc).map (fun d => d.parameters.length) = some 3 := by decide +kernel
abbrev wy_K_order : MethodName := ⟨"WidthCampaignsLaw", "order", "(LWidthCampaigns;I[J)I"⟩
abbrev wx_ws_K_order : List Cond := (.codeWith ⟨"WidthCampaignsLaw", "order", "(LWidthCampaigns;I[J)I"⟩ method_11_code 4 (Option.some Jvm.ClassFile.FieldType.int) [(0, 9, 12, 20), (0, 9, 15, 45)] : Cond) :: wx_all
theorem wh_K_order : (wy_K_order).cls ≠ "java/lang/invoke/MethodHandle" ∧ (wy_K_order).cls ≠ "java/lang/invoke/VarHandle" ∧ (parseMethodDescriptor (wy_K_order).desc).map (fun d => d.parameters.length) = some 3 := by decide +kernel
abbrev wy_K_proved : MethodName := ⟨"WidthCampaignsLaw", "proved", "(LWidthCampaigns;[J)I"⟩
abbrev wx_ws_K_proved : List Cond := (.codeWith ⟨"WidthCampaignsLaw", "proved", "(LWidthCampaigns;[J)I"⟩ method_10_code 3 (Option.some Jvm.ClassFile.FieldType.int) [(0, 15, 18, 45)] : Cond) :: wx_all
theorem wh_K_proved : (wy_K_proved).cls ≠ "java/lang/invoke/MethodHandle" ∧ (wy_K_proved).cls ≠ "java/lang/invoke/VarHandle" ∧ (parseMethodDescriptor (wy_K_proved).desc).map (fun d => d.parameters.length) = some 2 := by decide +kernel
abbrev wy_K_rules : MethodName := ⟨"WidthCampaignsLaw", "rules", "(LWidthCampaigns;IIII)I"⟩
abbrev wx_ws_K_rules : List Cond := (.codeWith ⟨"WidthCampaignsLaw", "rules", "(LWidthCampaigns;IIII)I"⟩ method_8_code 6 (Option.some Jvm.ClassFile.FieldType.int) [(0, 9, 12, 13)] : Cond) :: wx_all
theorem wh_K_rules : (wy_K_rules).cls ≠ "java/lang/invoke/MethodHandle" ∧ (wy_K_rules).cls ≠ "java/lang/invoke/VarHandle" ∧ (parseMethodDescriptor (wy_K_rules).desc).map (fun d => d.parameters.length) = some 5 := by decide +kernel
abbrev wy_K_run : MethodName := ⟨"WidthCampaignsLaw", "run", "(LWidthCampaigns;I[J)I"⟩
abbrev wx_ws_K_run : List Cond := (.codeWith ⟨"WidthCampaignsLaw", "run", "(LWidthCampaigns;I[J)I"⟩ method_9_code 4 (Option.some Jvm.ClassFile.FieldType.int) [(0, 9, 12, 13)] : Cond) :: wx_all
theorem wh_K_run : (wy_K_run).cls ≠ "java/lang/invoke/MethodHandle" ∧ (wy_K_run).cls ≠ "java/lang/invoke/VarHandle" ∧ (parseMethodDescriptor (wy_K_run).desc).map (fun d => d.parameters.length) = some 3 := by decide +kernel
abbrev wy_K_table : MethodName := ⟨"WidthCampaignsLaw", "table", "(LWidthCampaigns;IIII[J)I"⟩
abbrev wx_ws_K_table : List Cond := (.codeWith ⟨"WidthCampaignsLaw", "table", "(LWidthCampaigns;IIII[J)I"⟩ method_4_code 7 (Option.some Jvm.ClassFile.FieldType.int) [(0, 14, 17, 20), (0, 14, 21, 13), (0, 14, 25, 15)] : Cond) :: wx_all
theorem wh_K_table : (wy_K_table).cls ≠ "java/lang/invoke/MethodHandle" ∧ (wy_K_table).cls ≠ "java/lang/invoke/VarHandle" ∧ (parseMethodDescriptor (wy_K_table).desc).map (fun d => d.parameters.length) = some 6 := by decide +kernel
abbrev wy_K_tell : MethodName := ⟨"WidthCampaignsLaw", "tell", "(LWidthCampaigns;J)I"⟩
abbrev wx_ws_K_tell : List Cond := (.codeWith ⟨"WidthCampaignsLaw", "tell", "(LWidthCampaigns;J)I"⟩ method_15_code 4 (Option.some Jvm.ClassFile.FieldType.int) [(0, 5, 8, 20), (0, 5, 11, 15)] : Cond) :: wx_all
theorem wh_K_tell : (wy_K_tell).cls ≠ "java/lang/invoke/MethodHandle" ∧ (wy_K_tell).cls ≠ "java/lang/invoke/VarHandle" ∧ (parseMethodDescriptor (wy_K_tell).desc).map (fun d => d.parameters.length) = some 2 := by decide +kernel
abbrev wy_K_told : MethodName := ⟨"WidthCampaignsLaw", "told", "(LWidthCampaigns;I[J)I"⟩
abbrev wx_ws_K_told : List Cond := (.codeWith ⟨"WidthCampaignsLaw", "told", "(LWidthCampaigns;I[J)I"⟩ method_12_code 4 (Option.some Jvm.ClassFile.FieldType.int) [(0, 9, 12, 20), (0, 9, 15, 45)] : Cond) :: wx_all
theorem wh_K_told : (wy_K_told).cls ≠ "java/lang/invoke/MethodHandle" ∧ (wy_K_told).cls ≠ "java/lang/invoke/VarHandle" ∧ (parseMethodDescriptor (wy_K_told).desc).map (fun d => d.parameters.length) = some 3 := by decide +kernel
abbrev wy_K_urgent : MethodName := ⟨"WidthCampaignsLaw", "urgent", "(LWidthCampaigns;II)I"⟩
abbrev wx_ws_K_urgent : List Cond := (.codeWith ⟨"WidthCampaignsLaw", "urgent", "(LWidthCampaigns;II)I"⟩ method_6_code 4 (Option.some Jvm.ClassFile.FieldType.int) [(0, 6, 9, 20), (0, 6, 12, 13)] : Cond) :: wx_all
theorem wh_K_urgent : (wy_K_urgent).cls ≠ "java/lang/invoke/MethodHandle" ∧ (wy_K_urgent).cls ≠ "java/lang/invoke/VarHandle" ∧ (parseMethodDescriptor (wy_K_urgent).desc).map (fun d => d.parameters.length) = some 3 := by decide +kernel
abbrev wy_L_changesSoFar : MethodName := ⟨"WidthCampaigns$Line", "changesSoFar", "()I"⟩
abbrev wx_ws_L_changesSoFar : List Cond := (.code ⟨"WidthCampaigns$Line", "changesSoFar", "()I"⟩ prog_3_method_3_code 1 (Option.some Jvm.ClassFile.FieldType.int) : Cond) :: wx_all
theorem wh_L_changesSoFar : (wy_L_changesSoFar).cls ≠ "java/lang/invoke/MethodHandle" ∧ (wy_L_changesSoFar).cls ≠ "java/lang/invoke/VarHandle" ∧ (parseMethodDescriptor (wy_L_changesSoFar).desc).map (fun d => d.parameters.length) = some 0 := by decide +kernel
abbrev wy_L_clear : MethodName := ⟨"WidthCampaigns$Line", "clear", "()V"⟩
abbrev wx_ws_L_clear : List Cond := (.code ⟨"WidthCampaigns$Line", "clear", "()V"⟩ prog_3_method_5_code 2 (Option.none : Option Jvm.ClassFile.FieldType) : Cond) :: wx_all
theorem wh_L_clear : (wy_L_clear).cls ≠ "java/lang/invoke/MethodHandle" ∧ (wy_L_clear).cls ≠ "java/lang/invoke/VarHandle" ∧ (parseMethodDescriptor (wy_L_clear).desc).map (fun d => d.parameters.length) = some 0 := by decide +kernel
abbrev wy_L_countCosts : MethodName := ⟨"WidthCampaigns$Line", "countCosts", "(IZ)V"⟩
abbrev wx_ws_L_countCosts : List Cond := (.code ⟨"WidthCampaigns$Line", "countCosts", "(IZ)V"⟩ prog_3_method_13_code 7 (Option.none : Option Jvm.ClassFile.FieldType) : Cond) :: wx_all
theorem wh_L_countCosts : (wy_L_countCosts).cls ≠ "java/lang/invoke/MethodHandle" ∧ (wy_L_countCosts).cls ≠ "java/lang/invoke/VarHandle" ∧ (parseMethodDescriptor (wy_L_countCosts).desc).map (fun d => d.parameters.length) = some 2 := by decide +kernel
abbrev wy_L_countKilometres : MethodName := ⟨"WidthCampaigns$Line", "countKilometres", "(IZ)V"⟩
abbrev wx_ws_L_countKilometres : List Cond := (.code ⟨"WidthCampaigns$Line", "countKilometres", "(IZ)V"⟩ prog_3_method_12_code 6 (Option.none : Option Jvm.ClassFile.FieldType) : Cond) :: wx_all
theorem wh_L_countKilometres : (wy_L_countKilometres).cls ≠ "java/lang/invoke/MethodHandle" ∧ (wy_L_countKilometres).cls ≠ "java/lang/invoke/VarHandle" ∧ (parseMethodDescriptor (wy_L_countKilometres).desc).map (fun d => d.parameters.length) = some 2 := by decide +kernel
abbrev wy_L_isWornWith : MethodName := ⟨"WidthCampaigns$Line", "isWornWith", "(I)Z"⟩
abbrev wx_ws_L_isWornWith : List Cond := (.code ⟨"WidthCampaigns$Line", "isWornWith", "(I)Z"⟩ prog_3_method_11_code 4 (Option.some Jvm.ClassFile.FieldType.boolean) : Cond) :: wx_all
theorem wh_L_isWornWith : (wy_L_isWornWith).cls ≠ "java/lang/invoke/MethodHandle" ∧ (wy_L_isWornWith).cls ≠ "java/lang/invoke/VarHandle" ∧ (parseMethodDescriptor (wy_L_isWornWith).desc).map (fun d => d.parameters.length) = some 1 := by decide +kernel
abbrev wy_L_layAll : MethodName := ⟨"WidthCampaigns$Line", "layAll", "([I)Z"⟩
abbrev wx_ws_L_layAll : List Cond := (.code ⟨"WidthCampaigns$Line", "layAll", "([I)Z"⟩ prog_3_method_6_code 3 (Option.some Jvm.ClassFile.FieldType.boolean) : Cond) :: wx_all
theorem wh_L_layAll : (wy_L_layAll).cls ≠ "java/lang/invoke/MethodHandle" ∧ (wy_L_layAll).cls ≠ "java/lang/invoke/VarHandle" ∧ (parseMethodDescriptor (wy_L_layAll).desc).map (fun d => d.parameters.length) = some 1 := by decide +kernel
abbrev wy_L_mayFollow : MethodName := ⟨"WidthCampaigns$Line", "mayFollow", "(II)Z"⟩
abbrev wx_ws_L_mayFollow : List Cond := (.code ⟨"WidthCampaigns$Line", "mayFollow", "(II)Z"⟩ prog_3_method_8_code 4 (Option.some Jvm.ClassFile.FieldType.boolean) : Cond) :: wx_all
theorem wh_L_mayFollow : (wy_L_mayFollow).cls ≠ "java/lang/invoke/MethodHandle" ∧ (wy_L_mayFollow).cls ≠ "java/lang/invoke/VarHandle" ∧ (parseMethodDescriptor (wy_L_mayFollow).desc).map (fun d => d.parameters.length) = some 2 := by decide +kernel
abbrev wy_L_mayPut : MethodName := ⟨"WidthCampaigns$Line", "mayPut", "(I)Z"⟩
abbrev wx_ws_L_mayPut : List Cond := (.code ⟨"WidthCampaigns$Line", "mayPut", "(I)Z"⟩ prog_3_method_7_code 2 (Option.some Jvm.ClassFile.FieldType.boolean) : Cond) :: wx_all
theorem wh_L_mayPut : (wy_L_mayPut).cls ≠ "java/lang/invoke/MethodHandle" ∧ (wy_L_mayPut).cls ≠ "java/lang/invoke/VarHandle" ∧ (parseMethodDescriptor (wy_L_mayPut).desc).map (fun d => d.parameters.length) = some 1 := by decide +kernel
abbrev wy_L_movedSoFar : MethodName := ⟨"WidthCampaigns$Line", "movedSoFar", "()I"⟩
abbrev wx_ws_L_movedSoFar : List Cond := (.code ⟨"WidthCampaigns$Line", "movedSoFar", "()I"⟩ prog_3_method_4_code 1 (Option.some Jvm.ClassFile.FieldType.int) : Cond) :: wx_all
theorem wh_L_movedSoFar : (wy_L_movedSoFar).cls ≠ "java/lang/invoke/MethodHandle" ∧ (wy_L_movedSoFar).cls ≠ "java/lang/invoke/VarHandle" ∧ (parseMethodDescriptor (wy_L_movedSoFar).desc).map (fun d => d.parameters.length) = some 0 := by decide +kernel
abbrev wy_L_penaltySoFar : MethodName := ⟨"WidthCampaigns$Line", "penaltySoFar", "()I"⟩
abbrev wx_ws_L_penaltySoFar : List Cond := (.code ⟨"WidthCampaigns$Line", "penaltySoFar", "()I"⟩ prog_3_method_2_code 1 (Option.some Jvm.ClassFile.FieldType.int) : Cond) :: wx_all
theorem wh_L_penaltySoFar : (wy_L_penaltySoFar).cls ≠ "java/lang/invoke/MethodHandle" ∧ (wy_L_penaltySoFar).cls ≠ "java/lang/invoke/VarHandle" ∧ (parseMethodDescriptor (wy_L_penaltySoFar).desc).map (fun d => d.parameters.length) = some 0 := by decide +kernel
abbrev wy_L_put : MethodName := ⟨"WidthCampaigns$Line", "put", "(I)V"⟩
abbrev wx_ws_L_put : List Cond := (.code ⟨"WidthCampaigns$Line", "put", "(I)V"⟩ prog_3_method_9_code 3 (Option.none : Option Jvm.ClassFile.FieldType) : Cond) :: wx_all
theorem wh_L_put : (wy_L_put).cls ≠ "java/lang/invoke/MethodHandle" ∧ (wy_L_put).cls ≠ "java/lang/invoke/VarHandle" ∧ (parseMethodDescriptor (wy_L_put).desc).map (fun d => d.parameters.length) = some 1 := by decide +kernel
abbrev wy_L_takeBack : MethodName := ⟨"WidthCampaigns$Line", "takeBack", "()V"⟩
abbrev wx_ws_L_takeBack : List Cond := (.code ⟨"WidthCampaigns$Line", "takeBack", "()V"⟩ prog_3_method_10_code 1 (Option.none : Option Jvm.ClassFile.FieldType) : Cond) :: wx_all
theorem wh_L_takeBack : (wy_L_takeBack).cls ≠ "java/lang/invoke/MethodHandle" ∧ (wy_L_takeBack).cls ≠ "java/lang/invoke/VarHandle" ∧ (parseMethodDescriptor (wy_L_takeBack).desc).map (fun d => d.parameters.length) = some 0 := by decide +kernel
abbrev wy_M_better : MethodName := ⟨"WidthCampaignsModel", "better", "()Z"⟩
abbrev wx_ws_M_better : List Cond := (.code ⟨"WidthCampaignsModel", "better", "()Z"⟩ prog_8_method_29_code 3 (Option.some Jvm.ClassFile.FieldType.boolean) : Cond) :: wx_all
theorem wh_M_better : (wy_M_better).cls ≠ "java/lang/invoke/MethodHandle" ∧ (wy_M_better).cls ≠ "java/lang/invoke/VarHandle" ∧ (parseMethodDescriptor (wy_M_better).desc).map (fun d => d.parameters.length) = some 0 := by decide +kernel
abbrev wy_M_bound : MethodName := ⟨"WidthCampaignsModel", "bound", "()I"⟩
abbrev wx_ws_M_bound : List Cond := (.code ⟨"WidthCampaignsModel", "bound", "()I"⟩ prog_8_method_25_code 7 (Option.some Jvm.ClassFile.FieldType.int) : Cond) :: wx_all
theorem wh_M_bound : (wy_M_bound).cls ≠ "java/lang/invoke/MethodHandle" ∧ (wy_M_bound).cls ≠ "java/lang/invoke/VarHandle" ∧ (parseMethodDescriptor (wy_M_bound).desc).map (fun d => d.parameters.length) = some 0 := by decide +kernel
abbrev wy_M_change : MethodName := ⟨"WidthCampaignsModel", "change", "(I)Z"⟩
abbrev wx_ws_M_change : List Cond := (.code ⟨"WidthCampaignsModel", "change", "(I)Z"⟩ prog_8_method_23_code 2 (Option.some Jvm.ClassFile.FieldType.boolean) : Cond) :: wx_all
theorem wh_M_change : (wy_M_change).cls ≠ "java/lang/invoke/MethodHandle" ∧ (wy_M_change).cls ≠ "java/lang/invoke/VarHandle" ∧ (parseMethodDescriptor (wy_M_change).desc).map (fun d => d.parameters.length) = some 1 := by decide +kernel
abbrev wy_M_coil : MethodName := ⟨"WidthCampaignsModel", "coil", "(IIII)I"⟩
abbrev wx_ws_M_coil : List Cond := (.code ⟨"WidthCampaignsModel", "coil", "(IIII)I"⟩ prog_8_method_7_code 5 (Option.some Jvm.ClassFile.FieldType.int) : Cond) :: wx_all
theorem wh_M_coil : (wy_M_coil).cls ≠ "java/lang/invoke/MethodHandle" ∧ (wy_M_coil).cls ≠ "java/lang/invoke/VarHandle" ∧ (parseMethodDescriptor (wy_M_coil).desc).map (fun d => d.parameters.length) = some 4 := by decide +kernel
abbrev wy_M_costOf : MethodName := ⟨"WidthCampaignsModel", "costOf", "(II)I"⟩
abbrev wx_ws_M_costOf : List Cond := (.code ⟨"WidthCampaignsModel", "costOf", "(II)I"⟩ prog_8_method_13_code 5 (Option.some Jvm.ClassFile.FieldType.int) : Cond) :: wx_all
theorem wh_M_costOf : (wy_M_costOf).cls ≠ "java/lang/invoke/MethodHandle" ∧ (wy_M_costOf).cls ≠ "java/lang/invoke/VarHandle" ∧ (parseMethodDescriptor (wy_M_costOf).desc).map (fun d => d.parameters.length) = some 2 := by decide +kernel
abbrev wy_M_goes : MethodName := ⟨"WidthCampaignsModel", "goes", "(ZZZ)Z"⟩
abbrev wx_ws_M_goes : List Cond := (.code ⟨"WidthCampaignsModel", "goes", "(ZZZ)Z"⟩ prog_8_method_4_code 4 (Option.some Jvm.ClassFile.FieldType.boolean) : Cond) :: wx_all
theorem wh_M_goes : (wy_M_goes).cls ≠ "java/lang/invoke/MethodHandle" ∧ (wy_M_goes).cls ≠ "java/lang/invoke/VarHandle" ∧ (parseMethodDescriptor (wy_M_goes).desc).map (fun d => d.parameters.length) = some 3 := by decide +kernel
abbrev wy_M_gone : MethodName := ⟨"WidthCampaignsModel", "gone", "()V"⟩
abbrev wx_ws_M_gone : List Cond := (.code ⟨"WidthCampaignsModel", "gone", "()V"⟩ prog_8_method_5_code 1 (Option.none : Option Jvm.ClassFile.FieldType) : Cond) :: wx_all
theorem wh_M_gone : (wy_M_gone).cls ≠ "java/lang/invoke/MethodHandle" ∧ (wy_M_gone).cls ≠ "java/lang/invoke/VarHandle" ∧ (parseMethodDescriptor (wy_M_gone).desc).map (fun d => d.parameters.length) = some 0 := by decide +kernel
abbrev wy_M_group : MethodName := ⟨"WidthCampaignsModel", "group", "(III)I"⟩
abbrev wx_ws_M_group : List Cond := (.code ⟨"WidthCampaignsModel", "group", "(III)I"⟩ prog_8_method_9_code 4 (Option.some Jvm.ClassFile.FieldType.int) : Cond) :: wx_all
theorem wh_M_group : (wy_M_group).cls ≠ "java/lang/invoke/MethodHandle" ∧ (wy_M_group).cls ≠ "java/lang/invoke/VarHandle" ∧ (parseMethodDescriptor (wy_M_group).desc).map (fun d => d.parameters.length) = some 3 := by decide +kernel
abbrev wy_M_improve : MethodName := ⟨"WidthCampaignsModel", "improve", "(I)I"⟩
abbrev wx_ws_M_improve : List Cond := (.code ⟨"WidthCampaignsModel", "improve", "(I)I"⟩ prog_8_method_30_code 3 (Option.some Jvm.ClassFile.FieldType.int) : Cond) :: wx_all
theorem wh_M_improve : (wy_M_improve).cls ≠ "java/lang/invoke/MethodHandle" ∧ (wy_M_improve).cls ≠ "java/lang/invoke/VarHandle" ∧ (parseMethodDescriptor (wy_M_improve).desc).map (fun d => d.parameters.length) = some 1 := by decide +kernel
abbrev wy_M_in : MethodName := ⟨"WidthCampaignsModel", "in", "(III)Z"⟩
abbrev wx_ws_M_in : List Cond := (.code ⟨"WidthCampaignsModel", "in", "(III)Z"⟩ prog_8_method_3_code 3 (Option.some Jvm.ClassFile.FieldType.boolean) : Cond) :: wx_all
theorem wh_M_in : (wy_M_in).cls ≠ "java/lang/invoke/MethodHandle" ∧ (wy_M_in).cls ≠ "java/lang/invoke/VarHandle" ∧ (parseMethodDescriptor (wy_M_in).desc).map (fun d => d.parameters.length) = some 3 := by decide +kernel
abbrev wy_M_isCoil : MethodName := ⟨"WidthCampaignsModel", "isCoil", "(I)Z"⟩
abbrev wx_ws_M_isCoil : List Cond := (.code ⟨"WidthCampaignsModel", "isCoil", "(I)Z"⟩ prog_8_method_6_code 2 (Option.some Jvm.ClassFile.FieldType.boolean) : Cond) :: wx_all
theorem wh_M_isCoil : (wy_M_isCoil).cls ≠ "java/lang/invoke/MethodHandle" ∧ (wy_M_isCoil).cls ≠ "java/lang/invoke/VarHandle" ∧ (parseMethodDescriptor (wy_M_isCoil).desc).map (fun d => d.parameters.length) = some 1 := by decide +kernel
abbrev wy_M_isGood : MethodName := ⟨"WidthCampaignsModel", "isGood", "([I)Z"⟩
abbrev wx_ws_M_isGood : List Cond := (.code ⟨"WidthCampaignsModel", "isGood", "([I)Z"⟩ prog_8_method_26_code 3 (Option.some Jvm.ClassFile.FieldType.boolean) : Cond) :: wx_all
theorem wh_M_isGood : (wy_M_isGood).cls ≠ "java/lang/invoke/MethodHandle" ∧ (wy_M_isGood).cls ≠ "java/lang/invoke/VarHandle" ∧ (parseMethodDescriptor (wy_M_isGood).desc).map (fun d => d.parameters.length) = some 1 := by decide +kernel
abbrev wy_M_isWorn : MethodName := ⟨"WidthCampaignsModel", "isWorn", "([III)Z"⟩
abbrev wx_ws_M_isWorn : List Cond := (.code ⟨"WidthCampaignsModel", "isWorn", "([III)Z"⟩ prog_8_method_17_code 9 (Option.some Jvm.ClassFile.FieldType.boolean) : Cond) :: wx_all
theorem wh_M_isWorn : (wy_M_isWorn).cls ≠ "java/lang/invoke/MethodHandle" ∧ (wy_M_isWorn).cls ≠ "java/lang/invoke/VarHandle" ∧ (parseMethodDescriptor (wy_M_isWorn).desc).map (fun d => d.parameters.length) = some 3 := by decide +kernel
abbrev wy_M_jump : MethodName := ⟨"WidthCampaignsModel", "jump", "(II)I"⟩
abbrev wx_ws_M_jump : List Cond := (.code ⟨"WidthCampaignsModel", "jump", "(II)I"⟩ prog_8_method_24_code 3 (Option.some Jvm.ClassFile.FieldType.int) : Cond) :: wx_all
theorem wh_M_jump : (wy_M_jump).cls ≠ "java/lang/invoke/MethodHandle" ∧ (wy_M_jump).cls ≠ "java/lang/invoke/VarHandle" ∧ (parseMethodDescriptor (wy_M_jump).desc).map (fun d => d.parameters.length) = some 2 := by decide +kernel
abbrev wy_M_jumpOf : MethodName := ⟨"WidthCampaignsModel", "jumpOf", "(II)I"⟩
abbrev wx_ws_M_jumpOf : List Cond := (.code ⟨"WidthCampaignsModel", "jumpOf", "(II)I"⟩ prog_8_method_14_code 5 (Option.some Jvm.ClassFile.FieldType.int) : Cond) :: wx_all
theorem wh_M_jumpOf : (wy_M_jumpOf).cls ≠ "java/lang/invoke/MethodHandle" ∧ (wy_M_jumpOf).cls ≠ "java/lang/invoke/VarHandle" ∧ (parseMethodDescriptor (wy_M_jumpOf).desc).map (fun d => d.parameters.length) = some 2 := by decide +kernel
abbrev wy_M_mayBe : MethodName := ⟨"WidthCampaignsModel", "mayBe", "([II)Z"⟩
abbrev wx_ws_M_mayBe : List Cond := (.code ⟨"WidthCampaignsModel", "mayBe", "([II)Z"⟩ prog_8_method_15_code 5 (Option.some Jvm.ClassFile.FieldType.boolean) : Cond) :: wx_all
theorem wh_M_mayBe : (wy_M_mayBe).cls ≠ "java/lang/invoke/MethodHandle" ∧ (wy_M_mayBe).cls ≠ "java/lang/invoke/VarHandle" ∧ (parseMethodDescriptor (wy_M_mayBe).desc).map (fun d => d.parameters.length) = some 2 := by decide +kernel
abbrev wy_M_old : MethodName := ⟨"WidthCampaignsModel", "old", "(II)V"⟩
abbrev wx_ws_M_old : List Cond := (.code ⟨"WidthCampaignsModel", "old", "(II)V"⟩ prog_8_method_11_code 3 (Option.none : Option Jvm.ClassFile.FieldType) : Cond) :: wx_all
theorem wh_M_old : (wy_M_old).cls ≠ "java/lang/invoke/MethodHandle" ∧ (wy_M_old).cls ≠ "java/lang/invoke/VarHandle" ∧ (parseMethodDescriptor (wy_M_old).desc).map (fun d => d.parameters.length) = some 2 := by decide +kernel
abbrev wy_M_order : MethodName := ⟨"WidthCampaignsModel", "order", "(I)I"⟩
abbrev wx_ws_M_order : List Cond := (.code ⟨"WidthCampaignsModel", "order", "(I)I"⟩ prog_8_method_21_code 2 (Option.some Jvm.ClassFile.FieldType.int) : Cond) :: wx_all
theorem wh_M_order : (wy_M_order).cls ≠ "java/lang/invoke/MethodHandle" ∧ (wy_M_order).cls ≠ "java/lang/invoke/VarHandle" ∧ (parseMethodDescriptor (wy_M_order).desc).map (fun d => d.parameters.length) = some 1 := by decide +kernel
abbrev wy_M_proved : MethodName := ⟨"WidthCampaignsModel", "proved", "()Z"⟩
abbrev wx_ws_M_proved : List Cond := (.code ⟨"WidthCampaignsModel", "proved", "()Z"⟩ prog_8_method_20_code 1 (Option.some Jvm.ClassFile.FieldType.boolean) : Cond) :: wx_all
theorem wh_M_proved : (wy_M_proved).cls ≠ "java/lang/invoke/MethodHandle" ∧ (wy_M_proved).cls ≠ "java/lang/invoke/VarHandle" ∧ (parseMethodDescriptor (wy_M_proved).desc).map (fun d => d.parameters.length) = some 0 := by decide +kernel
abbrev wy_M_reckon : MethodName := ⟨"WidthCampaignsModel", "reckon", "([II)V"⟩
abbrev wx_ws_M_reckon : List Cond := (.code ⟨"WidthCampaignsModel", "reckon", "([II)V"⟩ prog_8_method_16_code 5 (Option.none : Option Jvm.ClassFile.FieldType) : Cond) :: wx_all
theorem wh_M_reckon : (wy_M_reckon).cls ≠ "java/lang/invoke/MethodHandle" ∧ (wy_M_reckon).cls ≠ "java/lang/invoke/VarHandle" ∧ (parseMethodDescriptor (wy_M_reckon).desc).map (fun d => d.parameters.length) = some 2 := by decide +kernel
abbrev wy_M_rules : MethodName := ⟨"WidthCampaignsModel", "rules", "(IIII)V"⟩
abbrev wx_ws_M_rules : List Cond := (.code ⟨"WidthCampaignsModel", "rules", "(IIII)V"⟩ prog_8_method_12_code 5 (Option.none : Option Jvm.ClassFile.FieldType) : Cond) :: wx_all
theorem wh_M_rules : (wy_M_rules).cls ≠ "java/lang/invoke/MethodHandle" ∧ (wy_M_rules).cls ≠ "java/lang/invoke/VarHandle" ∧ (parseMethodDescriptor (wy_M_rules).desc).map (fun d => d.parameters.length) = some 4 := by decide +kernel
abbrev wy_M_run : MethodName := ⟨"WidthCampaignsModel", "run", "(I)I"⟩
abbrev wx_ws_M_run : List Cond := (.code ⟨"WidthCampaignsModel", "run", "(I)I"⟩ prog_8_method_19_code 6 (Option.some Jvm.ClassFile.FieldType.int) : Cond) :: wx_all
theorem wh_M_run : (wy_M_run).cls ≠ "java/lang/invoke/MethodHandle" ∧ (wy_M_run).cls ≠ "java/lang/invoke/VarHandle" ∧ (parseMethodDescriptor (wy_M_run).desc).map (fun d => d.parameters.length) = some 1 := by decide +kernel
abbrev wy_M_stands : MethodName := ⟨"WidthCampaignsModel", "stands", "(II)Z"⟩
abbrev wx_ws_M_stands : List Cond := (.code ⟨"WidthCampaignsModel", "stands", "(II)Z"⟩ prog_8_method_18_code 4 (Option.some Jvm.ClassFile.FieldType.boolean) : Cond) :: wx_all
theorem wh_M_stands : (wy_M_stands).cls ≠ "java/lang/invoke/MethodHandle" ∧ (wy_M_stands).cls ≠ "java/lang/invoke/VarHandle" ∧ (parseMethodDescriptor (wy_M_stands).desc).map (fun d => d.parameters.length) = some 2 := by decide +kernel
abbrev wy_M_swaps : MethodName := ⟨"WidthCampaignsModel", "swaps", "(II)Z"⟩
abbrev wx_ws_M_swaps : List Cond := (.code ⟨"WidthCampaignsModel", "swaps", "(II)Z"⟩ prog_8_method_28_code 5 (Option.some Jvm.ClassFile.FieldType.boolean) : Cond) :: wx_all
theorem wh_M_swaps : (wy_M_swaps).cls ≠ "java/lang/invoke/MethodHandle" ∧ (wy_M_swaps).cls ≠ "java/lang/invoke/VarHandle" ∧ (parseMethodDescriptor (wy_M_swaps).desc).map (fun d => d.parameters.length) = some 2 := by decide +kernel
abbrev wy_M_table : MethodName := ⟨"WidthCampaignsModel", "table", "(IIII)I"⟩
abbrev wx_ws_M_table : List Cond := (.code ⟨"WidthCampaignsModel", "table", "(IIII)I"⟩ prog_8_method_8_code 7 (Option.some Jvm.ClassFile.FieldType.int) : Cond) :: wx_all
theorem wh_M_table : (wy_M_table).cls ≠ "java/lang/invoke/MethodHandle" ∧ (wy_M_table).cls ≠ "java/lang/invoke/VarHandle" ∧ (parseMethodDescriptor (wy_M_table).desc).map (fun d => d.parameters.length) = some 4 := by decide +kernel
abbrev wy_M_tell : MethodName := ⟨"WidthCampaignsModel", "tell", "(J)V"⟩
abbrev wx_ws_M_tell : List Cond := (.code ⟨"WidthCampaignsModel", "tell", "(J)V"⟩ prog_8_method_27_code 5 (Option.none : Option Jvm.ClassFile.FieldType) : Cond) :: wx_all
theorem wh_M_tell : (wy_M_tell).cls ≠ "java/lang/invoke/MethodHandle" ∧ (wy_M_tell).cls ≠ "java/lang/invoke/VarHandle" ∧ (parseMethodDescriptor (wy_M_tell).desc).map (fun d => d.parameters.length) = some 1 := by decide +kernel
abbrev wy_M_thrown : MethodName := ⟨"WidthCampaignsModel", "thrown", "()I"⟩
abbrev wx_ws_M_thrown : List Cond := (.code ⟨"WidthCampaignsModel", "thrown", "()I"⟩ prog_8_method_2_code 1 (Option.some Jvm.ClassFile.FieldType.int) : Cond) :: wx_all
theorem wh_M_thrown : (wy_M_thrown).cls ≠ "java/lang/invoke/MethodHandle" ∧ (wy_M_thrown).cls ≠ "java/lang/invoke/VarHandle" ∧ (parseMethodDescriptor (wy_M_thrown).desc).map (fun d => d.parameters.length) = some 0 := by decide +kernel
abbrev wy_M_told : MethodName := ⟨"WidthCampaignsModel", "told", "(I)I"⟩
abbrev wx_ws_M_told : List Cond := (.code ⟨"WidthCampaignsModel", "told", "(I)I"⟩ prog_8_method_22_code 2 (Option.some Jvm.ClassFile.FieldType.int) : Cond) :: wx_all
theorem wh_M_told : (wy_M_told).cls ≠ "java/lang/invoke/MethodHandle" ∧ (wy_M_told).cls ≠ "java/lang/invoke/VarHandle" ∧ (parseMethodDescriptor (wy_M_told).desc).map (fun d => d.parameters.length) = some 1 := by decide +kernel
abbrev wy_M_urgent : MethodName := ⟨"WidthCampaignsModel", "urgent", "(II)V"⟩
abbrev wx_ws_M_urgent : List Cond := (.code ⟨"WidthCampaignsModel", "urgent", "(II)V"⟩ prog_8_method_10_code 3 (Option.none : Option Jvm.ClassFile.FieldType) : Cond) :: wx_all
theorem wh_M_urgent : (wy_M_urgent).cls ≠ "java/lang/invoke/MethodHandle" ∧ (wy_M_urgent).cls ≠ "java/lang/invoke/VarHandle" ∧ (parseMethodDescriptor (wy_M_urgent).desc).map (fun d => d.parameters.length) = some 2 := by decide +kernel
abbrev wy_P_addCoil : MethodName := ⟨"WidthCampaigns$Plant", "addCoil", "(IIII)I"⟩
abbrev wx_ws_P_addCoil : List Cond := (.code ⟨"WidthCampaigns$Plant", "addCoil", "(IIII)I"⟩ prog_4_method_2_code 6 (Option.some Jvm.ClassFile.FieldType.int) : Cond) :: wx_all
theorem wh_P_addCoil : (wy_P_addCoil).cls ≠ "java/lang/invoke/MethodHandle" ∧ (wy_P_addCoil).cls ≠ "java/lang/invoke/VarHandle" ∧ (parseMethodDescriptor (wy_P_addCoil).desc).map (fun d => d.parameters.length) = some 4 := by decide +kernel
abbrev wy_P_kilometresInGroup : MethodName := ⟨"WidthCampaigns$Plant", "kilometresInGroup", "(II)I"⟩
abbrev wx_ws_P_kilometresInGroup : List Cond := (.code ⟨"WidthCampaigns$Plant", "kilometresInGroup", "(II)I"⟩ prog_4_method_6_code 4 (Option.some Jvm.ClassFile.FieldType.int) : Cond) :: wx_all
theorem wh_P_kilometresInGroup : (wy_P_kilometresInGroup).cls ≠ "java/lang/invoke/MethodHandle" ∧ (wy_P_kilometresInGroup).cls ≠ "java/lang/invoke/VarHandle" ∧ (parseMethodDescriptor (wy_P_kilometresInGroup).desc).map (fun d => d.parameters.length) = some 2 := by decide +kernel
abbrev wy_P_leastJumpTo : MethodName := ⟨"WidthCampaigns$Plant", "leastJumpTo", "(I)I"⟩
abbrev wx_ws_P_leastJumpTo : List Cond := (.code ⟨"WidthCampaigns$Plant", "leastJumpTo", "(I)I"⟩ prog_4_method_5_code 5 (Option.some Jvm.ClassFile.FieldType.int) : Cond) :: wx_all
theorem wh_P_leastJumpTo : (wy_P_leastJumpTo).cls ≠ "java/lang/invoke/MethodHandle" ∧ (wy_P_leastJumpTo).cls ≠ "java/lang/invoke/VarHandle" ∧ (parseMethodDescriptor (wy_P_leastJumpTo).desc).map (fun d => d.parameters.length) = some 1 := by decide +kernel
abbrev wy_P_reckonJump : MethodName := ⟨"WidthCampaigns$Plant", "reckonJump", "(II)I"⟩
abbrev wx_ws_P_reckonJump : List Cond := (.code ⟨"WidthCampaigns$Plant", "reckonJump", "(II)I"⟩ prog_4_method_4_code 5 (Option.some Jvm.ClassFile.FieldType.int) : Cond) :: wx_all
theorem wh_P_reckonJump : (wy_P_reckonJump).cls ≠ "java/lang/invoke/MethodHandle" ∧ (wy_P_reckonJump).cls ≠ "java/lang/invoke/VarHandle" ∧ (parseMethodDescriptor (wy_P_reckonJump).desc).map (fun d => d.parameters.length) = some 2 := by decide +kernel
abbrev wy_P_reckonJumps : MethodName := ⟨"WidthCampaigns$Plant", "reckonJumps", "()V"⟩
abbrev wx_ws_P_reckonJumps : List Cond := (.code ⟨"WidthCampaigns$Plant", "reckonJumps", "()V"⟩ prog_4_method_3_code 3 (Option.none : Option Jvm.ClassFile.FieldType) : Cond) :: wx_all
theorem wh_P_reckonJumps : (wy_P_reckonJumps).cls ≠ "java/lang/invoke/MethodHandle" ∧ (wy_P_reckonJumps).cls ≠ "java/lang/invoke/VarHandle" ∧ (parseMethodDescriptor (wy_P_reckonJumps).desc).map (fun d => d.parameters.length) = some 0 := by decide +kernel
abbrev wy_S_goOnAt : MethodName := ⟨"WidthCampaigns$Search", "goOnAt", "(I)V"⟩
abbrev wx_ws_S_goOnAt : List Cond := (.code ⟨"WidthCampaigns$Search", "goOnAt", "(I)V"⟩ prog_5_method_3_code 3 (Option.none : Option Jvm.ClassFile.FieldType) : Cond) :: wx_all
theorem wh_S_goOnAt : (wy_S_goOnAt).cls ≠ "java/lang/invoke/MethodHandle" ∧ (wy_S_goOnAt).cls ≠ "java/lang/invoke/VarHandle" ∧ (parseMethodDescriptor (wy_S_goOnAt).desc).map (fun d => d.parameters.length) = some 1 := by decide +kernel
abbrev wy_S_keepBest : MethodName := ⟨"WidthCampaigns$Search", "keepBest", "()V"⟩
abbrev wx_ws_S_keepBest : List Cond := (.code ⟨"WidthCampaigns$Search", "keepBest", "()V"⟩ prog_5_method_5_code 1 (Option.none : Option Jvm.ClassFile.FieldType) : Cond) :: wx_all
theorem wh_S_keepBest : (wy_S_keepBest).cls ≠ "java/lang/invoke/MethodHandle" ∧ (wy_S_keepBest).cls ≠ "java/lang/invoke/VarHandle" ∧ (parseMethodDescriptor (wy_S_keepBest).desc).map (fun d => d.parameters.length) = some 0 := by decide +kernel
abbrev wy_S_putAndGoOn : MethodName := ⟨"WidthCampaigns$Search", "putAndGoOn", "(II)V"⟩
abbrev wx_ws_S_putAndGoOn : List Cond := (.code ⟨"WidthCampaigns$Search", "putAndGoOn", "(II)V"⟩ prog_5_method_4_code 3 (Option.none : Option Jvm.ClassFile.FieldType) : Cond) :: wx_all
theorem wh_S_putAndGoOn : (wy_S_putAndGoOn).cls ≠ "java/lang/invoke/MethodHandle" ∧ (wy_S_putAndGoOn).cls ≠ "java/lang/invoke/VarHandle" ∧ (parseMethodDescriptor (wy_S_putAndGoOn).desc).map (fun d => d.parameters.length) = some 2 := by decide +kernel
abbrev wy_S_searchWith : MethodName := ⟨"WidthCampaigns$Search", "searchWith", "(I)V"⟩
abbrev wx_ws_S_searchWith : List Cond := (.code ⟨"WidthCampaigns$Search", "searchWith", "(I)V"⟩ prog_5_method_2_code 2 (Option.none : Option Jvm.ClassFile.FieldType) : Cond) :: wx_all
theorem wh_S_searchWith : (wy_S_searchWith).cls ≠ "java/lang/invoke/MethodHandle" ∧ (wy_S_searchWith).cls ≠ "java/lang/invoke/VarHandle" ∧ (parseMethodDescriptor (wy_S_searchWith).desc).map (fun d => d.parameters.length) = some 1 := by decide +kernel
abbrev wy_W_bound : MethodName := ⟨"WidthCampaigns", "bound", "()I"⟩
abbrev wx_ws_W_bound : List Cond := (.code ⟨"WidthCampaigns", "bound", "()I"⟩ prog_1_method_14_code 5 (Option.some Jvm.ClassFile.FieldType.int) : Cond) :: wx_all
theorem wh_W_bound : (wy_W_bound).cls ≠ "java/lang/invoke/MethodHandle" ∧ (wy_W_bound).cls ≠ "java/lang/invoke/VarHandle" ∧ (parseMethodDescriptor (wy_W_bound).desc).map (fun d => d.parameters.length) = some 0 := by decide +kernel
abbrev wy_W_change : MethodName := ⟨"WidthCampaigns", "change", "(I)Z"⟩
abbrev wx_ws_W_change : List Cond := (.code ⟨"WidthCampaigns", "change", "(I)Z"⟩ prog_1_method_12_code 2 (Option.some Jvm.ClassFile.FieldType.boolean) : Cond) :: wx_all
theorem wh_W_change : (wy_W_change).cls ≠ "java/lang/invoke/MethodHandle" ∧ (wy_W_change).cls ≠ "java/lang/invoke/VarHandle" ∧ (parseMethodDescriptor (wy_W_change).desc).map (fun d => d.parameters.length) = some 1 := by decide +kernel
abbrev wy_W_coil : MethodName := ⟨"WidthCampaigns", "coil", "(IIII)I"⟩
abbrev wx_ws_W_coil : List Cond := (.code ⟨"WidthCampaigns", "coil", "(IIII)I"⟩ prog_1_method_2_code 5 (Option.some Jvm.ClassFile.FieldType.int) : Cond) :: wx_all
theorem wh_W_coil : (wy_W_coil).cls ≠ "java/lang/invoke/MethodHandle" ∧ (wy_W_coil).cls ≠ "java/lang/invoke/VarHandle" ∧ (parseMethodDescriptor (wy_W_coil).desc).map (fun d => d.parameters.length) = some 4 := by decide +kernel
abbrev wy_W_forgetOrder : MethodName := ⟨"WidthCampaigns", "forgetOrder", "()V"⟩
abbrev wx_ws_W_forgetOrder : List Cond := (.code ⟨"WidthCampaigns", "forgetOrder", "()V"⟩ prog_1_method_19_code 1 (Option.none : Option Jvm.ClassFile.FieldType) : Cond) :: wx_all
theorem wh_W_forgetOrder : (wy_W_forgetOrder).cls ≠ "java/lang/invoke/MethodHandle" ∧ (wy_W_forgetOrder).cls ≠ "java/lang/invoke/VarHandle" ∧ (parseMethodDescriptor (wy_W_forgetOrder).desc).map (fun d => d.parameters.length) = some 0 := by decide +kernel
abbrev wy_W_group : MethodName := ⟨"WidthCampaigns", "group", "(III)I"⟩
abbrev wx_ws_W_group : List Cond := (.code ⟨"WidthCampaigns", "group", "(III)I"⟩ prog_1_method_4_code 4 (Option.some Jvm.ClassFile.FieldType.int) : Cond) :: wx_all
theorem wh_W_group : (wy_W_group).cls ≠ "java/lang/invoke/MethodHandle" ∧ (wy_W_group).cls ≠ "java/lang/invoke/VarHandle" ∧ (parseMethodDescriptor (wy_W_group).desc).map (fun d => d.parameters.length) = some 3 := by decide +kernel
abbrev wy_W_improve : MethodName := ⟨"WidthCampaigns", "improve", "(I)I"⟩
abbrev wx_ws_W_improve : List Cond := (.code ⟨"WidthCampaigns", "improve", "(I)I"⟩ prog_1_method_16_code 3 (Option.some Jvm.ClassFile.FieldType.int) : Cond) :: wx_all
theorem wh_W_improve : (wy_W_improve).cls ≠ "java/lang/invoke/MethodHandle" ∧ (wy_W_improve).cls ≠ "java/lang/invoke/VarHandle" ∧ (parseMethodDescriptor (wy_W_improve).desc).map (fun d => d.parameters.length) = some 1 := by decide +kernel
abbrev wy_W_isNoCoil : MethodName := ⟨"WidthCampaigns", "isNoCoil", "(I)Z"⟩
abbrev wx_ws_W_isNoCoil : List Cond := (.code ⟨"WidthCampaigns", "isNoCoil", "(I)Z"⟩ prog_1_method_18_code 2 (Option.some Jvm.ClassFile.FieldType.boolean) : Cond) :: wx_all
theorem wh_W_isNoCoil : (wy_W_isNoCoil).cls ≠ "java/lang/invoke/MethodHandle" ∧ (wy_W_isNoCoil).cls ≠ "java/lang/invoke/VarHandle" ∧ (parseMethodDescriptor (wy_W_isNoCoil).desc).map (fun d => d.parameters.length) = some 1 := by decide +kernel
abbrev wy_W_isOutside : MethodName := ⟨"WidthCampaigns", "isOutside", "(III)Z"⟩
abbrev wx_ws_W_isOutside : List Cond := (.code ⟨"WidthCampaigns", "isOutside", "(III)Z"⟩ prog_1_method_17_code 3 (Option.some Jvm.ClassFile.FieldType.boolean) : Cond) :: wx_all
theorem wh_W_isOutside : (wy_W_isOutside).cls ≠ "java/lang/invoke/MethodHandle" ∧ (wy_W_isOutside).cls ≠ "java/lang/invoke/VarHandle" ∧ (parseMethodDescriptor (wy_W_isOutside).desc).map (fun d => d.parameters.length) = some 3 := by decide +kernel
abbrev wy_W_jump : MethodName := ⟨"WidthCampaigns", "jump", "(II)I"⟩
abbrev wx_ws_W_jump : List Cond := (.code ⟨"WidthCampaigns", "jump", "(II)I"⟩ prog_1_method_13_code 3 (Option.some Jvm.ClassFile.FieldType.int) : Cond) :: wx_all
theorem wh_W_jump : (wy_W_jump).cls ≠ "java/lang/invoke/MethodHandle" ∧ (wy_W_jump).cls ≠ "java/lang/invoke/VarHandle" ∧ (parseMethodDescriptor (wy_W_jump).desc).map (fun d => d.parameters.length) = some 2 := by decide +kernel
abbrev wy_W_old : MethodName := ⟨"WidthCampaigns", "old", "(II)V"⟩
abbrev wx_ws_W_old : List Cond := (.code ⟨"WidthCampaigns", "old", "(II)V"⟩ prog_1_method_6_code 3 (Option.none : Option Jvm.ClassFile.FieldType) : Cond) :: wx_all
theorem wh_W_old : (wy_W_old).cls ≠ "java/lang/invoke/MethodHandle" ∧ (wy_W_old).cls ≠ "java/lang/invoke/VarHandle" ∧ (parseMethodDescriptor (wy_W_old).desc).map (fun d => d.parameters.length) = some 2 := by decide +kernel
abbrev wy_W_order : MethodName := ⟨"WidthCampaigns", "order", "(I)I"⟩
abbrev wx_ws_W_order : List Cond := (.code ⟨"WidthCampaigns", "order", "(I)I"⟩ prog_1_method_10_code 2 (Option.some Jvm.ClassFile.FieldType.int) : Cond) :: wx_all
theorem wh_W_order : (wy_W_order).cls ≠ "java/lang/invoke/MethodHandle" ∧ (wy_W_order).cls ≠ "java/lang/invoke/VarHandle" ∧ (parseMethodDescriptor (wy_W_order).desc).map (fun d => d.parameters.length) = some 1 := by decide +kernel
abbrev wy_W_proved : MethodName := ⟨"WidthCampaigns", "proved", "()Z"⟩
abbrev wx_ws_W_proved : List Cond := (.code ⟨"WidthCampaigns", "proved", "()Z"⟩ prog_1_method_9_code 1 (Option.some Jvm.ClassFile.FieldType.boolean) : Cond) :: wx_all
theorem wh_W_proved : (wy_W_proved).cls ≠ "java/lang/invoke/MethodHandle" ∧ (wy_W_proved).cls ≠ "java/lang/invoke/VarHandle" ∧ (parseMethodDescriptor (wy_W_proved).desc).map (fun d => d.parameters.length) = some 0 := by decide +kernel
abbrev wy_W_readIntoScratch : MethodName := ⟨"WidthCampaigns", "readIntoScratch", "(J)Z"⟩
abbrev wx_ws_W_readIntoScratch : List Cond := (.code ⟨"WidthCampaigns", "readIntoScratch", "(J)Z"⟩ prog_1_method_22_code 6 (Option.some Jvm.ClassFile.FieldType.boolean) : Cond) :: wx_all
theorem wh_W_readIntoScratch : (wy_W_readIntoScratch).cls ≠ "java/lang/invoke/MethodHandle" ∧ (wy_W_readIntoScratch).cls ≠ "java/lang/invoke/VarHandle" ∧ (parseMethodDescriptor (wy_W_readIntoScratch).desc).map (fun d => d.parameters.length) = some 1 := by decide +kernel
abbrev wy_W_requireOrder : MethodName := ⟨"WidthCampaigns", "requireOrder", "()V"⟩
abbrev wx_ws_W_requireOrder : List Cond := (.code ⟨"WidthCampaigns", "requireOrder", "()V"⟩ prog_1_method_20_code 1 (Option.none : Option Jvm.ClassFile.FieldType) : Cond) :: wx_all
theorem wh_W_requireOrder : (wy_W_requireOrder).cls ≠ "java/lang/invoke/MethodHandle" ∧ (wy_W_requireOrder).cls ≠ "java/lang/invoke/VarHandle" ∧ (parseMethodDescriptor (wy_W_requireOrder).desc).map (fun d => d.parameters.length) = some 0 := by decide +kernel
abbrev wy_W_requirePlace : MethodName := ⟨"WidthCampaigns", "requirePlace", "(I)V"⟩
abbrev wx_ws_W_requirePlace : List Cond := (.code ⟨"WidthCampaigns", "requirePlace", "(I)V"⟩ prog_1_method_21_code 2 (Option.none : Option Jvm.ClassFile.FieldType) : Cond) :: wx_all
theorem wh_W_requirePlace : (wy_W_requirePlace).cls ≠ "java/lang/invoke/MethodHandle" ∧ (wy_W_requirePlace).cls ≠ "java/lang/invoke/VarHandle" ∧ (parseMethodDescriptor (wy_W_requirePlace).desc).map (fun d => d.parameters.length) = some 1 := by decide +kernel
abbrev wy_W_rules : MethodName := ⟨"WidthCampaigns", "rules", "(IIII)V"⟩
abbrev wx_ws_W_rules : List Cond := (.code ⟨"WidthCampaigns", "rules", "(IIII)V"⟩ prog_1_method_7_code 5 (Option.none : Option Jvm.ClassFile.FieldType) : Cond) :: wx_all
theorem wh_W_rules : (wy_W_rules).cls ≠ "java/lang/invoke/MethodHandle" ∧ (wy_W_rules).cls ≠ "java/lang/invoke/VarHandle" ∧ (parseMethodDescriptor (wy_W_rules).desc).map (fun d => d.parameters.length) = some 4 := by decide +kernel
abbrev wy_W_run : MethodName := ⟨"WidthCampaigns", "run", "(I)I"⟩
abbrev wx_ws_W_run : List Cond := (.code ⟨"WidthCampaigns", "run", "(I)I"⟩ prog_1_method_8_code 2 (Option.some Jvm.ClassFile.FieldType.int) : Cond) :: wx_all
theorem wh_W_run : (wy_W_run).cls ≠ "java/lang/invoke/MethodHandle" ∧ (wy_W_run).cls ≠ "java/lang/invoke/VarHandle" ∧ (parseMethodDescriptor (wy_W_run).desc).map (fun d => d.parameters.length) = some 1 := by decide +kernel
abbrev wy_W_table : MethodName := ⟨"WidthCampaigns", "table", "(IIII)I"⟩
abbrev wx_ws_W_table : List Cond := (.code ⟨"WidthCampaigns", "table", "(IIII)I"⟩ prog_1_method_3_code 6 (Option.some Jvm.ClassFile.FieldType.int) : Cond) :: wx_all
theorem wh_W_table : (wy_W_table).cls ≠ "java/lang/invoke/MethodHandle" ∧ (wy_W_table).cls ≠ "java/lang/invoke/VarHandle" ∧ (parseMethodDescriptor (wy_W_table).desc).map (fun d => d.parameters.length) = some 4 := by decide +kernel
abbrev wy_W_takeFirstBetterPair : MethodName := ⟨"WidthCampaigns", "takeFirstBetterPair", "()Z"⟩
abbrev wx_ws_W_takeFirstBetterPair : List Cond := (.code ⟨"WidthCampaigns", "takeFirstBetterPair", "()Z"⟩ prog_1_method_23_code 3 (Option.some Jvm.ClassFile.FieldType.boolean) : Cond) :: wx_all
theorem wh_W_takeFirstBetterPair : (wy_W_takeFirstBetterPair).cls ≠ "java/lang/invoke/MethodHandle" ∧ (wy_W_takeFirstBetterPair).cls ≠ "java/lang/invoke/VarHandle" ∧ (parseMethodDescriptor (wy_W_takeFirstBetterPair).desc).map (fun d => d.parameters.length) = some 0 := by decide +kernel
abbrev wy_W_takePairIfBetter : MethodName := ⟨"WidthCampaigns", "takePairIfBetter", "(II)Z"⟩
abbrev wx_ws_W_takePairIfBetter : List Cond := (.code ⟨"WidthCampaigns", "takePairIfBetter", "(II)Z"⟩ prog_1_method_24_code 3 (Option.some Jvm.ClassFile.FieldType.boolean) : Cond) :: wx_all
theorem wh_W_takePairIfBetter : (wy_W_takePairIfBetter).cls ≠ "java/lang/invoke/MethodHandle" ∧ (wy_W_takePairIfBetter).cls ≠ "java/lang/invoke/VarHandle" ∧ (parseMethodDescriptor (wy_W_takePairIfBetter).desc).map (fun d => d.parameters.length) = some 2 := by decide +kernel
abbrev wy_W_tell : MethodName := ⟨"WidthCampaigns", "tell", "(J)V"⟩
abbrev wx_ws_W_tell : List Cond := (.code ⟨"WidthCampaigns", "tell", "(J)V"⟩ prog_1_method_15_code 3 (Option.none : Option Jvm.ClassFile.FieldType) : Cond) :: wx_all
theorem wh_W_tell : (wy_W_tell).cls ≠ "java/lang/invoke/MethodHandle" ∧ (wy_W_tell).cls ≠ "java/lang/invoke/VarHandle" ∧ (parseMethodDescriptor (wy_W_tell).desc).map (fun d => d.parameters.length) = some 1 := by decide +kernel
abbrev wy_W_told : MethodName := ⟨"WidthCampaigns", "told", "(I)I"⟩
abbrev wx_ws_W_told : List Cond := (.code ⟨"WidthCampaigns", "told", "(I)I"⟩ prog_1_method_11_code 2 (Option.some Jvm.ClassFile.FieldType.int) : Cond) :: wx_all
theorem wh_W_told : (wy_W_told).cls ≠ "java/lang/invoke/MethodHandle" ∧ (wy_W_told).cls ≠ "java/lang/invoke/VarHandle" ∧ (parseMethodDescriptor (wy_W_told).desc).map (fun d => d.parameters.length) = some 1 := by decide +kernel
abbrev wy_W_urgent : MethodName := ⟨"WidthCampaigns", "urgent", "(II)V"⟩
abbrev wx_ws_W_urgent : List Cond := (.code ⟨"WidthCampaigns", "urgent", "(II)V"⟩ prog_1_method_5_code 3 (Option.none : Option Jvm.ClassFile.FieldType) : Cond) :: wx_all
theorem wh_W_urgent : (wy_W_urgent).cls ≠ "java/lang/invoke/MethodHandle" ∧ (wy_W_urgent).cls ≠ "java/lang/invoke/VarHandle" ∧ (parseMethodDescriptor (wy_W_urgent).desc).map (fun d => d.parameters.length) = some 2 := by decide +kernel
def wx_bad : List Cond := [.methodLinkNest "WidthCampaigns$Plant" 78 ⟨"WidthCampaigns$JumpTable", "costOf", "(I)I"⟩ "WidthCampaigns",
  .fieldLinkNest "WidthCampaigns$Plant" 81 "WidthCampaigns$WidthGroups" "from" "[I" "WidthCampaigns",
  .fieldLinkNest "WidthCampaigns$Plant" 84 "WidthCampaigns$WidthGroups" "to" "[I" "WidthCampaigns",
  .fieldLinkNest "WidthCampaigns$Line" 70 "WidthCampaigns$Plant" "jumpCost" "[[I" "WidthCampaigns",
  .fieldLinkNest "WidthCampaigns$Line" 73 "WidthCampaigns$Plant" "width" "[I" "WidthCampaigns",
  .fieldLinkNest "WidthCampaigns$Line" 76 "WidthCampaigns$Plant" "rise" "I" "WidthCampaigns",
  .fieldLinkNest "WidthCampaigns$Line" 63 "WidthCampaigns$Plant" "last" "[I" "WidthCampaigns",
  .fieldLinkNest "WidthCampaigns$Line" 89 "WidthCampaigns$Plant" "kilometres" "[I" "WidthCampaigns",
  .fieldLinkNest "WidthCampaigns$Line" 92 "WidthCampaigns$Plant" "wear" "I" "WidthCampaigns",
  .fieldLinkNest "WidthCampaigns$Line" 95 "WidthCampaigns$Plant" "groups" "LWidthCampaigns$WidthGroups;" "WidthCampaigns",
  .fieldLinkNest "WidthCampaigns$Line" 99 "WidthCampaigns$WidthGroups" "count" "I" "WidthCampaigns",
  .methodLinkNest "WidthCampaigns$Line" 102 ⟨"WidthCampaigns$Plant", "kilometresInGroup", "(II)I"⟩ "WidthCampaigns",
  .fieldLinkNest "WidthCampaigns$Line" 106 "WidthCampaigns$WidthGroups" "most" "[I" "WidthCampaigns",
  .fieldLinkNest "WidthCampaigns$Line" 109 "WidthCampaigns$Plant" "oldPlace" "[I" "WidthCampaigns",
  .fieldLinkNest "WidthCampaigns$Line" 115 "WidthCampaigns$Plant" "movedCents" "I" "WidthCampaigns",
  .fieldLinkNest "WidthCampaigns$Line" 112 "WidthCampaigns$Plant" "changeCents" "I" "WidthCampaigns",
  .fieldLinkNest "WidthCampaigns$Line" 50 "WidthCampaigns$Plant" "count" "I" "WidthCampaigns",
  .methodLinkNest "WidthCampaigns$Search" 68 ⟨"WidthCampaigns$Line", "penaltySoFar", "()I"⟩ "WidthCampaigns",
  .fieldLinkNest "WidthCampaigns$Search" 75 "WidthCampaigns$Line" "coils" "[I" "WidthCampaigns",
  .fieldLinkNest "WidthCampaigns$Search" 49 "WidthCampaigns$Plant" "count" "I" "WidthCampaigns",
  .methodLinkNest "WidthCampaigns$Search" 65 ⟨"WidthCampaigns$Line", "put", "(I)V"⟩ "WidthCampaigns",
  .methodLinkNest "WidthCampaigns$Search" 72 ⟨"WidthCampaigns$Line", "takeBack", "()V"⟩ "WidthCampaigns",
  .methodLinkNest "WidthCampaigns$Search" 57 ⟨"WidthCampaigns$Line", "mayPut", "(I)Z"⟩ "WidthCampaigns",
  .methodLinkNest "WidthCampaigns$Search" 40 ⟨"WidthCampaigns$Line", "clear", "()V"⟩ "WidthCampaigns",
  .fieldLinkNest "WidthCampaigns" 52 "WidthCampaigns$Plant" "count" "I" "WidthCampaigns",
  .fieldLinkNest "WidthCampaigns" 178 "WidthCampaigns$Line" "coils" "[I" "WidthCampaigns",
  .methodLinkNest "WidthCampaigns" 160 ⟨"WidthCampaigns$Line", "layAll", "([I)Z"⟩ "WidthCampaigns",
  .methodLinkNest "WidthCampaigns" 183 ⟨"WidthCampaigns$Line", "penaltySoFar", "()I"⟩ "WidthCampaigns",
  .methodLinkNest "WidthCampaigns" 64 ⟨"WidthCampaigns$Plant", "addCoil", "(IIII)I"⟩ "WidthCampaigns",
  .fieldLinkNest "WidthCampaigns" 79 "WidthCampaigns$Plant" "thickJumps" "LWidthCampaigns$JumpTable;" "WidthCampaigns",
  .fieldLinkNest "WidthCampaigns" 82 "WidthCampaigns$JumpTable" "rows" "I" "WidthCampaigns",
  .methodLinkNest "WidthCampaigns" 89 ⟨"WidthCampaigns$JumpTable", "addRow", "(III)V"⟩ "WidthCampaigns",
  .methodLinkNest "WidthCampaigns" 93 ⟨"WidthCampaigns$Plant", "reckonJumps", "()V"⟩ "WidthCampaigns",
  .fieldLinkNest "WidthCampaigns" 75 "WidthCampaigns$Plant" "hardJumps" "LWidthCampaigns$JumpTable;" "WidthCampaigns",
  .fieldLinkNest "WidthCampaigns" 98 "WidthCampaigns$Plant" "groups" "LWidthCampaigns$WidthGroups;" "WidthCampaigns",
  .fieldLinkNest "WidthCampaigns" 102 "WidthCampaigns$WidthGroups" "count" "I" "WidthCampaigns",
  .methodLinkNest "WidthCampaigns" 107 ⟨"WidthCampaigns$WidthGroups", "addGroup", "(III)V"⟩ "WidthCampaigns",
  .fieldLinkNest "WidthCampaigns" 118 "WidthCampaigns$Plant" "last" "[I" "WidthCampaigns",
  .fieldLinkNest "WidthCampaigns" 123 "WidthCampaigns$Plant" "oldPlace" "[I" "WidthCampaigns",
  .fieldLinkNest "WidthCampaigns" 128 "WidthCampaigns$Plant" "rise" "I" "WidthCampaigns",
  .fieldLinkNest "WidthCampaigns" 131 "WidthCampaigns$Plant" "wear" "I" "WidthCampaigns",
  .fieldLinkNest "WidthCampaigns" 134 "WidthCampaigns$Plant" "changeCents" "I" "WidthCampaigns",
  .fieldLinkNest "WidthCampaigns" 137 "WidthCampaigns$Plant" "movedCents" "I" "WidthCampaigns",
  .methodLinkNest "WidthCampaigns" 143 ⟨"WidthCampaigns$Search", "searchWith", "(I)V"⟩ "WidthCampaigns",
  .fieldLinkNest "WidthCampaigns" 151 "WidthCampaigns$Search" "found" "Z" "WidthCampaigns",
  .fieldLinkNest "WidthCampaigns" 157 "WidthCampaigns$Search" "best" "[I" "WidthCampaigns",
  .fieldLinkNest "WidthCampaigns" 169 "WidthCampaigns$Search" "leftOut" "Z" "WidthCampaigns",
  .methodLinkNest "WidthCampaigns" 190 ⟨"WidthCampaigns$Line", "movedSoFar", "()I"⟩ "WidthCampaigns",
  .methodLinkNest "WidthCampaigns" 187 ⟨"WidthCampaigns$Line", "changesSoFar", "()I"⟩ "WidthCampaigns",
  .fieldLinkNest "WidthCampaigns" 193 "WidthCampaigns$Line" "changeAhead" "[Z" "WidthCampaigns",
  .fieldLinkNest "WidthCampaigns" 199 "WidthCampaigns$Plant" "jumpCost" "[[I" "WidthCampaigns",
  .methodLinkNest "WidthCampaigns" 203 ⟨"WidthCampaigns$Plant", "leastJumpTo", "(I)I"⟩ "WidthCampaigns",
  .castable "java/lang/IllegalArgumentException" "java/lang/IllegalArgumentException",
  .castable "java/lang/UnsupportedOperationException" "java/lang/UnsupportedOperationException",
  .castable "java/lang/IndexOutOfBoundsException" "java/lang/IndexOutOfBoundsException",
  .castable "java/lang/IllegalStateException" "java/lang/IllegalStateException",
  .methodLinkNest "WidthCampaigns" 9 ⟨"WidthCampaigns$Plant", "<init>", "()V"⟩ "WidthCampaigns",
  .methodLinkNest "WidthCampaigns$Plant" 37 ⟨"WidthCampaigns$JumpTable", "<init>", "()V"⟩ "WidthCampaigns",
  .methodLinkNest "WidthCampaigns$Plant" 47 ⟨"WidthCampaigns$WidthGroups", "<init>", "()V"⟩ "WidthCampaigns",
  .methodLinkNest "WidthCampaigns" 18 ⟨"WidthCampaigns$Line", "<init>", "(LWidthCampaigns$Plant;)V"⟩ "WidthCampaigns",
  .methodLinkNest "WidthCampaigns" 30 ⟨"WidthCampaigns$Search", "<init>", "(LWidthCampaigns$Plant;LWidthCampaigns$Line;)V"⟩ "WidthCampaigns",
  .declares ⟨"java/lang/RuntimeException", "<init>", "()V"⟩,
  .declares ⟨"java/lang/RuntimeException", "<init>", "(Ljava/lang/String;)V"⟩,
  .declares ⟨"java/lang/Exception", "<init>", "()V"⟩,
  .declares ⟨"java/lang/Exception", "<init>", "(Ljava/lang/String;)V"⟩,
  .declares ⟨"java/lang/Throwable", "<init>", "()V"⟩,
  .declares ⟨"java/lang/Throwable", "<init>", "(Ljava/lang/String;)V"⟩,
  .laysStatic "java/lang/Throwable" "UNASSIGNED_STACK" "[Ljava/lang/StackTraceElement;",
  .laysStatic "java/lang/Throwable" "SUPPRESSED_SENTINEL" "Ljava/util/List;",
  .isRef (.static "java/lang/Throwable" "UNASSIGNED_STACK" "[Ljava/lang/StackTraceElement;"),
  .isRef (.static "java/lang/Throwable" "SUPPRESSED_SENTINEL" "Ljava/util/List;")]
def wx_strs : List (Nat × String) := [(227, "there is no order"), (229, "no such place"), (47, "no such width, thickness, hardness or kilometres"), (58, "no room for another coil"), (73, "no such jump or cost"), (87, "no room for another row"), (70, "no such kind of table"), (96, "no such widths or kilometres"), (105, "no room for another group"), (116, "no such last place"), (114, "no such coil"), (121, "no such old place"), (126, "no such rules"), (141, "no such number of nodes"), (166, "no search since the last change"), (181, "nothing of this number is told"), (197, "no two such coils"), (219, "the order is not good"), (217, "a coil is none, or told twice"), (221, "no such number of steps")]
def wx_nots : List (String × String) := [("java/lang/IllegalArgumentException", "java/lang/IllegalStateException"), ("java/lang/IllegalArgumentException", "java/lang/IndexOutOfBoundsException"), ("java/lang/IllegalArgumentException", "java/lang/UnsupportedOperationException"), ("java/lang/IllegalStateException", "java/lang/IllegalArgumentException"), ("java/lang/IllegalStateException", "java/lang/IndexOutOfBoundsException"), ("java/lang/IllegalStateException", "java/lang/UnsupportedOperationException"), ("java/lang/IndexOutOfBoundsException", "java/lang/IllegalArgumentException"), ("java/lang/IndexOutOfBoundsException", "java/lang/IllegalStateException"), ("java/lang/IndexOutOfBoundsException", "java/lang/UnsupportedOperationException"), ("java/lang/UnsupportedOperationException", "java/lang/IllegalArgumentException"), ("java/lang/UnsupportedOperationException", "java/lang/IllegalStateException"), ("java/lang/UnsupportedOperationException", "java/lang/IndexOutOfBoundsException")]
