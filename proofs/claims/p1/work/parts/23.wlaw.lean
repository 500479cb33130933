def wf_law_1031 (L : Nat) (xs : Nat → Int32) (k23 : Nat → Int32 → wc_S → Option (Int32 × wc_S)) (t : Nat) (x4 : Int32) (σ : wc_S) : Option (Int32 × wc_S) :=
wc_st (x4 + 5) fun v39 =>
k23 (t + 1) v39 σ
def wf_law_112 (L : Nat) (xs : Nat → Int32) (k23 : Nat → Int32 → wc_S → Option (Int32 × wc_S)) (t : Nat) (x4 : Int32) (σ : wc_S) : Option (Int32 × wc_S) :=
wc_st (x4 + 1) fun v7 =>
wc_gd (wc_in v7 L) (
wc_st (xs v7.toNatClampNeg) fun v9 =>
wc_st (x4 + 2) fun v10 =>
wc_gd (wc_in v10 L) (
wc_st (xs v10.toNatClampNeg) fun v12 =>
wc_st (x4 + 3) fun v13 =>
wc_gd (wc_in v13 L) (
wc_st (xs v13.toNatClampNeg) fun v15 =>
wc_st (x4 + 4) fun v16 =>
wc_gd (wc_in v16 L) (
wc_st (xs v16.toNatClampNeg) fun v18 =>
wc_b2 (wf_K_coil v9 v12 v15 v18 σ) fun r20 σ19 =>
wc_st (x4 + 1) fun v21 =>
wc_gd (wc_in v21 L) (
wc_st (xs v21.toNatClampNeg) fun v23 =>
wc_st (x4 + 2) fun v24 =>
wc_gd (wc_in v24 L) (
wc_st (xs v24.toNatClampNeg) fun v26 =>
wc_st (x4 + 3) fun v27 =>
wc_gd (wc_in v27 L) (
wc_st (xs v27.toNatClampNeg) fun v29 =>
wc_st (x4 + 4) fun v30 =>
wc_gd (wc_in v30 L) (
wc_st (xs v30.toNatClampNeg) fun v32 =>
wc_b2 (wf_M_coil v23 v26 v29 v32 σ19) fun r34 σ33 =>
wc_b2 (wf_M_thrown σ33) fun r36 σ35 =>
if r36 = r20 then (
if r20 = 0 then (
wc_gd (wc_in 0 1) (
wc_st ((σ35 88 ((0 : Int32).toNatClampNeg)).toInt64) fun v41 =>
wc_st r34.toInt64 fun v42 =>
wc_st (lg_cmp v41 v42) fun v43 =>
if v43 = 0 then (
wf_law_1031 L xs k23 t x4 σ35) else (
some (0, σ35)))) else (
wf_law_1031 L xs k23 t x4 σ35)) else (
some (0, σ35))))))))))
def wf_law_204 (L : Nat) (xs : Nat → Int32) (k23 : Nat → Int32 → wc_S → Option (Int32 × wc_S)) (t : Nat) (x4 : Int32) (σ : wc_S) : Option (Int32 × wc_S) :=
wc_st (x4 + 1) fun v45 =>
wc_gd (wc_in v45 L) (
wc_st (xs v45.toNatClampNeg) fun v47 =>
wc_st (x4 + 2) fun v48 =>
wc_gd (wc_in v48 L) (
wc_st (xs v48.toNatClampNeg) fun v50 =>
wc_st (x4 + 3) fun v51 =>
wc_gd (wc_in v51 L) (
wc_st (xs v51.toNatClampNeg) fun v53 =>
wc_st (x4 + 4) fun v54 =>
wc_gd (wc_in v54 L) (
wc_st (xs v54.toNatClampNeg) fun v56 =>
wc_b2 (wf_K_table v47 v50 v53 v56 σ) fun r58 σ57 =>
wc_st (x4 + 1) fun v59 =>
wc_gd (wc_in v59 L) (
wc_st (xs v59.toNatClampNeg) fun v61 =>
wc_st (x4 + 2) fun v62 =>
wc_gd (wc_in v62 L) (
wc_st (xs v62.toNatClampNeg) fun v64 =>
wc_st (x4 + 3) fun v65 =>
wc_gd (wc_in v65 L) (
wc_st (xs v65.toNatClampNeg) fun v67 =>
wc_st (x4 + 4) fun v68 =>
wc_gd (wc_in v68 L) (
wc_st (xs v68.toNatClampNeg) fun v70 =>
wc_b2 (wf_M_table v61 v64 v67 v70 σ57) fun r72 σ71 =>
wc_b2 (wf_M_thrown σ71) fun r74 σ73 =>
if r74 = r58 then (
if r58 = 0 then (
wc_gd (wc_in 0 1) (
wc_st ((σ73 88 ((0 : Int32).toNatClampNeg)).toInt64) fun v78 =>
wc_st r72.toInt64 fun v79 =>
wc_st (lg_cmp v78 v79) fun v80 =>
if v80 = 0 then (
wf_law_1031 L xs k23 t x4 σ73) else (
some (0, σ73)))) else (
wf_law_1031 L xs k23 t x4 σ73)) else (
some (0, σ73))))))))))
def wf_law_296 (L : Nat) (xs : Nat → Int32) (k23 : Nat → Int32 → wc_S → Option (Int32 × wc_S)) (t : Nat) (x4 : Int32) (σ : wc_S) : Option (Int32 × wc_S) :=
wc_st (x4 + 1) fun v82 =>
wc_gd (wc_in v82 L) (
wc_st (xs v82.toNatClampNeg) fun v84 =>
wc_st (x4 + 2) fun v85 =>
wc_gd (wc_in v85 L) (
wc_st (xs v85.toNatClampNeg) fun v87 =>
wc_st (x4 + 3) fun v88 =>
wc_gd (wc_in v88 L) (
wc_st (xs v88.toNatClampNeg) fun v90 =>
wc_b2 (wf_K_group v84 v87 v90 σ) fun r92 σ91 =>
wc_st (x4 + 1) fun v93 =>
wc_gd (wc_in v93 L) (
wc_st (xs v93.toNatClampNeg) fun v95 =>
wc_st (x4 + 2) fun v96 =>
wc_gd (wc_in v96 L) (
wc_st (xs v96.toNatClampNeg) fun v98 =>
wc_st (x4 + 3) fun v99 =>
wc_gd (wc_in v99 L) (
wc_st (xs v99.toNatClampNeg) fun v101 =>
wc_b2 (wf_M_group v95 v98 v101 σ91) fun r103 σ102 =>
wc_b2 (wf_M_thrown σ102) fun r105 σ104 =>
if r105 = r92 then (
if r92 = 0 then (
wc_gd (wc_in 0 1) (
wc_st ((σ104 88 ((0 : Int32).toNatClampNeg)).toInt64) fun v109 =>
wc_st r103.toInt64 fun v110 =>
wc_st (lg_cmp v109 v110) fun v111 =>
if v111 = 0 then (
wf_law_1031 L xs k23 t x4 σ104) else (
some (0, σ104)))) else (
wf_law_1031 L xs k23 t x4 σ104)) else (
some (0, σ104))))))))
def wf_law_376 (L : Nat) (xs : Nat → Int32) (k23 : Nat → Int32 → wc_S → Option (Int32 × wc_S)) (t : Nat) (x4 : Int32) (σ : wc_S) : Option (Int32 × wc_S) :=
wc_st (x4 + 1) fun v113 =>
wc_gd (wc_in v113 L) (
wc_st (xs v113.toNatClampNeg) fun v115 =>
wc_st (x4 + 2) fun v116 =>
wc_gd (wc_in v116 L) (
wc_st (xs v116.toNatClampNeg) fun v118 =>
wc_b2 (wf_K_urgent v115 v118 σ) fun r120 σ119 =>
wc_st (x4 + 1) fun v121 =>
wc_gd (wc_in v121 L) (
wc_st (xs v121.toNatClampNeg) fun v123 =>
wc_st (x4 + 2) fun v124 =>
wc_gd (wc_in v124 L) (
wc_st (xs v124.toNatClampNeg) fun v126 =>
wc_b1 (wf_M_urgent v123 v126 σ119) fun σ127 =>
wc_b2 (wf_M_thrown σ127) fun r129 σ128 =>
if r129 = r120 then (
wf_law_1031 L xs k23 t x4 σ128) else (
some (0, σ128))))))
def wf_law_424 (L : Nat) (xs : Nat → Int32) (k23 : Nat → Int32 → wc_S → Option (Int32 × wc_S)) (t : Nat) (x4 : Int32) (σ : wc_S) : Option (Int32 × wc_S) :=
wc_st (x4 + 1) fun v131 =>
wc_gd (wc_in v131 L) (
wc_st (xs v131.toNatClampNeg) fun v133 =>
wc_st (x4 + 2) fun v134 =>
wc_gd (wc_in v134 L) (
wc_st (xs v134.toNatClampNeg) fun v136 =>
wc_b2 (wf_K_old v133 v136 σ) fun r138 σ137 =>
wc_st (x4 + 1) fun v139 =>
wc_gd (wc_in v139 L) (
wc_st (xs v139.toNatClampNeg) fun v141 =>
wc_st (x4 + 2) fun v142 =>
wc_gd (wc_in v142 L) (
wc_st (xs v142.toNatClampNeg) fun v144 =>
wc_b1 (wf_M_old v141 v144 σ137) fun σ145 =>
wc_b2 (wf_M_thrown σ145) fun r147 σ146 =>
if r147 = r138 then (
wf_law_1031 L xs k23 t x4 σ146) else (
some (0, σ146))))))
def wf_law_472 (L : Nat) (xs : Nat → Int32) (k23 : Nat → Int32 → wc_S → Option (Int32 × wc_S)) (t : Nat) (x4 : Int32) (σ : wc_S) : Option (Int32 × wc_S) :=
wc_st (x4 + 1) fun v149 =>
wc_gd (wc_in v149 L) (
wc_st (xs v149.toNatClampNeg) fun v151 =>
wc_st (x4 + 2) fun v152 =>
wc_gd (wc_in v152 L) (
wc_st (xs v152.toNatClampNeg) fun v154 =>
wc_st (x4 + 3) fun v155 =>
wc_gd (wc_in v155 L) (
wc_st (xs v155.toNatClampNeg) fun v157 =>
wc_st (x4 + 4) fun v158 =>
wc_gd (wc_in v158 L) (
wc_st (xs v158.toNatClampNeg) fun v160 =>
wc_b2 (wf_K_rules v151 v154 v157 v160 σ) fun r162 σ161 =>
wc_st (x4 + 1) fun v163 =>
wc_gd (wc_in v163 L) (
wc_st (xs v163.toNatClampNeg) fun v165 =>
wc_st (x4 + 2) fun v166 =>
wc_gd (wc_in v166 L) (
wc_st (xs v166.toNatClampNeg) fun v168 =>
wc_st (x4 + 3) fun v169 =>
wc_gd (wc_in v169 L) (
wc_st (xs v169.toNatClampNeg) fun v171 =>
wc_st (x4 + 4) fun v172 =>
wc_gd (wc_in v172 L) (
wc_st (xs v172.toNatClampNeg) fun v174 =>
wc_b1 (wf_M_rules v165 v168 v171 v174 σ161) fun σ175 =>
wc_b2 (wf_M_thrown σ175) fun r177 σ176 =>
if r177 = r162 then (
wf_law_1031 L xs k23 t x4 σ176) else (
some (0, σ176))))))))))
def wf_law_544 (L : Nat) (xs : Nat → Int32) (k23 : Nat → Int32 → wc_S → Option (Int32 × wc_S)) (t : Nat) (x4 : Int32) (σ : wc_S) : Option (Int32 × wc_S) :=
wc_st (x4 + 1) fun v179 =>
wc_gd (wc_in v179 L) (
wc_st (xs v179.toNatClampNeg) fun v181 =>
wc_b2 (wf_K_run v181 σ) fun r183 σ182 =>
wc_st (x4 + 1) fun v184 =>
wc_gd (wc_in v184 L) (
wc_st (xs v184.toNatClampNeg) fun v186 =>
wc_b2 (wf_M_run v186 σ182) fun r188 σ187 =>
wc_b2 (wf_M_thrown σ187) fun r190 σ189 =>
if r190 = r183 then (
if r183 = 0 then (
wc_gd (wc_in 0 1) (
wc_st ((σ189 88 ((0 : Int32).toNatClampNeg)).toInt64) fun v194 =>
wc_st r188.toInt64 fun v195 =>
wc_st (lg_cmp v194 v195) fun v196 =>
if v196 = 0 then (
wf_law_1031 L xs k23 t x4 σ189) else (
some (0, σ189)))) else (
wf_law_1031 L xs k23 t x4 σ189)) else (
some (0, σ189))))
def wf_law_642 (L : Nat) (xs : Nat → Int32) (k23 : Nat → Int32 → wc_S → Option (Int32 × wc_S)) (t : Nat) (x4 : Int32) (s0 : Int64) (s1 : Int64) (σ : wc_S) : Option (Int32 × wc_S) :=
wc_st (lg_cmp s0 s1) fun v209 =>
if v209 = 0 then (
wf_law_1031 L xs k23 t x4 σ) else (
some (0, σ))
def wf_law_600 (L : Nat) (xs : Nat → Int32) (k23 : Nat → Int32 → wc_S → Option (Int32 × wc_S)) (t : Nat) (x4 : Int32) (σ : wc_S) : Option (Int32 × wc_S) :=
wc_b2 (wf_K_proved σ) fun r199 σ198 =>
wc_b2 (wf_M_proved σ198) fun r201 σ200 =>
wc_b2 (wf_M_thrown σ200) fun r203 σ202 =>
if r203 = r199 then (
if r199 = 0 then (
wc_gd (wc_in 0 1) (
wc_st ((σ202 88 ((0 : Int32).toNatClampNeg)).toInt64) fun v207 =>
if r201 = 0 then (
wf_law_642 L xs k23 t x4 v207 0 σ202) else (
wf_law_642 L xs k23 t x4 v207 1 σ202))) else (
wf_law_1031 L xs k23 t x4 σ202)) else (
some (0, σ202))
def wf_law_651 (L : Nat) (xs : Nat → Int32) (k23 : Nat → Int32 → wc_S → Option (Int32 × wc_S)) (t : Nat) (x4 : Int32) (σ : wc_S) : Option (Int32 × wc_S) :=
wc_st (x4 + 1) fun v211 =>
wc_gd (wc_in v211 L) (
wc_st (xs v211.toNatClampNeg) fun v213 =>
wc_b2 (wf_K_order v213 σ) fun r215 σ214 =>
wc_st (x4 + 1) fun v216 =>
wc_gd (wc_in v216 L) (
wc_st (xs v216.toNatClampNeg) fun v218 =>
wc_b2 (wf_M_order v218 σ214) fun r220 σ219 =>
wc_b2 (wf_M_thrown σ219) fun r222 σ221 =>
if r222 = r215 then (
if r215 = 0 then (
wc_gd (wc_in 0 1) (
wc_st ((σ221 88 ((0 : Int32).toNatClampNeg)).toInt64) fun v226 =>
wc_st r220.toInt64 fun v227 =>
wc_st (lg_cmp v226 v227) fun v228 =>
if v228 = 0 then (
wf_law_1031 L xs k23 t x4 σ221) else (
some (0, σ221)))) else (
wf_law_1031 L xs k23 t x4 σ221)) else (
some (0, σ221))))
def wf_law_707 (L : Nat) (xs : Nat → Int32) (k23 : Nat → Int32 → wc_S → Option (Int32 × wc_S)) (t : Nat) (x4 : Int32) (σ : wc_S) : Option (Int32 × wc_S) :=
wc_st (x4 + 1) fun v230 =>
wc_gd (wc_in v230 L) (
wc_st (xs v230.toNatClampNeg) fun v232 =>
wc_b2 (wf_K_told v232 σ) fun r234 σ233 =>
wc_st (x4 + 1) fun v235 =>
wc_gd (wc_in v235 L) (
wc_st (xs v235.toNatClampNeg) fun v237 =>
wc_b2 (wf_M_told v237 σ233) fun r239 σ238 =>
wc_b2 (wf_M_thrown σ238) fun r241 σ240 =>
if r241 = r234 then (
if r234 = 0 then (
wc_gd (wc_in 0 1) (
wc_st ((σ240 88 ((0 : Int32).toNatClampNeg)).toInt64) fun v245 =>
wc_st r239.toInt64 fun v246 =>
wc_st (lg_cmp v245 v246) fun v247 =>
if v247 = 0 then (
wf_law_1031 L xs k23 t x4 σ240) else (
some (0, σ240)))) else (
wf_law_1031 L xs k23 t x4 σ240)) else (
some (0, σ240))))
def wf_law_817 (L : Nat) (xs : Nat → Int32) (k23 : Nat → Int32 → wc_S → Option (Int32 × wc_S)) (t : Nat) (x4 : Int32) (s0 : Int64) (s1 : Int64) (σ : wc_S) : Option (Int32 × wc_S) :=
wc_st (lg_cmp s0 s1) fun v266 =>
if v266 = 0 then (
wf_law_1031 L xs k23 t x4 σ) else (
some (0, σ))
def wf_law_763 (L : Nat) (xs : Nat → Int32) (k23 : Nat → Int32 → wc_S → Option (Int32 × wc_S)) (t : Nat) (x4 : Int32) (σ : wc_S) : Option (Int32 × wc_S) :=
wc_st (x4 + 1) fun v249 =>
wc_gd (wc_in v249 L) (
wc_st (xs v249.toNatClampNeg) fun v251 =>
wc_b2 (wf_K_change v251 σ) fun r253 σ252 =>
wc_st (x4 + 1) fun v254 =>
wc_gd (wc_in v254 L) (
wc_st (xs v254.toNatClampNeg) fun v256 =>
wc_b2 (wf_M_change v256 σ252) fun r258 σ257 =>
wc_b2 (wf_M_thrown σ257) fun r260 σ259 =>
if r260 = r253 then (
if r253 = 0 then (
wc_gd (wc_in 0 1) (
wc_st ((σ259 88 ((0 : Int32).toNatClampNeg)).toInt64) fun v264 =>
if r258 = 0 then (
wf_law_817 L xs k23 t x4 v264 0 σ259) else (
wf_law_817 L xs k23 t x4 v264 1 σ259))) else (
wf_law_1031 L xs k23 t x4 σ259)) else (
some (0, σ259))))
def wf_law_826 (L : Nat) (xs : Nat → Int32) (k23 : Nat → Int32 → wc_S → Option (Int32 × wc_S)) (t : Nat) (x4 : Int32) (σ : wc_S) : Option (Int32 × wc_S) :=
wc_st (x4 + 1) fun v268 =>
wc_gd (wc_in v268 L) (
wc_st (xs v268.toNatClampNeg) fun v270 =>
wc_st (x4 + 2) fun v271 =>
wc_gd (wc_in v271 L) (
wc_st (xs v271.toNatClampNeg) fun v273 =>
wc_b2 (wf_K_jump v270 v273 σ) fun r275 σ274 =>
wc_st (x4 + 1) fun v276 =>
wc_gd (wc_in v276 L) (
wc_st (xs v276.toNatClampNeg) fun v278 =>
wc_st (x4 + 2) fun v279 =>
wc_gd (wc_in v279 L) (
wc_st (xs v279.toNatClampNeg) fun v281 =>
wc_b2 (wf_M_jump v278 v281 σ274) fun r283 σ282 =>
wc_b2 (wf_M_thrown σ282) fun r285 σ284 =>
if r285 = r275 then (
if r275 = 0 then (
wc_gd (wc_in 0 1) (
wc_st ((σ284 88 ((0 : Int32).toNatClampNeg)).toInt64) fun v289 =>
wc_st r283.toInt64 fun v290 =>
wc_st (lg_cmp v289 v290) fun v291 =>
if v291 = 0 then (
wf_law_1031 L xs k23 t x4 σ284) else (
some (0, σ284)))) else (
wf_law_1031 L xs k23 t x4 σ284)) else (
some (0, σ284))))))
def wf_law_894 (L : Nat) (xs : Nat → Int32) (k23 : Nat → Int32 → wc_S → Option (Int32 × wc_S)) (t : Nat) (x4 : Int32) (σ : wc_S) : Option (Int32 × wc_S) :=
wc_b2 (wf_W_bound σ) fun r294 σ293 =>
wc_b2 (wf_M_bound σ293) fun r296 σ295 =>
if r294 = r296 then (
wf_law_1031 L xs k23 t x4 σ295) else (
some (0, σ295))
def wf_law_907 (L : Nat) (xs : Nat → Int32) (k23 : Nat → Int32 → wc_S → Option (Int32 × wc_S)) (t : Nat) (x4 : Int32) (σ : wc_S) : Option (Int32 × wc_S) :=
wc_st (x4 + 1) fun v298 =>
wc_gd (wc_in v298 L) (
wc_st (xs v298.toNatClampNeg) fun v300 =>
wc_st v300.toInt64 fun v301 =>
wc_st (v301 <<< ((32 : Int32).toInt64 &&& 63)) fun v302 =>
wc_st (x4 + 2) fun v303 =>
wc_gd (wc_in v303 L) (
wc_st (xs v303.toNatClampNeg) fun v305 =>
wc_st v305.toInt64 fun v306 =>
wc_st (v306 &&& 4294967295) fun v307 =>
wc_st (v302 ||| v307) fun v308 =>
wc_b2 (wf_K_tell v308 σ) fun r310 σ309 =>
wc_st (x4 + 1) fun v311 =>
wc_gd (wc_in v311 L) (
wc_st (xs v311.toNatClampNeg) fun v313 =>
wc_st v313.toInt64 fun v314 =>
wc_st (v314 <<< ((32 : Int32).toInt64 &&& 63)) fun v315 =>
wc_st (x4 + 2) fun v316 =>
wc_gd (wc_in v316 L) (
wc_st (xs v316.toNatClampNeg) fun v318 =>
wc_st v318.toInt64 fun v319 =>
wc_st (v319 &&& 4294967295) fun v320 =>
wc_st (v315 ||| v320) fun v321 =>
wc_b1 (wf_M_tell v321 σ309) fun σ322 =>
wc_b2 (wf_M_thrown σ322) fun r324 σ323 =>
if r324 = r310 then (
wf_law_1031 L xs k23 t x4 σ323) else (
some (0, σ323))))))
def wf_law_975 (L : Nat) (xs : Nat → Int32) (k23 : Nat → Int32 → wc_S → Option (Int32 × wc_S)) (t : Nat) (x4 : Int32) (σ : wc_S) : Option (Int32 × wc_S) :=
wc_st (x4 + 1) fun v326 =>
wc_gd (wc_in v326 L) (
wc_st (xs v326.toNatClampNeg) fun v328 =>
wc_b2 (wf_K_improve v328 σ) fun r330 σ329 =>
wc_st (x4 + 1) fun v331 =>
wc_gd (wc_in v331 L) (
wc_st (xs v331.toNatClampNeg) fun v333 =>
wc_b2 (wf_M_improve v333 σ329) fun r335 σ334 =>
wc_b2 (wf_M_thrown σ334) fun r337 σ336 =>
if r337 = r330 then (
if r330 = 0 then (
wc_gd (wc_in 0 1) (
wc_st ((σ336 88 ((0 : Int32).toNatClampNeg)).toInt64) fun v341 =>
wc_st r335.toInt64 fun v342 =>
wc_st (lg_cmp v341 v342) fun v343 =>
if v343 = 0 then (
wf_law_1031 L xs k23 t x4 σ336) else (
some (0, σ336)))) else (
wf_law_1031 L xs k23 t x4 σ336)) else (
some (0, σ336))))
def wf_law_23_b (L : Nat) (xs : Nat → Int32) (k23 : Nat → Int32 → wc_S → Option (Int32 × wc_S)) (t : Nat) (x4 : Int32) (σ : wc_S) : Option (Int32 × wc_S) :=
wc_gd (decide (t < 600)) (
wc_st (Int32.ofNat L) fun v1 =>
wc_st (v1 - 5) fun v2 =>
if v2 < x4 then (
some (1, σ)) else (
wc_gd (wc_in x4 L) (
wc_st (xs x4.toNatClampNeg) fun v5 =>
wc_st (v5 &&& 15) fun v6 =>
if v6 = 0 then (
wf_law_112 L xs k23 t x4 σ) else (
if v6 = 1 then (
wf_law_204 L xs k23 t x4 σ) else (
if v6 = 2 then (
wf_law_296 L xs k23 t x4 σ) else (
if v6 = 3 then (
wf_law_376 L xs k23 t x4 σ) else (
if v6 = 4 then (
wf_law_424 L xs k23 t x4 σ) else (
if v6 = 5 then (
wf_law_472 L xs k23 t x4 σ) else (
if v6 = 6 then (
wf_law_544 L xs k23 t x4 σ) else (
if v6 = 7 then (
wf_law_600 L xs k23 t x4 σ) else (
if v6 = 8 then (
wf_law_651 L xs k23 t x4 σ) else (
if v6 = 9 then (
wf_law_707 L xs k23 t x4 σ) else (
if v6 = 10 then (
wf_law_763 L xs k23 t x4 σ) else (
if v6 = 11 then (
wf_law_826 L xs k23 t x4 σ) else (
if v6 = 12 then (
wf_law_894 L xs k23 t x4 σ) else (
if v6 = 13 then (
wf_law_907 L xs k23 t x4 σ) else (
if v6 = 14 then (
wf_law_975 L xs k23 t x4 σ) else (
wf_law_1031 L xs k23 t x4 σ))))))))))))))))))
def wf_law_23 (L : Nat) (xs : Nat → Int32) (n : Nat) : Nat → Int32 → wc_S → Option (Int32 × wc_S) := match n with
  | 0 => fun _ _ _ => none
  | n + 1 => wf_law_23_b L xs (wf_law_23 L xs n)
