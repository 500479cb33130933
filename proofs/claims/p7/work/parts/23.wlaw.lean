def wf_law_704 (L : Nat) (xs : Nat → Int32) (k23 : Nat → Int32 → wc_S → Option (Int32 × wc_S)) (t : Nat) (x4 : Int32) (σ : wc_S) : Option (Int32 × wc_S) :=
wc_st (x4 + 5) fun v35 =>
k23 (t + 1) v35 σ
def wf_law_112 (L : Nat) (xs : Nat → Int32) (k23 : Nat → Int32 → wc_S → Option (Int32 × wc_S)) (t : Nat) (x4 : Int32) (σ : wc_S) : Option (Int32 × wc_S) :=
wc_st (x4 + 1) fun v7 =>
wc_gd (wc_in v7 L) (
wc_st (xs v7.toNatClampNeg) fun v9 =>
wc_st (x4 + 2) fun v10 =>
wc_gd (wc_in v10 L) (
wc_st (xs v10.toNatClampNeg) fun v12 =>
wc_st (x4 + 3) fun v13 =>
wc_gd (wc_in v13 L) (
wc_st (xs v13.toNatClampNeg) fun v15 =>
wc_st (x4 + 4) fun v16 =>
wc_gd (wc_in v16 L) (
wc_st (xs v16.toNatClampNeg) fun v18 =>
wc_b2 (wf_K_coil v9 v12 v15 v18 σ) fun r20 σ19 =>
wc_st (x4 + 1) fun v21 =>
wc_gd (wc_in v21 L) (
wc_st (xs v21.toNatClampNeg) fun v23 =>
wc_st (x4 + 2) fun v24 =>
wc_gd (wc_in v24 L) (
wc_st (xs v24.toNatClampNeg) fun v26 =>
wc_st (x4 + 3) fun v27 =>
wc_gd (wc_in v27 L) (
wc_st (xs v27.toNatClampNeg) fun v29 =>
wc_st (x4 + 4) fun v30 =>
wc_gd (wc_in v30 L) (
wc_st (xs v30.toNatClampNeg) fun v32 =>
wc_b2 (wf_M_coil v23 v26 v29 v32 σ19) fun r34 σ33 =>
wf_law_704 L xs k23 t x4 σ33))))))))
def wf_law_176 (L : Nat) (xs : Nat → Int32) (k23 : Nat → Int32 → wc_S → Option (Int32 × wc_S)) (t : Nat) (x4 : Int32) (σ : wc_S) : Option (Int32 × wc_S) :=
wc_st (x4 + 1) fun v36 =>
wc_gd (wc_in v36 L) (
wc_st (xs v36.toNatClampNeg) fun v38 =>
wc_st (x4 + 2) fun v39 =>
wc_gd (wc_in v39 L) (
wc_st (xs v39.toNatClampNeg) fun v41 =>
wc_st (x4 + 3) fun v42 =>
wc_gd (wc_in v42 L) (
wc_st (xs v42.toNatClampNeg) fun v44 =>
wc_st (x4 + 4) fun v45 =>
wc_gd (wc_in v45 L) (
wc_st (xs v45.toNatClampNeg) fun v47 =>
wc_b2 (wf_K_table v38 v41 v44 v47 σ) fun r49 σ48 =>
wc_st (x4 + 1) fun v50 =>
wc_gd (wc_in v50 L) (
wc_st (xs v50.toNatClampNeg) fun v52 =>
wc_st (x4 + 2) fun v53 =>
wc_gd (wc_in v53 L) (
wc_st (xs v53.toNatClampNeg) fun v55 =>
wc_st (x4 + 3) fun v56 =>
wc_gd (wc_in v56 L) (
wc_st (xs v56.toNatClampNeg) fun v58 =>
wc_st (x4 + 4) fun v59 =>
wc_gd (wc_in v59 L) (
wc_st (xs v59.toNatClampNeg) fun v61 =>
wc_b2 (wf_M_table v52 v55 v58 v61 σ48) fun r63 σ62 =>
wf_law_704 L xs k23 t x4 σ62))))))))
def wf_law_240 (L : Nat) (xs : Nat → Int32) (k23 : Nat → Int32 → wc_S → Option (Int32 × wc_S)) (t : Nat) (x4 : Int32) (σ : wc_S) : Option (Int32 × wc_S) :=
wc_st (x4 + 1) fun v64 =>
wc_gd (wc_in v64 L) (
wc_st (xs v64.toNatClampNeg) fun v66 =>
wc_st (x4 + 2) fun v67 =>
wc_gd (wc_in v67 L) (
wc_st (xs v67.toNatClampNeg) fun v69 =>
wc_st (x4 + 3) fun v70 =>
wc_gd (wc_in v70 L) (
wc_st (xs v70.toNatClampNeg) fun v72 =>
wc_b2 (wf_K_group v66 v69 v72 σ) fun r74 σ73 =>
wc_st (x4 + 1) fun v75 =>
wc_gd (wc_in v75 L) (
wc_st (xs v75.toNatClampNeg) fun v77 =>
wc_st (x4 + 2) fun v78 =>
wc_gd (wc_in v78 L) (
wc_st (xs v78.toNatClampNeg) fun v80 =>
wc_st (x4 + 3) fun v81 =>
wc_gd (wc_in v81 L) (
wc_st (xs v81.toNatClampNeg) fun v83 =>
wc_b2 (wf_M_group v77 v80 v83 σ73) fun r85 σ84 =>
wf_law_704 L xs k23 t x4 σ84))))))
def wf_law_292 (L : Nat) (xs : Nat → Int32) (k23 : Nat → Int32 → wc_S → Option (Int32 × wc_S)) (t : Nat) (x4 : Int32) (σ : wc_S) : Option (Int32 × wc_S) :=
wc_st (x4 + 1) fun v86 =>
wc_gd (wc_in v86 L) (
wc_st (xs v86.toNatClampNeg) fun v88 =>
wc_st (x4 + 2) fun v89 =>
wc_gd (wc_in v89 L) (
wc_st (xs v89.toNatClampNeg) fun v91 =>
wc_b2 (wf_K_urgent v88 v91 σ) fun r93 σ92 =>
wc_st (x4 + 1) fun v94 =>
wc_gd (wc_in v94 L) (
wc_st (xs v94.toNatClampNeg) fun v96 =>
wc_st (x4 + 2) fun v97 =>
wc_gd (wc_in v97 L) (
wc_st (xs v97.toNatClampNeg) fun v99 =>
wc_b1 (wf_M_urgent v96 v99 σ92) fun σ100 =>
wf_law_704 L xs k23 t x4 σ100))))
def wf_law_329 (L : Nat) (xs : Nat → Int32) (k23 : Nat → Int32 → wc_S → Option (Int32 × wc_S)) (t : Nat) (x4 : Int32) (σ : wc_S) : Option (Int32 × wc_S) :=
wc_st (x4 + 1) fun v101 =>
wc_gd (wc_in v101 L) (
wc_st (xs v101.toNatClampNeg) fun v103 =>
wc_st (x4 + 2) fun v104 =>
wc_gd (wc_in v104 L) (
wc_st (xs v104.toNatClampNeg) fun v106 =>
wc_b2 (wf_K_old v103 v106 σ) fun r108 σ107 =>
wc_st (x4 + 1) fun v109 =>
wc_gd (wc_in v109 L) (
wc_st (xs v109.toNatClampNeg) fun v111 =>
wc_st (x4 + 2) fun v112 =>
wc_gd (wc_in v112 L) (
wc_st (xs v112.toNatClampNeg) fun v114 =>
wc_b1 (wf_M_old v111 v114 σ107) fun σ115 =>
wf_law_704 L xs k23 t x4 σ115))))
def wf_law_366 (L : Nat) (xs : Nat → Int32) (k23 : Nat → Int32 → wc_S → Option (Int32 × wc_S)) (t : Nat) (x4 : Int32) (σ : wc_S) : Option (Int32 × wc_S) :=
wc_st (x4 + 1) fun v116 =>
wc_gd (wc_in v116 L) (
wc_st (xs v116.toNatClampNeg) fun v118 =>
wc_st (x4 + 2) fun v119 =>
wc_gd (wc_in v119 L) (
wc_st (xs v119.toNatClampNeg) fun v121 =>
wc_st (x4 + 3) fun v122 =>
wc_gd (wc_in v122 L) (
wc_st (xs v122.toNatClampNeg) fun v124 =>
wc_st (x4 + 4) fun v125 =>
wc_gd (wc_in v125 L) (
wc_st (xs v125.toNatClampNeg) fun v127 =>
wc_b2 (wf_K_rules v118 v121 v124 v127 σ) fun r129 σ128 =>
wc_st (x4 + 1) fun v130 =>
wc_gd (wc_in v130 L) (
wc_st (xs v130.toNatClampNeg) fun v132 =>
wc_st (x4 + 2) fun v133 =>
wc_gd (wc_in v133 L) (
wc_st (xs v133.toNatClampNeg) fun v135 =>
wc_st (x4 + 3) fun v136 =>
wc_gd (wc_in v136 L) (
wc_st (xs v136.toNatClampNeg) fun v138 =>
wc_st (x4 + 4) fun v139 =>
wc_gd (wc_in v139 L) (
wc_st (xs v139.toNatClampNeg) fun v141 =>
wc_b1 (wf_M_rules v132 v135 v138 v141 σ128) fun σ142 =>
wc_b2 (wf_M_thrown σ142) fun r144 σ143 =>
if r144 = r129 then (
wf_law_704 L xs k23 t x4 σ143) else (
some (0, σ143))))))))))
def wf_law_438 (L : Nat) (xs : Nat → Int32) (k23 : Nat → Int32 → wc_S → Option (Int32 × wc_S)) (t : Nat) (x4 : Int32) (σ : wc_S) : Option (Int32 × wc_S) :=
wc_st (x4 + 1) fun v146 =>
wc_gd (wc_in v146 L) (
wc_st (xs v146.toNatClampNeg) fun v148 =>
wc_b2 (wf_K_run v148 σ) fun r150 σ149 =>
wc_st (x4 + 1) fun v151 =>
wc_gd (wc_in v151 L) (
wc_st (xs v151.toNatClampNeg) fun v153 =>
wc_b2 (wf_M_run v153 σ149) fun r155 σ154 =>
wf_law_704 L xs k23 t x4 σ154))
def wf_law_466 (L : Nat) (xs : Nat → Int32) (k23 : Nat → Int32 → wc_S → Option (Int32 × wc_S)) (t : Nat) (x4 : Int32) (σ : wc_S) : Option (Int32 × wc_S) :=
wc_b2 (wf_K_proved σ) fun r157 σ156 =>
wc_b2 (wf_M_proved σ156) fun r159 σ158 =>
wf_law_704 L xs k23 t x4 σ158
def wf_law_482 (L : Nat) (xs : Nat → Int32) (k23 : Nat → Int32 → wc_S → Option (Int32 × wc_S)) (t : Nat) (x4 : Int32) (σ : wc_S) : Option (Int32 × wc_S) :=
wc_st (x4 + 1) fun v160 =>
wc_gd (wc_in v160 L) (
wc_st (xs v160.toNatClampNeg) fun v162 =>
wc_b2 (wf_K_order v162 σ) fun r164 σ163 =>
wc_st (x4 + 1) fun v165 =>
wc_gd (wc_in v165 L) (
wc_st (xs v165.toNatClampNeg) fun v167 =>
wc_b2 (wf_M_order v167 σ163) fun r169 σ168 =>
wf_law_704 L xs k23 t x4 σ168))
def wf_law_510 (L : Nat) (xs : Nat → Int32) (k23 : Nat → Int32 → wc_S → Option (Int32 × wc_S)) (t : Nat) (x4 : Int32) (σ : wc_S) : Option (Int32 × wc_S) :=
wc_st (x4 + 1) fun v170 =>
wc_gd (wc_in v170 L) (
wc_st (xs v170.toNatClampNeg) fun v172 =>
wc_b2 (wf_K_told v172 σ) fun r174 σ173 =>
wc_st (x4 + 1) fun v175 =>
wc_gd (wc_in v175 L) (
wc_st (xs v175.toNatClampNeg) fun v177 =>
wc_b2 (wf_M_told v177 σ173) fun r179 σ178 =>
wf_law_704 L xs k23 t x4 σ178))
def wf_law_538 (L : Nat) (xs : Nat → Int32) (k23 : Nat → Int32 → wc_S → Option (Int32 × wc_S)) (t : Nat) (x4 : Int32) (σ : wc_S) : Option (Int32 × wc_S) :=
wc_st (x4 + 1) fun v180 =>
wc_gd (wc_in v180 L) (
wc_st (xs v180.toNatClampNeg) fun v182 =>
wc_b2 (wf_K_change v182 σ) fun r184 σ183 =>
wc_st (x4 + 1) fun v185 =>
wc_gd (wc_in v185 L) (
wc_st (xs v185.toNatClampNeg) fun v187 =>
wc_b2 (wf_M_change v187 σ183) fun r189 σ188 =>
wf_law_704 L xs k23 t x4 σ188))
def wf_law_566 (L : Nat) (xs : Nat → Int32) (k23 : Nat → Int32 → wc_S → Option (Int32 × wc_S)) (t : Nat) (x4 : Int32) (σ : wc_S) : Option (Int32 × wc_S) :=
wc_st (x4 + 1) fun v190 =>
wc_gd (wc_in v190 L) (
wc_st (xs v190.toNatClampNeg) fun v192 =>
wc_st (x4 + 2) fun v193 =>
wc_gd (wc_in v193 L) (
wc_st (xs v193.toNatClampNeg) fun v195 =>
wc_b2 (wf_K_jump v192 v195 σ) fun r197 σ196 =>
wc_st (x4 + 1) fun v198 =>
wc_gd (wc_in v198 L) (
wc_st (xs v198.toNatClampNeg) fun v200 =>
wc_st (x4 + 2) fun v201 =>
wc_gd (wc_in v201 L) (
wc_st (xs v201.toNatClampNeg) fun v203 =>
wc_b2 (wf_M_jump v200 v203 σ196) fun r205 σ204 =>
wf_law_704 L xs k23 t x4 σ204))))
def wf_law_606 (L : Nat) (xs : Nat → Int32) (k23 : Nat → Int32 → wc_S → Option (Int32 × wc_S)) (t : Nat) (x4 : Int32) (σ : wc_S) : Option (Int32 × wc_S) :=
wc_b2 (wf_W_bound σ) fun r207 σ206 =>
wc_b2 (wf_M_bound σ206) fun r209 σ208 =>
wf_law_704 L xs k23 t x4 σ208
def wf_law_619 (L : Nat) (xs : Nat → Int32) (k23 : Nat → Int32 → wc_S → Option (Int32 × wc_S)) (t : Nat) (x4 : Int32) (σ : wc_S) : Option (Int32 × wc_S) :=
wc_st (x4 + 1) fun v210 =>
wc_gd (wc_in v210 L) (
wc_st (xs v210.toNatClampNeg) fun v212 =>
wc_st v212.toInt64 fun v213 =>
wc_st (v213 <<< ((32 : Int32).toInt64 &&& 63)) fun v214 =>
wc_st (x4 + 2) fun v215 =>
wc_gd (wc_in v215 L) (
wc_st (xs v215.toNatClampNeg) fun v217 =>
wc_st v217.toInt64 fun v218 =>
wc_st (v218 &&& 4294967295) fun v219 =>
wc_st (v214 ||| v219) fun v220 =>
wc_b2 (wf_K_tell v220 σ) fun r222 σ221 =>
wc_st (x4 + 1) fun v223 =>
wc_gd (wc_in v223 L) (
wc_st (xs v223.toNatClampNeg) fun v225 =>
wc_st v225.toInt64 fun v226 =>
wc_st (v226 <<< ((32 : Int32).toInt64 &&& 63)) fun v227 =>
wc_st (x4 + 2) fun v228 =>
wc_gd (wc_in v228 L) (
wc_st (xs v228.toNatClampNeg) fun v230 =>
wc_st v230.toInt64 fun v231 =>
wc_st (v231 &&& 4294967295) fun v232 =>
wc_st (v227 ||| v232) fun v233 =>
wc_b1 (wf_M_tell v233 σ221) fun σ234 =>
wf_law_704 L xs k23 t x4 σ234))))
def wf_law_676 (L : Nat) (xs : Nat → Int32) (k23 : Nat → Int32 → wc_S → Option (Int32 × wc_S)) (t : Nat) (x4 : Int32) (σ : wc_S) : Option (Int32 × wc_S) :=
wc_st (x4 + 1) fun v235 =>
wc_gd (wc_in v235 L) (
wc_st (xs v235.toNatClampNeg) fun v237 =>
wc_b2 (wf_K_improve v237 σ) fun r239 σ238 =>
wc_st (x4 + 1) fun v240 =>
wc_gd (wc_in v240 L) (
wc_st (xs v240.toNatClampNeg) fun v242 =>
wc_b2 (wf_M_improve v242 σ238) fun r244 σ243 =>
wf_law_704 L xs k23 t x4 σ243))
def wf_law_23_b (L : Nat) (xs : Nat → Int32) (k23 : Nat → Int32 → wc_S → Option (Int32 × wc_S)) (t : Nat) (x4 : Int32) (σ : wc_S) : Option (Int32 × wc_S) :=
wc_gd (decide (t < 600)) (
wc_st (Int32.ofNat L) fun v1 =>
wc_st (v1 - 5) fun v2 =>
if v2 < x4 then (
some (1, σ)) else (
wc_gd (wc_in x4 L) (
wc_st (xs x4.toNatClampNeg) fun v5 =>
wc_st (v5 &&& 15) fun v6 =>
if v6 = 0 then (
wf_law_112 L xs k23 t x4 σ) else (
if v6 = 1 then (
wf_law_176 L xs k23 t x4 σ) else (
if v6 = 2 then (
wf_law_240 L xs k23 t x4 σ) else (
if v6 = 3 then (
wf_law_292 L xs k23 t x4 σ) else (
if v6 = 4 then (
wf_law_329 L xs k23 t x4 σ) else (
if v6 = 5 then (
wf_law_366 L xs k23 t x4 σ) else (
if v6 = 6 then (
wf_law_438 L xs k23 t x4 σ) else (
if v6 = 7 then (
wf_law_466 L xs k23 t x4 σ) else (
if v6 = 8 then (
wf_law_482 L xs k23 t x4 σ) else (
if v6 = 9 then (
wf_law_510 L xs k23 t x4 σ) else (
if v6 = 10 then (
wf_law_538 L xs k23 t x4 σ) else (
if v6 = 11 then (
wf_law_566 L xs k23 t x4 σ) else (
if v6 = 12 then (
wf_law_606 L xs k23 t x4 σ) else (
if v6 = 13 then (
wf_law_619 L xs k23 t x4 σ) else (
if v6 = 14 then (
wf_law_676 L xs k23 t x4 σ) else (
wf_law_704 L xs k23 t x4 σ))))))))))))))))))
def wf_law_23 (L : Nat) (xs : Nat → Int32) (n : Nat) : Nat → Int32 → wc_S → Option (Int32 × wc_S) := match n with
  | 0 => fun _ _ _ => none
  | n + 1 => wf_law_23_b L xs (wf_law_23 L xs n)
