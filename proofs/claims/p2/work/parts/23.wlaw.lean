def wf_law_721 (L : Nat) (xs : Nat → Int32) (k23 : Nat → Int32 → wc_S → Option (Int32 × wc_S)) (t : Nat) (x4 : Int32) (σ : wc_S) : Option (Int32 × wc_S) :=
wc_st (x4 + 5) fun v39 =>
k23 (t + 1) v39 σ
def wf_law_112 (L : Nat) (xs : Nat → Int32) (k23 : Nat → Int32 → wc_S → Option (Int32 × wc_S)) (t : Nat) (x4 : Int32) (σ : wc_S) : Option (Int32 × wc_S) :=
wc_st (x4 + 1) fun v7 =>
wc_gd (wc_in v7 L) (
wc_st (xs v7.toNatClampNeg) fun v9 =>
wc_st (x4 + 2) fun v10 =>
wc_gd (wc_in v10 L) (
wc_st (xs v10.toNatClampNeg) fun v12 =>
wc_st (x4 + 3) fun v13 =>
wc_gd (wc_in v13 L) (
wc_st (xs v13.toNatClampNeg) fun v15 =>
wc_st (x4 + 4) fun v16 =>
wc_gd (wc_in v16 L) (
wc_st (xs v16.toNatClampNeg) fun v18 =>
wc_b2 (wf_K_coil v9 v12 v15 v18 σ) fun r20 σ19 =>
wc_st (x4 + 1) fun v21 =>
wc_gd (wc_in v21 L) (
wc_st (xs v21.toNatClampNeg) fun v23 =>
wc_st (x4 + 2) fun v24 =>
wc_gd (wc_in v24 L) (
wc_st (xs v24.toNatClampNeg) fun v26 =>
wc_st (x4 + 3) fun v27 =>
wc_gd (wc_in v27 L) (
wc_st (xs v27.toNatClampNeg) fun v29 =>
wc_st (x4 + 4) fun v30 =>
wc_gd (wc_in v30 L) (
wc_st (xs v30.toNatClampNeg) fun v32 =>
wc_b2 (wf_M_coil v23 v26 v29 v32 σ19) fun r34 σ33 =>
wc_b2 (wf_M_thrown σ33) fun r36 σ35 =>
if r36 = r20 then (
if r20 = 0 then (
wc_gd (wc_in 0 1) (
wc_st ((σ35 88 ((0 : Int32).toNatClampNeg)).toInt64) fun v41 =>
wc_st r34.toInt64 fun v42 =>
wc_st (lg_cmp v41 v42) fun v43 =>
if v43 = 0 then (
wf_law_721 L xs k23 t x4 σ35) else (
some (0, σ35)))) else (
wf_law_721 L xs k23 t x4 σ35)) else (
some (0, σ35))))))))))
def wf_law_204 (L : Nat) (xs : Nat → Int32) (k23 : Nat → Int32 → wc_S → Option (Int32 × wc_S)) (t : Nat) (x4 : Int32) (σ : wc_S) : Option (Int32 × wc_S) :=
wc_st (x4 + 1) fun v45 =>
wc_gd (wc_in v45 L) (
wc_st (xs v45.toNatClampNeg) fun v47 =>
wc_st (x4 + 2) fun v48 =>
wc_gd (wc_in v48 L) (
wc_st (xs v48.toNatClampNeg) fun v50 =>
wc_st (x4 + 3) fun v51 =>
wc_gd (wc_in v51 L) (
wc_st (xs v51.toNatClampNeg) fun v53 =>
wc_st (x4 + 4) fun v54 =>
wc_gd (wc_in v54 L) (
wc_st (xs v54.toNatClampNeg) fun v56 =>
wc_b2 (wf_K_table v47 v50 v53 v56 σ) fun r58 σ57 =>
wc_st (x4 + 1) fun v59 =>
wc_gd (wc_in v59 L) (
wc_st (xs v59.toNatClampNeg) fun v61 =>
wc_st (x4 + 2) fun v62 =>
wc_gd (wc_in v62 L) (
wc_st (xs v62.toNatClampNeg) fun v64 =>
wc_st (x4 + 3) fun v65 =>
wc_gd (wc_in v65 L) (
wc_st (xs v65.toNatClampNeg) fun v67 =>
wc_st (x4 + 4) fun v68 =>
wc_gd (wc_in v68 L) (
wc_st (xs v68.toNatClampNeg) fun v70 =>
wc_b2 (wf_M_table v61 v64 v67 v70 σ57) fun r72 σ71 =>
wf_law_721 L xs k23 t x4 σ71))))))))
def wf_law_268 (L : Nat) (xs : Nat → Int32) (k23 : Nat → Int32 → wc_S → Option (Int32 × wc_S)) (t : Nat) (x4 : Int32) (σ : wc_S) : Option (Int32 × wc_S) :=
wc_st (x4 + 1) fun v73 =>
wc_gd (wc_in v73 L) (
wc_st (xs v73.toNatClampNeg) fun v75 =>
wc_st (x4 + 2) fun v76 =>
wc_gd (wc_in v76 L) (
wc_st (xs v76.toNatClampNeg) fun v78 =>
wc_st (x4 + 3) fun v79 =>
wc_gd (wc_in v79 L) (
wc_st (xs v79.toNatClampNeg) fun v81 =>
wc_b2 (wf_K_group v75 v78 v81 σ) fun r83 σ82 =>
wc_st (x4 + 1) fun v84 =>
wc_gd (wc_in v84 L) (
wc_st (xs v84.toNatClampNeg) fun v86 =>
wc_st (x4 + 2) fun v87 =>
wc_gd (wc_in v87 L) (
wc_st (xs v87.toNatClampNeg) fun v89 =>
wc_st (x4 + 3) fun v90 =>
wc_gd (wc_in v90 L) (
wc_st (xs v90.toNatClampNeg) fun v92 =>
wc_b2 (wf_M_group v86 v89 v92 σ82) fun r94 σ93 =>
wf_law_721 L xs k23 t x4 σ93))))))
def wf_law_320 (L : Nat) (xs : Nat → Int32) (k23 : Nat → Int32 → wc_S → Option (Int32 × wc_S)) (t : Nat) (x4 : Int32) (σ : wc_S) : Option (Int32 × wc_S) :=
wc_st (x4 + 1) fun v95 =>
wc_gd (wc_in v95 L) (
wc_st (xs v95.toNatClampNeg) fun v97 =>
wc_st (x4 + 2) fun v98 =>
wc_gd (wc_in v98 L) (
wc_st (xs v98.toNatClampNeg) fun v100 =>
wc_b2 (wf_K_urgent v97 v100 σ) fun r102 σ101 =>
wc_st (x4 + 1) fun v103 =>
wc_gd (wc_in v103 L) (
wc_st (xs v103.toNatClampNeg) fun v105 =>
wc_st (x4 + 2) fun v106 =>
wc_gd (wc_in v106 L) (
wc_st (xs v106.toNatClampNeg) fun v108 =>
wc_b1 (wf_M_urgent v105 v108 σ101) fun σ109 =>
wf_law_721 L xs k23 t x4 σ109))))
def wf_law_357 (L : Nat) (xs : Nat → Int32) (k23 : Nat → Int32 → wc_S → Option (Int32 × wc_S)) (t : Nat) (x4 : Int32) (σ : wc_S) : Option (Int32 × wc_S) :=
wc_st (x4 + 1) fun v110 =>
wc_gd (wc_in v110 L) (
wc_st (xs v110.toNatClampNeg) fun v112 =>
wc_st (x4 + 2) fun v113 =>
wc_gd (wc_in v113 L) (
wc_st (xs v113.toNatClampNeg) fun v115 =>
wc_b2 (wf_K_old v112 v115 σ) fun r117 σ116 =>
wc_st (x4 + 1) fun v118 =>
wc_gd (wc_in v118 L) (
wc_st (xs v118.toNatClampNeg) fun v120 =>
wc_st (x4 + 2) fun v121 =>
wc_gd (wc_in v121 L) (
wc_st (xs v121.toNatClampNeg) fun v123 =>
wc_b1 (wf_M_old v120 v123 σ116) fun σ124 =>
wf_law_721 L xs k23 t x4 σ124))))
def wf_law_394 (L : Nat) (xs : Nat → Int32) (k23 : Nat → Int32 → wc_S → Option (Int32 × wc_S)) (t : Nat) (x4 : Int32) (σ : wc_S) : Option (Int32 × wc_S) :=
wc_st (x4 + 1) fun v125 =>
wc_gd (wc_in v125 L) (
wc_st (xs v125.toNatClampNeg) fun v127 =>
wc_st (x4 + 2) fun v128 =>
wc_gd (wc_in v128 L) (
wc_st (xs v128.toNatClampNeg) fun v130 =>
wc_st (x4 + 3) fun v131 =>
wc_gd (wc_in v131 L) (
wc_st (xs v131.toNatClampNeg) fun v133 =>
wc_st (x4 + 4) fun v134 =>
wc_gd (wc_in v134 L) (
wc_st (xs v134.toNatClampNeg) fun v136 =>
wc_b2 (wf_K_rules v127 v130 v133 v136 σ) fun r138 σ137 =>
wc_st (x4 + 1) fun v139 =>
wc_gd (wc_in v139 L) (
wc_st (xs v139.toNatClampNeg) fun v141 =>
wc_st (x4 + 2) fun v142 =>
wc_gd (wc_in v142 L) (
wc_st (xs v142.toNatClampNeg) fun v144 =>
wc_st (x4 + 3) fun v145 =>
wc_gd (wc_in v145 L) (
wc_st (xs v145.toNatClampNeg) fun v147 =>
wc_st (x4 + 4) fun v148 =>
wc_gd (wc_in v148 L) (
wc_st (xs v148.toNatClampNeg) fun v150 =>
wc_b1 (wf_M_rules v141 v144 v147 v150 σ137) fun σ151 =>
wf_law_721 L xs k23 t x4 σ151))))))))
def wf_law_455 (L : Nat) (xs : Nat → Int32) (k23 : Nat → Int32 → wc_S → Option (Int32 × wc_S)) (t : Nat) (x4 : Int32) (σ : wc_S) : Option (Int32 × wc_S) :=
wc_st (x4 + 1) fun v152 =>
wc_gd (wc_in v152 L) (
wc_st (xs v152.toNatClampNeg) fun v154 =>
wc_b2 (wf_K_run v154 σ) fun r156 σ155 =>
wc_st (x4 + 1) fun v157 =>
wc_gd (wc_in v157 L) (
wc_st (xs v157.toNatClampNeg) fun v159 =>
wc_b2 (wf_M_run v159 σ155) fun r161 σ160 =>
wf_law_721 L xs k23 t x4 σ160))
def wf_law_483 (L : Nat) (xs : Nat → Int32) (k23 : Nat → Int32 → wc_S → Option (Int32 × wc_S)) (t : Nat) (x4 : Int32) (σ : wc_S) : Option (Int32 × wc_S) :=
wc_b2 (wf_K_proved σ) fun r163 σ162 =>
wc_b2 (wf_M_proved σ162) fun r165 σ164 =>
wf_law_721 L xs k23 t x4 σ164
def wf_law_499 (L : Nat) (xs : Nat → Int32) (k23 : Nat → Int32 → wc_S → Option (Int32 × wc_S)) (t : Nat) (x4 : Int32) (σ : wc_S) : Option (Int32 × wc_S) :=
wc_st (x4 + 1) fun v166 =>
wc_gd (wc_in v166 L) (
wc_st (xs v166.toNatClampNeg) fun v168 =>
wc_b2 (wf_K_order v168 σ) fun r170 σ169 =>
wc_st (x4 + 1) fun v171 =>
wc_gd (wc_in v171 L) (
wc_st (xs v171.toNatClampNeg) fun v173 =>
wc_b2 (wf_M_order v173 σ169) fun r175 σ174 =>
wf_law_721 L xs k23 t x4 σ174))
def wf_law_527 (L : Nat) (xs : Nat → Int32) (k23 : Nat → Int32 → wc_S → Option (Int32 × wc_S)) (t : Nat) (x4 : Int32) (σ : wc_S) : Option (Int32 × wc_S) :=
wc_st (x4 + 1) fun v176 =>
wc_gd (wc_in v176 L) (
wc_st (xs v176.toNatClampNeg) fun v178 =>
wc_b2 (wf_K_told v178 σ) fun r180 σ179 =>
wc_st (x4 + 1) fun v181 =>
wc_gd (wc_in v181 L) (
wc_st (xs v181.toNatClampNeg) fun v183 =>
wc_b2 (wf_M_told v183 σ179) fun r185 σ184 =>
wf_law_721 L xs k23 t x4 σ184))
def wf_law_555 (L : Nat) (xs : Nat → Int32) (k23 : Nat → Int32 → wc_S → Option (Int32 × wc_S)) (t : Nat) (x4 : Int32) (σ : wc_S) : Option (Int32 × wc_S) :=
wc_st (x4 + 1) fun v186 =>
wc_gd (wc_in v186 L) (
wc_st (xs v186.toNatClampNeg) fun v188 =>
wc_b2 (wf_K_change v188 σ) fun r190 σ189 =>
wc_st (x4 + 1) fun v191 =>
wc_gd (wc_in v191 L) (
wc_st (xs v191.toNatClampNeg) fun v193 =>
wc_b2 (wf_M_change v193 σ189) fun r195 σ194 =>
wf_law_721 L xs k23 t x4 σ194))
def wf_law_583 (L : Nat) (xs : Nat → Int32) (k23 : Nat → Int32 → wc_S → Option (Int32 × wc_S)) (t : Nat) (x4 : Int32) (σ : wc_S) : Option (Int32 × wc_S) :=
wc_st (x4 + 1) fun v196 =>
wc_gd (wc_in v196 L) (
wc_st (xs v196.toNatClampNeg) fun v198 =>
wc_st (x4 + 2) fun v199 =>
wc_gd (wc_in v199 L) (
wc_st (xs v199.toNatClampNeg) fun v201 =>
wc_b2 (wf_K_jump v198 v201 σ) fun r203 σ202 =>
wc_st (x4 + 1) fun v204 =>
wc_gd (wc_in v204 L) (
wc_st (xs v204.toNatClampNeg) fun v206 =>
wc_st (x4 + 2) fun v207 =>
wc_gd (wc_in v207 L) (
wc_st (xs v207.toNatClampNeg) fun v209 =>
wc_b2 (wf_M_jump v206 v209 σ202) fun r211 σ210 =>
wf_law_721 L xs k23 t x4 σ210))))
def wf_law_623 (L : Nat) (xs : Nat → Int32) (k23 : Nat → Int32 → wc_S → Option (Int32 × wc_S)) (t : Nat) (x4 : Int32) (σ : wc_S) : Option (Int32 × wc_S) :=
wc_b2 (wf_W_bound σ) fun r213 σ212 =>
wc_b2 (wf_M_bound σ212) fun r215 σ214 =>
wf_law_721 L xs k23 t x4 σ214
def wf_law_636 (L : Nat) (xs : Nat → Int32) (k23 : Nat → Int32 → wc_S → Option (Int32 × wc_S)) (t : Nat) (x4 : Int32) (σ : wc_S) : Option (Int32 × wc_S) :=
wc_st (x4 + 1) fun v216 =>
wc_gd (wc_in v216 L) (
wc_st (xs v216.toNatClampNeg) fun v218 =>
wc_st v218.toInt64 fun v219 =>
wc_st (v219 <<< ((32 : Int32).toInt64 &&& 63)) fun v220 =>
wc_st (x4 + 2) fun v221 =>
wc_gd (wc_in v221 L) (
wc_st (xs v221.toNatClampNeg) fun v223 =>
wc_st v223.toInt64 fun v224 =>
wc_st (v224 &&& 4294967295) fun v225 =>
wc_st (v220 ||| v225) fun v226 =>
wc_b2 (wf_K_tell v226 σ) fun r228 σ227 =>
wc_st (x4 + 1) fun v229 =>
wc_gd (wc_in v229 L) (
wc_st (xs v229.toNatClampNeg) fun v231 =>
wc_st v231.toInt64 fun v232 =>
wc_st (v232 <<< ((32 : Int32).toInt64 &&& 63)) fun v233 =>
wc_st (x4 + 2) fun v234 =>
wc_gd (wc_in v234 L) (
wc_st (xs v234.toNatClampNeg) fun v236 =>
wc_st v236.toInt64 fun v237 =>
wc_st (v237 &&& 4294967295) fun v238 =>
wc_st (v233 ||| v238) fun v239 =>
wc_b1 (wf_M_tell v239 σ227) fun σ240 =>
wf_law_721 L xs k23 t x4 σ240))))
def wf_law_693 (L : Nat) (xs : Nat → Int32) (k23 : Nat → Int32 → wc_S → Option (Int32 × wc_S)) (t : Nat) (x4 : Int32) (σ : wc_S) : Option (Int32 × wc_S) :=
wc_st (x4 + 1) fun v241 =>
wc_gd (wc_in v241 L) (
wc_st (xs v241.toNatClampNeg) fun v243 =>
wc_b2 (wf_K_improve v243 σ) fun r245 σ244 =>
wc_st (x4 + 1) fun v246 =>
wc_gd (wc_in v246 L) (
wc_st (xs v246.toNatClampNeg) fun v248 =>
wc_b2 (wf_M_improve v248 σ244) fun r250 σ249 =>
wf_law_721 L xs k23 t x4 σ249))
def wf_law_23_b (L : Nat) (xs : Nat → Int32) (k23 : Nat → Int32 → wc_S → Option (Int32 × wc_S)) (t : Nat) (x4 : Int32) (σ : wc_S) : Option (Int32 × wc_S) :=
wc_gd (decide (t < 600)) (
wc_st (Int32.ofNat L) fun v1 =>
wc_st (v1 - 5) fun v2 =>
if v2 < x4 then (
some (1, σ)) else (
wc_gd (wc_in x4 L) (
wc_st (xs x4.toNatClampNeg) fun v5 =>
wc_st (v5 &&& 15) fun v6 =>
if v6 = 0 then (
wf_law_112 L xs k23 t x4 σ) else (
if v6 = 1 then (
wf_law_204 L xs k23 t x4 σ) else (
if v6 = 2 then (
wf_law_268 L xs k23 t x4 σ) else (
if v6 = 3 then (
wf_law_320 L xs k23 t x4 σ) else (
if v6 = 4 then (
wf_law_357 L xs k23 t x4 σ) else (
if v6 = 5 then (
wf_law_394 L xs k23 t x4 σ) else (
if v6 = 6 then (
wf_law_455 L xs k23 t x4 σ) else (
if v6 = 7 then (
wf_law_483 L xs k23 t x4 σ) else (
if v6 = 8 then (
wf_law_499 L xs k23 t x4 σ) else (
if v6 = 9 then (
wf_law_527 L xs k23 t x4 σ) else (
if v6 = 10 then (
wf_law_555 L xs k23 t x4 σ) else (
if v6 = 11 then (
wf_law_583 L xs k23 t x4 σ) else (
if v6 = 12 then (
wf_law_623 L xs k23 t x4 σ) else (
if v6 = 13 then (
wf_law_636 L xs k23 t x4 σ) else (
if v6 = 14 then (
wf_law_693 L xs k23 t x4 σ) else (
wf_law_721 L xs k23 t x4 σ))))))))))))))))))
def wf_law_23 (L : Nat) (xs : Nat → Int32) (n : Nat) : Nat → Int32 → wc_S → Option (Int32 × wc_S) := match n with
  | 0 => fun _ _ _ => none
  | n + 1 => wf_law_23_b L xs (wf_law_23 L xs n)
