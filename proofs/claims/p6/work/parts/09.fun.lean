def wf_J_addRow (b : Nat) (a1 : Int32) (a2 : Int32) (a3 : Int32) (σ : wc_S) : Option wc_S :=
wc_st (σ b 3) fun v1 =>
wc_gd (wc_in v1 8) (
wc_st (wc_u σ (b + 1) v1.toNatClampNeg a1) fun σ3 =>
wc_st (σ3 b 3) fun v4 =>
wc_gd (wc_in v4 8) (
wc_st (wc_u σ3 (b + 2) v4.toNatClampNeg a2) fun σ6 =>
wc_st (σ6 b 3) fun v7 =>
wc_gd (wc_in v7 8) (
wc_st (wc_u σ6 (b + 3) v7.toNatClampNeg a3) fun σ9 =>
wc_st (σ9 b 3) fun v10 =>
wc_st (v10 + 1) fun v11 =>
wc_st (wc_u σ9 b 3 v11) fun σ12 =>
some σ12)))
def wf_J_costOf_46 (b : Nat) (k11 : Int32 → Int32 → wc_S → Option (Int32 × wc_S)) (x1 : Int32) (x2 : Int32) (σ : wc_S) : Option (Int32 × wc_S) :=
wc_st (x2 + 1) fun v8 =>
k11 x1 v8 σ
def wf_J_costOf_11_b (b : Nat) (k11 : Int32 → Int32 → wc_S → Option (Int32 × wc_S)) (x1 : Int32) (x2 : Int32) (σ : wc_S) : Option (Int32 × wc_S) :=
wc_st (σ b 3) fun v3 =>
if v3 ≤ x2 then (
some ((-1), σ)) else (
wc_gd (wc_in x2 8) (
wc_st (σ (b + 1) x2.toNatClampNeg) fun v6 =>
if x1 < v6 then (
wf_J_costOf_46 b k11 x1 x2 σ) else (
wc_gd (wc_in x2 8) (
wc_st (σ (b + 2) x2.toNatClampNeg) fun v10 =>
if v10 < x1 then (
wf_J_costOf_46 b k11 x1 x2 σ) else (
wc_gd (wc_in x2 8) (
wc_st (σ (b + 3) x2.toNatClampNeg) fun v13 =>
some (v13, σ)))))))
def wf_J_costOf_11 (b : Nat) (n : Nat) : Int32 → Int32 → wc_S → Option (Int32 × wc_S) := match n with
  | 0 => fun _ _ _ => none
  | n + 1 => wf_J_costOf_11_b b (wf_J_costOf_11 b n)
def wf_J_costOf (b : Nat) (a1 : Int32) (σ : wc_S) : Option (Int32 × wc_S) :=
wc_st (σ b 3) fun v1 =>
if v1 = 0 then (
some (0, σ)) else (
wf_J_costOf_11 b 16 a1 0 σ)
def wf_G_addGroup (a1 : Int32) (a2 : Int32) (a3 : Int32) (σ : wc_S) : Option wc_S :=
wc_st (σ 26 3) fun v1 =>
wc_gd (wc_in v1 4) (
wc_st (wc_u σ 27 v1.toNatClampNeg a1) fun σ3 =>
wc_st (σ3 26 3) fun v4 =>
wc_gd (wc_in v4 4) (
wc_st (wc_u σ3 28 v4.toNatClampNeg a2) fun σ6 =>
wc_st (σ6 26 3) fun v7 =>
wc_gd (wc_in v7 4) (
wc_st (wc_u σ6 29 v7.toNatClampNeg a3) fun σ9 =>
wc_st (σ9 26 3) fun v10 =>
wc_st (v10 + 1) fun v11 =>
wc_st (wc_u σ9 26 3 v11) fun σ12 =>
some σ12)))
def wf_P_reckonJump (a1 : Int32) (a2 : Int32) (σ : wc_S) : Option (Int32 × wc_S) :=
wc_gd (wc_in a1 9) (
wc_st (σ 4 a1.toNatClampNeg) fun v2 =>
wc_gd (wc_in a2 9) (
wc_st (σ 4 a2.toNatClampNeg) fun v4 =>
wc_st (v2 - v4) fun v5 =>
wc_st (if 0 ≤ v5 then v5 else 0 - v5) fun v6 =>
wc_b2 (wf_J_costOf 18 v6 σ) fun r8 σ7 =>
wc_gd (wc_in a1 9) (
wc_st (σ7 3 a1.toNatClampNeg) fun v10 =>
wc_gd (wc_in a2 9) (
wc_st (σ7 3 a2.toNatClampNeg) fun v12 =>
wc_st (v10 - v12) fun v13 =>
wc_st (if 0 ≤ v13 then v13 else 0 - v13) fun v14 =>
wc_b2 (wf_J_costOf 22 v14 σ7) fun r16 σ15 =>
if r8 = (-1) then (
some ((-1), σ15)) else (
if r16 = (-1) then (
some ((-1), σ15)) else (
wc_st (r8 + r16) fun v19 =>
some (v19, σ15)))))))
def wf_P_reckonJumps_12_b (k2 : Int32 → wc_S → Option wc_S) (k12 : Int32 → Int32 → wc_S → Option wc_S) (x1 : Int32) (x2 : Int32) (σ : wc_S) : Option wc_S :=
wc_st (σ 1 10) fun v3 =>
if v3 ≤ x2 then (
wc_st (x1 + 1) fun v5 =>
k2 v5 σ) else (
wc_gd (wc_in x1 9) (
wc_b2 (wf_P_reckonJump x1 x2 σ) fun r8 σ7 =>
wc_gd (wc_in x2 9) (
wc_st (wc_u σ7 (9 + x1.toNatClampNeg) x2.toNatClampNeg r8) fun σ10 =>
wc_st (x2 + 1) fun v11 =>
k12 x1 v11 σ10)))
def wf_P_reckonJumps_12 (k2 : Int32 → wc_S → Option wc_S) (n : Nat) : Int32 → Int32 → wc_S → Option wc_S := match n with
  | 0 => fun _ _ _ => none
  | n + 1 => wf_P_reckonJumps_12_b k2 (wf_P_reckonJumps_12 k2 n)
def wf_P_reckonJumps_2_b (k2 : Int32 → wc_S → Option wc_S) (x1 : Int32) (σ : wc_S) : Option wc_S :=
wc_st (σ 1 10) fun v1 =>
if v1 ≤ x1 then (
some σ) else (
wf_P_reckonJumps_12 k2 16 x1 0 σ)
def wf_P_reckonJumps_2 (n : Nat) : Int32 → wc_S → Option wc_S := match n with
  | 0 => fun _ _ => none
  | n + 1 => wf_P_reckonJumps_2_b  (wf_P_reckonJumps_2  n)
def wf_P_reckonJumps (σ : wc_S) : Option wc_S :=
wf_P_reckonJumps_2 16 0 σ
def wf_P_addCoil (a1 : Int32) (a2 : Int32) (a3 : Int32) (a4 : Int32) (σ : wc_S) : Option (Int32 × wc_S) :=
wc_st (σ 1 10) fun v1 =>
wc_gd (wc_in v1 9) (
wc_st (wc_u σ 2 v1.toNatClampNeg a1) fun σ3 =>
wc_gd (wc_in v1 9) (
wc_st (wc_u σ3 3 v1.toNatClampNeg a2) fun σ5 =>
wc_gd (wc_in v1 9) (
wc_st (wc_u σ5 4 v1.toNatClampNeg a3) fun σ7 =>
wc_gd (wc_in v1 9) (
wc_st (wc_u σ7 5 v1.toNatClampNeg a4) fun σ9 =>
wc_gd (wc_in v1 9) (
wc_st (wc_u σ9 6 v1.toNatClampNeg 8) fun σ11 =>
wc_gd (wc_in v1 9) (
wc_st (wc_u σ11 7 v1.toNatClampNeg (-1)) fun σ13 =>
wc_st (σ13 1 10) fun v14 =>
wc_st (v14 + 1) fun v15 =>
wc_st (wc_u σ13 1 10 v15) fun σ16 =>
wc_b1 (wf_P_reckonJumps σ16) fun σ17 =>
some (v1, σ17)))))))
def wf_P_leastJumpTo_47 (k4 : Int32 → Int32 → Int32 → wc_S → Option (Int32 × wc_S)) (x1 : Int32) (x2 : Int32) (x3 : Int32) (σ : wc_S) : Option (Int32 × wc_S) :=
wc_st (x3 + 1) fun v8 =>
k4 x1 x2 v8 σ
def wf_P_leastJumpTo_44 (k4 : Int32 → Int32 → Int32 → wc_S → Option (Int32 × wc_S)) (x1 : Int32) (x3 : Int32) (x4 : Int32) (σ : wc_S) : Option (Int32 × wc_S) :=
wf_P_leastJumpTo_47 k4 x1 x4 x3 σ
def wf_P_leastJumpTo_4_b (k4 : Int32 → Int32 → Int32 → wc_S → Option (Int32 × wc_S)) (x1 : Int32) (x2 : Int32) (x3 : Int32) (σ : wc_S) : Option (Int32 × wc_S) :=
wc_st (σ 1 10) fun v1 =>
if v1 ≤ x3 then (
if x2 = (-1) then (
some (0, σ)) else (
some (x2, σ))) else (
wc_gd (wc_in x3 9) (
wc_gd (wc_in x1 9) (
wc_st (σ (9 + x3.toNatClampNeg) x1.toNatClampNeg) fun v6 =>
if x3 = x1 then (
wf_P_leastJumpTo_47 k4 x1 x2 x3 σ) else (
if v6 = (-1) then (
wf_P_leastJumpTo_47 k4 x1 x2 x3 σ) else (
if x2 = (-1) then (
wf_P_leastJumpTo_44 k4 x1 x3 v6 σ) else (
if x2 ≤ v6 then (
wf_P_leastJumpTo_47 k4 x1 x2 x3 σ) else (
wf_P_leastJumpTo_44 k4 x1 x3 v6 σ)))))))
def wf_P_leastJumpTo_4 (n : Nat) : Int32 → Int32 → Int32 → wc_S → Option (Int32 × wc_S) := match n with
  | 0 => fun _ _ _ _ => none
  | n + 1 => wf_P_leastJumpTo_4_b  (wf_P_leastJumpTo_4  n)
def wf_P_leastJumpTo (a1 : Int32) (σ : wc_S) : Option (Int32 × wc_S) :=
wf_P_leastJumpTo_4 16 a1 (-1) 0 σ
def wf_P_kilometresInGroup_41 (x2 : Int32) (s0 : Int32) (σ : wc_S) : Option (Int32 × wc_S) :=
if s0 = 0 then (
some (0, σ)) else (
wc_gd (wc_in x2 9) (
wc_st (σ 5 x2.toNatClampNeg) fun v8 =>
some (v8, σ)))
def wf_P_kilometresInGroup_40 (x2 : Int32) (σ : wc_S) : Option (Int32 × wc_S) :=
wf_P_kilometresInGroup_41 x2 0 σ
def wf_P_kilometresInGroup (a1 : Int32) (a2 : Int32) (σ : wc_S) : Option (Int32 × wc_S) :=
wc_gd (wc_in a1 4) (
wc_st (σ 27 a1.toNatClampNeg) fun v2 =>
wc_gd (wc_in a2 9) (
wc_st (σ 2 a2.toNatClampNeg) fun v4 =>
if v4 < v2 then (
wf_P_kilometresInGroup_40 a2 σ) else (
wc_gd (wc_in a2 9) (
wc_st (σ 2 a2.toNatClampNeg) fun v10 =>
wc_gd (wc_in a1 4) (
wc_st (σ 28 a1.toNatClampNeg) fun v12 =>
if v12 < v10 then (
wf_P_kilometresInGroup_40 a2 σ) else (
wf_P_kilometresInGroup_41 a2 1 σ))))))
def wf_L_penaltySoFar (b : Nat) (σ : wc_S) : Option (Int32 × wc_S) :=
wc_st (σ b 9) fun v1 =>
wc_gd (wc_in v1 10) (
wc_st (σ (b + 4) v1.toNatClampNeg) fun v3 =>
some (v3, σ))
def wf_L_changesSoFar (b : Nat) (σ : wc_S) : Option (Int32 × wc_S) :=
wc_st (σ b 9) fun v1 =>
wc_gd (wc_in v1 10) (
wc_st (σ (b + 5) v1.toNatClampNeg) fun v3 =>
some (v3, σ))
def wf_L_movedSoFar (b : Nat) (σ : wc_S) : Option (Int32 × wc_S) :=
wc_st (σ b 9) fun v1 =>
wc_gd (wc_in v1 10) (
wc_st (σ (b + 6) v1.toNatClampNeg) fun v3 =>
some (v3, σ))
def wf_L_clear_7_b (b : Nat) (k7 : Int32 → wc_S → Option wc_S) (x1 : Int32) (σ : wc_S) : Option wc_S :=
if 9 ≤ x1 then (
some σ) else (
wc_gd (wc_in x1 9) (
wc_st (wc_u σ (b + 2) x1.toNatClampNeg (vp_nar .boolean 0)) fun σ4 =>
wc_st (x1 + 1) fun v5 =>
k7 v5 σ4))
def wf_L_clear_7 (b : Nat) (n : Nat) : Int32 → wc_S → Option wc_S := match n with
  | 0 => fun _ _ => none
  | n + 1 => wf_L_clear_7_b b (wf_L_clear_7 b n)
def wf_L_clear (b : Nat) (σ : wc_S) : Option wc_S :=
wc_st (wc_u σ b 9 0) fun σ1 =>
wf_L_clear_7 b 16 0 σ1
def wf_L_mayFollow (b : Nat) (a1 : Int32) (a2 : Int32) (σ : wc_S) : Option (Int32 × wc_S) :=
wc_gd (wc_in a1 9) (
wc_gd (wc_in a2 9) (
wc_st (σ (9 + a1.toNatClampNeg) a2.toNatClampNeg) fun v3 =>
if v3 = (-1) then (
some (0, σ)) else (
wc_gd (wc_in a2 9) (
wc_st (σ 2 a2.toNatClampNeg) fun v6 =>
wc_gd (wc_in a1 9) (
wc_st (σ 2 a1.toNatClampNeg) fun v8 =>
wc_st (v6 - v8) fun v9 =>
wc_st (σ b 9) fun v10 =>
wc_st (σ 1 11) fun v11 =>
if v11 ≤ v10 then (
if 0 < v9 then (
some (0, σ)) else (
some (1, σ))) else (
if v9 < 0 then (
some (0, σ)) else (
some (1, σ))))))))
def wf_L_mayPut (b : Nat) (a1 : Int32) (σ : wc_S) : Option (Int32 × wc_S) :=
wc_gd (wc_in a1 9) (
wc_st (σ (b + 2) a1.toNatClampNeg) fun v2 =>
if v2 = 0 then (
wc_st (σ b 9) fun v4 =>
wc_gd (wc_in a1 9) (
wc_st (σ 6 a1.toNatClampNeg) fun v6 =>
if v4 ≤ v6 then (
wc_st (σ b 9) fun v8 =>
if v8 = 0 then (
some (1, σ)) else (
wc_st (σ b 9) fun v10 =>
wc_st (v10 - 1) fun v11 =>
wc_gd (wc_in v11 9) (
wc_st (σ (b + 1) v11.toNatClampNeg) fun v13 =>
wc_b2 (wf_L_mayFollow b v13 a1 σ) fun r15 σ14 =>
if r15 = 0 then (
some (0, σ14)) else (
some (1, σ14))))) else (
some (0, σ)))) else (
some (0, σ)))
def wf_L_isWornWith_33_b (b : Nat) (k33 : Int32 → Int32 → wc_S → Option (Int32 × wc_S)) (x1 : Int32) (x2 : Int32) (σ : wc_S) : Option (Int32 × wc_S) :=
wc_st (σ 26 3) fun v9 =>
if v9 ≤ x2 then (
some (0, σ)) else (
wc_st (σ b 9) fun v11 =>
wc_gd (wc_in v11 10) (
wc_gd (wc_in x2 4) (
wc_st (σ (b + 9 + v11.toNatClampNeg) x2.toNatClampNeg) fun v14 =>
wc_b2 (wf_P_kilometresInGroup x2 x1 σ) fun r16 σ15 =>
wc_st (v14 + r16) fun v17 =>
wc_gd (wc_in x2 4) (
wc_st (σ15 29 x2.toNatClampNeg) fun v19 =>
if v17 ≤ v19 then (
wc_st (x2 + 1) fun v21 =>
k33 x1 v21 σ15) else (
some (1, σ15))))))
def wf_L_isWornWith_33 (b : Nat) (n : Nat) : Int32 → Int32 → wc_S → Option (Int32 × wc_S) := match n with
  | 0 => fun _ _ _ => none
  | n + 1 => wf_L_isWornWith_33_b b (wf_L_isWornWith_33 b n)
def wf_L_isWornWith (b : Nat) (a1 : Int32) (σ : wc_S) : Option (Int32 × wc_S) :=
wc_st (σ b 9) fun v1 =>
wc_gd (wc_in v1 10) (
wc_st (σ (b + 7) v1.toNatClampNeg) fun v3 =>
wc_gd (wc_in a1 9) (
wc_st (σ 5 a1.toNatClampNeg) fun v5 =>
wc_st (v3 + v5) fun v6 =>
wc_st (σ 1 12) fun v7 =>
if v6 ≤ v7 then (
wf_L_isWornWith_33 b 16 a1 0 σ) else (
some (1, σ))))
def wf_L_countKilometres_78 (b : Nat) (k43 : Int32 → Int32 → Int32 → Int32 → wc_S → Option wc_S) (x1 : Int32) (x2 : Int32) (x3 : Int32) (x4 : Int32) (s0 : Int32) (σ : wc_S) : Option wc_S :=
wc_gd (wc_in x3 10) (
wc_b2 (wf_P_kilometresInGroup x4 x1 σ) fun r21 σ20 =>
wc_st (s0 + r21) fun v22 =>
wc_gd (wc_in x4 4) (
wc_st (wc_u σ20 (b + 9 + x3.toNatClampNeg) x4.toNatClampNeg v22) fun σ24 =>
wc_st (x4 + 1) fun v25 =>
k43 x1 x2 x3 v25 σ24))
def wf_L_countKilometres_43_b (b : Nat) (k43 : Int32 → Int32 → Int32 → Int32 → wc_S → Option wc_S) (x1 : Int32) (x2 : Int32) (x3 : Int32) (x4 : Int32) (σ : wc_S) : Option wc_S :=
wc_st (σ 26 3) fun v12 =>
if v12 ≤ x4 then (
some σ) else (
if x2 = 0 then (
wc_st (σ b 9) fun v15 =>
wc_gd (wc_in v15 10) (
wc_gd (wc_in x4 4) (
wc_st (σ (b + 9 + v15.toNatClampNeg) x4.toNatClampNeg) fun v18 =>
wf_L_countKilometres_78 b k43 x1 x2 x3 x4 v18 σ))) else (
wf_L_countKilometres_78 b k43 x1 x2 x3 x4 0 σ))
def wf_L_countKilometres_43 (b : Nat) (n : Nat) : Int32 → Int32 → Int32 → Int32 → wc_S → Option wc_S := match n with
  | 0 => fun _ _ _ _ _ => none
  | n + 1 => wf_L_countKilometres_43_b b (wf_L_countKilometres_43 b n)
def wf_L_countKilometres_29 (b : Nat) (x1 : Int32) (x2 : Int32) (x3 : Int32) (s1 : Int32) (s2 : Int32) (σ : wc_S) : Option wc_S :=
wc_gd (wc_in x1 9) (
wc_st (σ 5 x1.toNatClampNeg) fun v8 =>
wc_st (s2 + v8) fun v9 =>
wc_gd (wc_in s1 10) (
wc_st (wc_u σ (b + 7) s1.toNatClampNeg v9) fun σ11 =>
wf_L_countKilometres_43 b 16 x1 x2 x3 0 σ11))
def wf_L_countKilometres (b : Nat) (a1 : Int32) (a2 : Int32) (σ : wc_S) : Option wc_S :=
wc_st (σ b 9) fun v1 =>
wc_st (v1 + 1) fun v2 =>
if a2 = 0 then (
wc_st (σ b 9) fun v4 =>
wc_gd (wc_in v4 10) (
wc_st (σ (b + 7) v4.toNatClampNeg) fun v6 =>
wf_L_countKilometres_29 b a1 a2 v2 v2 v6 σ)) else (
wf_L_countKilometres_29 b a1 a2 v2 v2 0 σ)
def wf_L_countCosts_157 (b : Nat) (x5 : Int32) (s1 : Int32) (s2 : Int32) (s3 : Int32) (σ : wc_S) : Option wc_S :=
wc_st (s2 + s3) fun v27 =>
if x5 = 0 then (
wc_st (v27 + 0) fun v29 =>
wc_gd (wc_in s1 10) (
wc_st (wc_u σ (b + 4) s1.toNatClampNeg v29) fun σ31 =>
some σ31)) else (
wc_st (σ 1 14) fun v32 =>
wc_st (v27 + v32) fun v33 =>
wc_gd (wc_in s1 10) (
wc_st (wc_u σ (b + 4) s1.toNatClampNeg v33) fun σ35 =>
some σ35))
def wf_L_countCosts_123 (b : Nat) (x2 : Int32) (x3 : Int32) (x5 : Int32) (x6 : Int32) (s1 : Int32) (s2 : Int32) (s3 : Int32) (σ : wc_S) : Option wc_S :=
wc_st (s2 + s3) fun v19 =>
wc_gd (wc_in s1 10) (
wc_st (wc_u σ (b + 6) s1.toNatClampNeg v19) fun σ21 =>
wc_st (σ21 b 9) fun v22 =>
wc_gd (wc_in v22 10) (
wc_st (σ21 (b + 4) v22.toNatClampNeg) fun v24 =>
wc_st (v24 + x6) fun v25 =>
if x2 = 0 then (
wf_L_countCosts_157 b x5 x3 v25 0 σ21) else (
wc_st (σ21 1 13) fun v36 =>
wf_L_countCosts_157 b x5 x3 v25 v36 σ21)))
def wf_L_countCosts_97 (b : Nat) (x2 : Int32) (x3 : Int32) (x5 : Int32) (x6 : Int32) (s1 : Int32) (s2 : Int32) (s3 : Int32) (σ : wc_S) : Option wc_S :=
wc_st (s2 + s3) fun v12 =>
wc_gd (wc_in s1 10) (
wc_st (wc_u σ (b + 5) s1.toNatClampNeg v12) fun σ14 =>
wc_st (σ14 b 9) fun v15 =>
wc_gd (wc_in v15 10) (
wc_st (σ14 (b + 6) v15.toNatClampNeg) fun v17 =>
if x5 = 0 then (
wf_L_countCosts_123 b x2 x3 x5 x6 x3 v17 0 σ14) else (
wf_L_countCosts_123 b x2 x3 x5 x6 x3 v17 1 σ14)))
def wf_L_countCosts_72 (b : Nat) (x2 : Int32) (x3 : Int32) (x5 : Int32) (s0 : Int32) (σ : wc_S) : Option wc_S :=
wc_st (σ b 9) fun v8 =>
wc_gd (wc_in v8 10) (
wc_st (σ (b + 5) v8.toNatClampNeg) fun v10 =>
if x2 = 0 then (
wf_L_countCosts_97 b x2 x3 x5 s0 x3 v10 0 σ) else (
wf_L_countCosts_97 b x2 x3 x5 s0 x3 v10 1 σ))
def wf_L_countCosts_38 (b : Nat) (x1 : Int32) (x2 : Int32) (x3 : Int32) (s0 : Int32) (σ : wc_S) : Option wc_S :=
wc_st (σ b 9) fun v6 =>
if v6 ≤ 0 then (
wf_L_countCosts_72 b x2 x3 s0 0 σ) else (
wc_st (σ b 9) fun v37 =>
wc_st (v37 - 1) fun v38 =>
wc_gd (wc_in v38 9) (
wc_st (σ (b + 1) v38.toNatClampNeg) fun v40 =>
wc_gd (wc_in v40 9) (
wc_gd (wc_in x1 9) (
wc_st (σ (9 + v40.toNatClampNeg) x1.toNatClampNeg) fun v43 =>
wf_L_countCosts_72 b x2 x3 s0 v43 σ))))
def wf_L_countCosts_37 (b : Nat) (x1 : Int32) (x2 : Int32) (x3 : Int32) (σ : wc_S) : Option wc_S :=
wf_L_countCosts_38 b x1 x2 x3 0 σ
def wf_L_countCosts (b : Nat) (a1 : Int32) (a2 : Int32) (σ : wc_S) : Option wc_S :=
wc_st (σ b 9) fun v1 =>
wc_st (v1 + 1) fun v2 =>
wc_gd (wc_in a1 9) (
wc_st (σ 7 a1.toNatClampNeg) fun v4 =>
if v4 = (-1) then (
wf_L_countCosts_37 b a1 a2 v2 σ) else (
wc_st (σ b 9) fun v44 =>
if v4 = v44 then (
wf_L_countCosts_37 b a1 a2 v2 σ) else (
wf_L_countCosts_38 b a1 a2 v2 1 σ)))
def wf_L_put_20 (b : Nat) (x1 : Int32) (s0 : Int32) (σ : wc_S) : Option wc_S :=
wc_st (σ b 9) fun v3 =>
wc_gd (wc_in v3 9) (
wc_st (wc_u σ (b + 3) v3.toNatClampNeg (vp_nar .boolean s0)) fun σ5 =>
wc_b1 (wf_L_countKilometres b x1 s0 σ5) fun σ6 =>
wc_b1 (wf_L_countCosts b x1 s0 σ6) fun σ7 =>
wc_st (σ7 b 9) fun v8 =>
wc_gd (wc_in v8 9) (
wc_st (wc_u σ7 (b + 1) v8.toNatClampNeg x1) fun σ10 =>
wc_gd (wc_in x1 9) (
wc_st (wc_u σ10 (b + 2) x1.toNatClampNeg (vp_nar .boolean 1)) fun σ12 =>
wc_st (σ12 b 9) fun v13 =>
wc_st (v13 + 1) fun v14 =>
wc_st (wc_u σ12 b 9 v14) fun σ15 =>
some σ15)))
def wf_L_put_19 (b : Nat) (x1 : Int32) (σ : wc_S) : Option wc_S :=
wf_L_put_20 b x1 0 σ
def wf_L_put (b : Nat) (a1 : Int32) (σ : wc_S) : Option wc_S :=
wc_st (σ b 9) fun v1 =>
if v1 ≤ 0 then (
wf_L_put_19 b a1 σ) else (
wc_b2 (wf_L_isWornWith b a1 σ) fun r17 σ16 =>
if r17 = 0 then (
wf_L_put_19 b a1 σ16) else (
wf_L_put_20 b a1 1 σ16))
def wf_L_takeBack (b : Nat) (σ : wc_S) : Option wc_S :=
wc_st (σ b 9) fun v1 =>
if v1 ≤ 0 then (
some σ) else (
wc_st (σ b 9) fun v3 =>
wc_st (v3 - 1) fun v4 =>
wc_st (wc_u σ b 9 v4) fun σ5 =>
wc_st (σ5 b 9) fun v6 =>
wc_gd (wc_in v6 9) (
wc_st (σ5 (b + 1) v6.toNatClampNeg) fun v8 =>
wc_gd (wc_in v8 9) (
wc_st (wc_u σ5 (b + 2) v8.toNatClampNeg (vp_nar .boolean 0)) fun σ10 =>
some σ10)))
def wf_L_layAll_6_b (b : Nat) (k1 : Nat) (k6 : Int32 → wc_S → Option (Int32 × wc_S)) (x2 : Int32) (σ : wc_S) : Option (Int32 × wc_S) :=
wc_st (σ 1 10) fun v2 =>
if v2 ≤ x2 then (
some (1, σ)) else (
wc_gd (wc_in x2 9) (
wc_st (σ k1 x2.toNatClampNeg) fun v5 =>
wc_b2 (wf_L_mayPut b v5 σ) fun r7 σ6 =>
if r7 = 0 then (
some (0, σ6)) else (
wc_gd (wc_in x2 9) (
wc_st (σ6 k1 x2.toNatClampNeg) fun v10 =>
wc_b1 (wf_L_put b v10 σ6) fun σ11 =>
wc_st (x2 + 1) fun v12 =>
k6 v12 σ11))))
def wf_L_layAll_6 (b : Nat) (k1 : Nat) (n : Nat) : Int32 → wc_S → Option (Int32 × wc_S) := match n with
  | 0 => fun _ _ => none
  | n + 1 => wf_L_layAll_6_b b k1 (wf_L_layAll_6 b k1 n)
def wf_L_layAll (b : Nat) (k1 : Nat) (σ : wc_S) : Option (Int32 × wc_S) :=
wc_b1 (wf_L_clear b σ) fun σ1 =>
wf_L_layAll_6 b k1 16 0 σ1
def wf_S_keepBest (σ : wc_S) : Option wc_S :=
wc_st (wc_u σ 68 5 1) fun σ1 =>
wc_b2 (wf_L_penaltySoFar 30 σ1) fun r3 σ2 =>
wc_st (wc_u σ2 68 3 r3) fun σ4 =>
wc_st (σ4 1 10) fun v5 =>
wc_gd (wc_le v5 9) (
wc_st (wc_uA σ4 69 (va_cpy (σ4 31) (σ4 69) 0 0 v5.toNatClampNeg)) fun σ7 =>
some σ7)
def wf_S_putAndGoOn_52 (g : Int32 → wc_S → Option wc_S) (σ : wc_S) : Option wc_S :=
wc_b1 (wf_L_takeBack 30 σ) fun σ11 =>
some σ11
def wf_S_putAndGoOn (g : Int32 → wc_S → Option wc_S) (a1 : Int32) (a2 : Int32) (σ : wc_S) : Option wc_S :=
wc_st (σ 68 4) fun v1 =>
if 0 < v1 then (
wc_st (σ 68 4) fun v3 =>
wc_st (v3 - 1) fun v4 =>
wc_st (wc_u σ 68 4 v4) fun σ5 =>
wc_b1 (wf_L_put 30 a1 σ5) fun σ6 =>
wc_b2 (wf_L_penaltySoFar 30 σ6) fun r8 σ7 =>
wc_st (σ7 68 3) fun v9 =>
if v9 ≤ r8 then (
wf_S_putAndGoOn_52 g  σ7) else (
wc_st (a2 + 1) fun v12 =>
wc_b1 (g v12 σ7) fun σ13 =>
wf_S_putAndGoOn_52 g  σ13)) else (
wc_st (wc_u σ 68 6 1) fun σ14 =>
some σ14)
def wf_S_goOnAt_53 (g : Int32 → wc_S → Option wc_S) (k18 : Int32 → Int32 → wc_S → Option wc_S) (x1 : Int32) (x2 : Int32) (σ : wc_S) : Option wc_S :=
wc_st (x2 + 1) fun v10 =>
k18 x1 v10 σ
def wf_S_goOnAt_18_b (g : Int32 → wc_S → Option wc_S) (k18 : Int32 → Int32 → wc_S → Option wc_S) (x1 : Int32) (x2 : Int32) (σ : wc_S) : Option wc_S :=
wc_st (σ 1 10) fun v3 =>
if v3 ≤ x2 then (
some σ) else (
wc_st (σ 68 6) fun v5 =>
if v5 = 0 then (
wc_b2 (wf_L_mayPut 30 x2 σ) fun r8 σ7 =>
if r8 = 0 then (
wf_S_goOnAt_53 g k18 x1 x2 σ7) else (
wc_b1 (wf_S_putAndGoOn g x2 x1 σ7) fun σ11 =>
wf_S_goOnAt_53 g k18 x1 x2 σ11)) else (
some σ))
def wf_S_goOnAt_18 (g : Int32 → wc_S → Option wc_S) (n : Nat) : Int32 → Int32 → wc_S → Option wc_S := match n with
  | 0 => fun _ _ _ => none
  | n + 1 => wf_S_goOnAt_18_b g (wf_S_goOnAt_18 g n)
def wf_S_goOnAt_r (g : Int32 → wc_S → Option wc_S) (a1 : Int32) (σ : wc_S) : Option wc_S :=
wc_st (σ 1 10) fun v1 =>
if a1 < v1 then (
wf_S_goOnAt_18 g 16 a1 0 σ) else (
wc_b1 (wf_S_keepBest σ) fun σ12 =>
some σ12)
def wf_S_goOnAt (d : Nat) : Int32 → wc_S → Option wc_S := match d with
  | 0 => fun _ _ => none
  | d + 1 => wf_S_goOnAt_r (wf_S_goOnAt d)
def wf_S_searchWith (a1 : Int32) (σ : wc_S) : Option wc_S :=
wc_st (wc_u σ 68 4 a1) fun σ1 =>
wc_st (wc_u σ1 68 3 2147483647) fun σ2 =>
wc_st (wc_u σ2 68 5 0) fun σ3 =>
wc_st (wc_u σ3 68 6 0) fun σ4 =>
wc_b1 (wf_L_clear 30 σ4) fun σ5 =>
wc_b1 (wf_S_goOnAt 11 0 σ5) fun σ6 =>
some σ6
def wf_W_isOutside (a0 : Int32) (a1 : Int32) (a2 : Int32) (σ : wc_S) : Option (Int32 × wc_S) :=
if a0 < a1 then (
some (1, σ)) else (
if a0 ≤ a2 then (
some (0, σ)) else (
some (1, σ)))
def wf_W_isNoCoil (a1 : Int32) (σ : wc_S) : Option (Int32 × wc_S) :=
if a1 < 0 then (
some (1, σ)) else (
wc_st (σ 1 10) fun v2 =>
if a1 < v2 then (
some (0, σ)) else (
some (1, σ)))
def wf_W_forgetOrder (σ : wc_S) : Option wc_S :=
wc_st (wc_u σ 0 5 0) fun σ1 =>
wc_st (wc_u σ1 0 6 0) fun σ2 =>
some σ2
def wf_W_requireOrder (σ : wc_S) : Option (wc_X wc_S) :=
wc_st (σ 0 5) fun v1 =>
if v1 = 0 then (
some (.inl (1, σ))) else (
some (.inr σ))
def wf_W_requirePlace (a1 : Int32) (σ : wc_S) : Option (wc_X wc_S) :=
wc_b2 (wf_W_isNoCoil a1 σ) fun r2 σ1 =>
if r2 = 0 then (
some (.inr σ1)) else (
some (.inl (0, σ1)))
def wf_W_readIntoScratch_5_b (k5 : Int64 → Int32 → Int32 → wc_S → Option (Int32 × wc_S)) (x1 : Int64) (x3 : Int32) (x4 : Int32) (σ : wc_S) : Option (Int32 × wc_S) :=
wc_st (σ 1 10) fun v1 =>
if v1 ≤ x4 then (
some (1, σ)) else (
wc_st ((4 : Int32) * x4) fun v3 =>
wc_st ((x1.toUInt64 >>> (v3.toInt64.toUInt64 &&& Int64.toUInt64 63)).toInt64) fun v4 =>
wc_st v4.toInt32 fun v5 =>
wc_st (v5 &&& 15) fun v6 =>
wc_b2 (wf_W_isNoCoil v6 σ) fun r8 σ7 =>
if r8 = 0 then (
wc_st (x3 >>> (v6 &&& 31)) fun v10 =>
wc_st (v10 &&& 1) fun v11 =>
if v11 = 1 then (
some (0, σ7)) else (
wc_st ((1 : Int32) <<< (v6 &&& 31)) fun v13 =>
wc_st (x3 ||| v13) fun v14 =>
wc_gd (wc_in x4 9) (
wc_st (wc_u σ7 70 x4.toNatClampNeg v6) fun σ16 =>
wc_st (x4 + 1) fun v17 =>
k5 x1 v14 v17 σ16))) else (
some (0, σ7)))
def wf_W_readIntoScratch_5 (n : Nat) : Int64 → Int32 → Int32 → wc_S → Option (Int32 × wc_S) := match n with
  | 0 => fun _ _ _ _ => none
  | n + 1 => wf_W_readIntoScratch_5_b  (wf_W_readIntoScratch_5  n)
def wf_W_readIntoScratch (a1 : Int64) (σ : wc_S) : Option (Int32 × wc_S) :=
wf_W_readIntoScratch_5 16 a1 0 0 σ
def wf_W_takePairIfBetter (a1 : Int32) (a2 : Int32) (σ : wc_S) : Option (Int32 × wc_S) :=
wc_st (σ 1 10) fun v1 =>
wc_gd (wc_le v1 9) (
wc_st (wc_uA σ 70 (va_cpy (σ 50) (σ 70) 0 0 v1.toNatClampNeg)) fun σ3 =>
wc_gd (wc_in a2 9) (
wc_st (σ3 50 a2.toNatClampNeg) fun v5 =>
wc_gd (wc_in a1 9) (
wc_st (wc_u σ3 70 a1.toNatClampNeg v5) fun σ7 =>
wc_gd (wc_in a1 9) (
wc_st (σ7 50 a1.toNatClampNeg) fun v9 =>
wc_gd (wc_in a2 9) (
wc_st (wc_u σ7 70 a2.toNatClampNeg v9) fun σ11 =>
wc_b2 (wf_L_layAll 30 70 σ11) fun r13 σ12 =>
if r13 = 0 then (
some (0, σ12)) else (
wc_b2 (wf_L_penaltySoFar 30 σ12) fun r16 σ15 =>
wc_b2 (wf_L_penaltySoFar 49 σ15) fun r18 σ17 =>
if r16 < r18 then (
wc_b2 (wf_L_layAll 49 70 σ17) fun r21 σ20 =>
some (1, σ20)) else (
some (0, σ17))))))))
def wf_W_takeFirstBetterPair_17_b (k2 : Int32 → wc_S → Option (Int32 × wc_S)) (k17 : Int32 → Int32 → wc_S → Option (Int32 × wc_S)) (x1 : Int32) (x2 : Int32) (σ : wc_S) : Option (Int32 × wc_S) :=
wc_st (σ 1 10) fun v4 =>
if v4 ≤ x2 then (
wc_st (x1 + 1) fun v6 =>
k2 v6 σ) else (
wc_b2 (wf_W_takePairIfBetter x1 x2 σ) fun r8 σ7 =>
if r8 = 0 then (
wc_st (x2 + 1) fun v10 =>
k17 x1 v10 σ7) else (
some (1, σ7)))
def wf_W_takeFirstBetterPair_17 (k2 : Int32 → wc_S → Option (Int32 × wc_S)) (n : Nat) : Int32 → Int32 → wc_S → Option (Int32 × wc_S) := match n with
  | 0 => fun _ _ _ => none
  | n + 1 => wf_W_takeFirstBetterPair_17_b k2 (wf_W_takeFirstBetterPair_17 k2 n)
def wf_W_takeFirstBetterPair_2_b (k2 : Int32 → wc_S → Option (Int32 × wc_S)) (x1 : Int32) (σ : wc_S) : Option (Int32 × wc_S) :=
wc_st (σ 1 10) fun v1 =>
if v1 ≤ x1 then (
some (0, σ)) else (
wc_st (x1 + 1) fun v3 =>
wf_W_takeFirstBetterPair_17 k2 16 x1 v3 σ)
def wf_W_takeFirstBetterPair_2 (n : Nat) : Int32 → wc_S → Option (Int32 × wc_S) := match n with
  | 0 => fun _ _ => none
  | n + 1 => wf_W_takeFirstBetterPair_2_b  (wf_W_takeFirstBetterPair_2  n)
def wf_W_takeFirstBetterPair (σ : wc_S) : Option (Int32 × wc_S) :=
wf_W_takeFirstBetterPair_2 16 0 σ
def wf_W_coil_43 (σ : wc_S) : Option (wc_X (Int32 × wc_S)) :=
some (.inl (2, σ))
def wf_W_coil (a1 : Int32) (a2 : Int32) (a3 : Int32) (a4 : Int32) (σ : wc_S) : Option (wc_X (Int32 × wc_S)) :=
wc_b2 (wf_W_isOutside a1 1 2000 σ) fun r2 σ1 =>
if r2 = 0 then (
wc_b2 (wf_W_isOutside a2 1 1000 σ1) fun r5 σ4 =>
if r5 = 0 then (
wc_b2 (wf_W_isOutside a3 0 9 σ4) fun r8 σ7 =>
if r8 = 0 then (
wc_b2 (wf_W_isOutside a4 1 100 σ7) fun r11 σ10 =>
if r11 = 0 then (
wc_st (σ10 1 10) fun v13 =>
if v13 < 9 then (
wc_b1 (wf_W_forgetOrder σ10) fun σ15 =>
wc_b2 (wf_P_addCoil a1 a2 a3 a4 σ15) fun r17 σ16 =>
some (.inr (r17, σ16))) else (
some (.inl (3, σ10)))) else (
wf_W_coil_43  σ10)) else (
wf_W_coil_43  σ7)) else (
wf_W_coil_43  σ4)) else (
wf_W_coil_43  σ1)
def wf_W_table_53 (σ : wc_S) : Option (wc_X (Int32 × wc_S)) :=
some (.inl (2, σ))
def wf_W_table_84 (x2 : Int32) (x3 : Int32) (x4 : Int32) (s0_ : Nat) (σ : wc_S) : Option (wc_X (Int32 × wc_S)) :=
wc_st (σ s0_ 3) fun v14 =>
if v14 < 8 then (
wc_b1 (wf_W_forgetOrder σ) fun σ16 =>
wc_b1 (wf_J_addRow s0_ x2 x3 x4 σ16) fun σ17 =>
wc_b1 (wf_P_reckonJumps σ17) fun σ18 =>
wc_st (σ18 s0_ 3) fun v19 =>
some (.inr (v19, σ18))) else (
some (.inl (3, σ)))
def wf_W_table (a1 : Int32) (a2 : Int32) (a3 : Int32) (a4 : Int32) (σ : wc_S) : Option (wc_X (Int32 × wc_S)) :=
wc_b2 (wf_W_isOutside a1 0 1 σ) fun r2 σ1 =>
if r2 = 0 then (
wc_b2 (wf_W_isOutside a2 0 1000 σ1) fun r5 σ4 =>
if r5 = 0 then (
wc_b2 (wf_W_isOutside a3 a2 1000 σ4) fun r8 σ7 =>
if r8 = 0 then (
wc_b2 (wf_W_isOutside a4 0 10000 σ7) fun r11 σ10 =>
if r11 = 0 then (
if a1 = 0 then (
wf_W_table_84 a2 a3 a4 18 σ10) else (
wf_W_table_84 a2 a3 a4 22 σ10)) else (
wf_W_table_53  σ10)) else (
wf_W_table_53  σ7)) else (
wf_W_table_53  σ4)) else (
some (.inl (0, σ1)))
def wf_W_group_33 (σ : wc_S) : Option (wc_X (Int32 × wc_S)) :=
some (.inl (2, σ))
def wf_W_group (a1 : Int32) (a2 : Int32) (a3 : Int32) (σ : wc_S) : Option (wc_X (Int32 × wc_S)) :=
wc_b2 (wf_W_isOutside a1 1 2000 σ) fun r2 σ1 =>
if r2 = 0 then (
wc_b2 (wf_W_isOutside a2 a1 2000 σ1) fun r5 σ4 =>
if r5 = 0 then (
wc_b2 (wf_W_isOutside a3 1 1000 σ4) fun r8 σ7 =>
if r8 = 0 then (
wc_st (σ7 26 3) fun v10 =>
if v10 < 4 then (
wc_b1 (wf_W_forgetOrder σ7) fun σ12 =>
wc_b1 (wf_G_addGroup a1 a2 a3 σ12) fun σ13 =>
wc_st (σ13 26 3) fun v14 =>
some (.inr (v14, σ13))) else (
some (.inl (3, σ7)))) else (
wf_W_group_33  σ7)) else (
wf_W_group_33  σ4)) else (
wf_W_group_33  σ1)
def wf_W_urgent (a1 : Int32) (a2 : Int32) (σ : wc_S) : Option (wc_X wc_S) :=
wc_b2 (wf_W_isNoCoil a1 σ) fun r2 σ1 =>
if r2 = 0 then (
wc_b2 (wf_W_isOutside a2 0 8 σ1) fun r5 σ4 =>
if r5 = 0 then (
wc_b1 (wf_W_forgetOrder σ4) fun σ7 =>
wc_gd (wc_in a1 9) (
wc_st (wc_u σ7 6 a1.toNatClampNeg a2) fun σ9 =>
some (.inr σ9))) else (
some (.inl (2, σ4)))) else (
some (.inl (0, σ1)))
def wf_W_old (a1 : Int32) (a2 : Int32) (σ : wc_S) : Option (wc_X wc_S) :=
wc_b2 (wf_W_isNoCoil a1 σ) fun r2 σ1 =>
if r2 = 0 then (
wc_b2 (wf_W_isOutside a2 (-1) 8 σ1) fun r5 σ4 =>
if r5 = 0 then (
wc_b1 (wf_W_forgetOrder σ4) fun σ7 =>
wc_gd (wc_in a1 9) (
wc_st (wc_u σ7 7 a1.toNatClampNeg a2) fun σ9 =>
some (.inr σ9))) else (
some (.inl (2, σ4)))) else (
some (.inl (0, σ1)))
def wf_W_rules_44 (σ : wc_S) : Option (wc_X wc_S) :=
some (.inl (2, σ))
def wf_W_rules (a1 : Int32) (a2 : Int32) (a3 : Int32) (a4 : Int32) (σ : wc_S) : Option (wc_X wc_S) :=
wc_b2 (wf_W_isOutside a1 0 9 σ) fun r2 σ1 =>
if r2 = 0 then (
wc_b2 (wf_W_isOutside a2 1 1000 σ1) fun r5 σ4 =>
if r5 = 0 then (
wc_b2 (wf_W_isOutside a3 0 10000 σ4) fun r8 σ7 =>
if r8 = 0 then (
wc_b2 (wf_W_isOutside a4 0 10000 σ7) fun r11 σ10 =>
if r11 = 0 then (
wc_b1 (wf_W_forgetOrder σ10) fun σ13 =>
wc_st (wc_u σ13 1 11 a1) fun σ14 =>
wc_st (wc_u σ14 1 12 a2) fun σ15 =>
wc_st (wc_u σ15 1 13 a3) fun σ16 =>
wc_st (wc_u σ16 1 14 a4) fun σ17 =>
some (.inr σ17)) else (
wf_W_rules_44  σ10)) else (
wf_W_rules_44  σ7)) else (
wf_W_rules_44  σ4)) else (
wf_W_rules_44  σ1)
def wf_W_run (a1 : Int32) (σ : wc_S) : Option (wc_X (Int32 × wc_S)) :=
wc_b2 (wf_W_isOutside a1 0 100000 σ) fun r2 σ1 =>
if r2 = 0 then (
wc_b1 (wf_S_searchWith a1 σ1) fun σ4 =>
wc_st (wc_u σ4 0 6 1) fun σ5 =>
wc_st (σ5 68 5) fun v6 =>
wc_gd (wc_z v6) (
wc_st (wc_u σ5 0 5 v6) fun σ8 =>
wc_st (σ8 0 5) fun v9 =>
if v9 = 0 then (
some (.inr ((-1), σ8))) else (
wc_b2 (wf_L_layAll 49 69 σ8) fun r12 σ11 =>
wc_st (σ11 1 10) fun v13 =>
some (.inr (v13, σ11))))) else (
some (.inl (2, σ1)))
def wf_W_proved (σ : wc_S) : Option (wc_X (Int32 × wc_S)) :=
wc_st (σ 0 6) fun v1 =>
if v1 = 0 then (
some (.inl (1, σ))) else (
wc_st (σ 68 6) fun v3 =>
if v3 = 0 then (
some (.inr (1, σ))) else (
some (.inr (0, σ))))
def wf_W_order (a1 : Int32) (σ : wc_S) : Option (wc_X (Int32 × wc_S)) :=
wc_bx (wf_W_requireOrder σ) fun σ1 =>
wc_bx (wf_W_requirePlace a1 σ1) fun σ2 =>
wc_gd (wc_in a1 9) (
wc_st (σ2 50 a1.toNatClampNeg) fun v4 =>
some (.inr (v4, σ2)))
def wf_W_told (a1 : Int32) (σ : wc_S) : Option (wc_X (Int32 × wc_S)) :=
wc_b2 (wf_W_isOutside a1 0 2 σ) fun r2 σ1 =>
if r2 = 0 then (
wc_bx (wf_W_requireOrder σ1) fun σ4 =>
if a1 = 0 then (
wc_b2 (wf_L_penaltySoFar 49 σ4) fun r12 σ11 =>
some (.inr (r12, σ11))) else (
if a1 = 1 then (
wc_b2 (wf_L_changesSoFar 49 σ4) fun r10 σ9 =>
some (.inr (r10, σ9))) else (
wc_b2 (wf_L_movedSoFar 49 σ4) fun r8 σ7 =>
some (.inr (r8, σ7))))) else (
some (.inl (0, σ1)))
def wf_W_change (a1 : Int32) (σ : wc_S) : Option (wc_X (Int32 × wc_S)) :=
wc_bx (wf_W_requireOrder σ) fun σ1 =>
wc_bx (wf_W_requirePlace a1 σ1) fun σ2 =>
wc_gd (wc_in a1 9) (
wc_st (σ2 52 a1.toNatClampNeg) fun v4 =>
wc_gd (wc_z v4) (some (.inr (v4, σ2))))
def wf_W_jump_21 (σ : wc_S) : Option (wc_X (Int32 × wc_S)) :=
some (.inl (0, σ))
def wf_W_jump (a1 : Int32) (a2 : Int32) (σ : wc_S) : Option (wc_X (Int32 × wc_S)) :=
wc_b2 (wf_W_isNoCoil a1 σ) fun r2 σ1 =>
if r2 = 0 then (
wc_b2 (wf_W_isNoCoil a2 σ1) fun r5 σ4 =>
if r5 = 0 then (
if a1 = a2 then (
wf_W_jump_21  σ4) else (
wc_gd (wc_in a1 9) (
wc_gd (wc_in a2 9) (
wc_st (σ4 (9 + a1.toNatClampNeg) a2.toNatClampNeg) fun v10 =>
some (.inr (v10, σ4)))))) else (
wf_W_jump_21  σ4)) else (
wf_W_jump_21  σ1)
def wf_W_bound_6_b (k6 : Int32 → Int32 → Int32 → wc_S → Option (Int32 × wc_S)) (x1 : Int32) (x2 : Int32) (x3 : Int32) (σ : wc_S) : Option (Int32 × wc_S) :=
wc_st (σ 1 10) fun v1 =>
if v1 ≤ x3 then (
wc_st (x1 - x2) fun v3 =>
some (v3, σ)) else (
wc_b2 (wf_P_leastJumpTo x3 σ) fun r5 σ4 =>
wc_st (x1 + r5) fun v6 =>
wc_st (if x2 < r5 then r5 else x2) fun v7 =>
wc_st (x3 + 1) fun v8 =>
k6 v6 v7 v8 σ4)
def wf_W_bound_6 (n : Nat) : Int32 → Int32 → Int32 → wc_S → Option (Int32 × wc_S) := match n with
  | 0 => fun _ _ _ _ => none
  | n + 1 => wf_W_bound_6_b  (wf_W_bound_6  n)
def wf_W_bound (σ : wc_S) : Option (Int32 × wc_S) :=
wf_W_bound_6 16 0 0 0 σ
def wf_W_tell (a1 : Int64) (σ : wc_S) : Option (wc_X wc_S) :=
wc_b2 (wf_W_readIntoScratch a1 σ) fun r2 σ1 =>
if r2 = 0 then (
some (.inl (0, σ1))) else (
wc_b2 (wf_L_layAll 30 70 σ1) fun r5 σ4 =>
if r5 = 0 then (
some (.inl (3, σ4))) else (
wc_b2 (wf_L_layAll 49 70 σ4) fun r8 σ7 =>
wc_st (wc_u σ7 0 5 1) fun σ9 =>
some (.inr σ9)))
def wf_W_improve_26_b (k26 : Int32 → Int32 → wc_S → Option (wc_X (Int32 × wc_S))) (x1 : Int32) (x2 : Int32) (σ : wc_S) : Option (wc_X (Int32 × wc_S)) :=
if x1 ≤ x2 then (
some (.inr (x2, σ))) else (
wc_b2 (wf_W_takeFirstBetterPair σ) fun r7 σ6 =>
if r7 = 0 then (
some (.inr (x2, σ6))) else (
wc_st (x2 + 1) fun v9 =>
k26 x1 v9 σ6))
def wf_W_improve_26 (n : Nat) : Int32 → Int32 → wc_S → Option (wc_X (Int32 × wc_S)) := match n with
  | 0 => fun _ _ _ => none
  | n + 1 => wf_W_improve_26_b  (wf_W_improve_26  n)
def wf_W_improve (a1 : Int32) (σ : wc_S) : Option (wc_X (Int32 × wc_S)) :=
wc_bx (wf_W_requireOrder σ) fun σ1 =>
wc_b2 (wf_W_isOutside a1 0 100 σ1) fun r3 σ2 =>
if r3 = 0 then (
wf_W_improve_26 128 a1 0 σ2) else (
some (.inl (2, σ2)))
def wf_M_thrown (σ : wc_S) : Option (Int32 × wc_S) :=
wc_st (σ 71 0) fun v1 =>
some (v1, σ)
def wf_M_in (a0 : Int32) (a1 : Int32) (a2 : Int32) (σ : wc_S) : Option (Int32 × wc_S) :=
if a0 < a1 then (
some (0, σ)) else (
if a2 < a0 then (
some (0, σ)) else (
some (1, σ)))
def wf_M_goes_26 (s1 : Int32) (σ : wc_S) : Option (Int32 × wc_S) :=
wc_st (wc_u σ 71 0 s1) fun σ4 =>
wc_st (σ4 71 0) fun v5 =>
if v5 = 0 then (
some (1, σ4)) else (
some (0, σ4))
def wf_M_goes (a1 : Int32) (a2 : Int32) (a3 : Int32) (σ : wc_S) : Option (Int32 × wc_S) :=
if a1 = 0 then (
wf_M_goes_26 1 σ) else (
if a2 = 0 then (
wf_M_goes_26 2 σ) else (
if a3 = 0 then (
wf_M_goes_26 3 σ) else (
wf_M_goes_26 0 σ)))
def wf_M_gone (σ : wc_S) : Option wc_S :=
wc_st (wc_u σ 71 20 0) fun σ1 =>
wc_st (wc_u σ1 71 22 0) fun σ2 =>
some σ2
def wf_M_isCoil (a1 : Int32) (σ : wc_S) : Option (Int32 × wc_S) :=
wc_st (σ 71 1) fun v1 =>
wc_st (v1 - 1) fun v2 =>
wc_b2 (wf_M_in a1 0 v2 σ) fun r4 σ3 =>
wc_gd (wc_z r4) (some (r4, σ3))
def wf_M_coil_63 (x1 : Int32) (x2 : Int32) (x3 : Int32) (x4 : Int32) (s1 : Int32) (s2 : Int32) (σ : wc_S) : Option (Int32 × wc_S) :=
wc_b2 (wf_M_goes s1 s2 1 σ) fun r7 σ6 =>
if r7 = 0 then (
some (0, σ6)) else (
wc_st (σ6 71 1) fun v9 =>
wc_gd (wc_in v9 9) (
wc_st (wc_u σ6 72 v9.toNatClampNeg x1) fun σ11 =>
wc_st (σ11 71 1) fun v12 =>
wc_gd (wc_in v12 9) (
wc_st (wc_u σ11 73 v12.toNatClampNeg x2) fun σ14 =>
wc_st (σ14 71 1) fun v15 =>
wc_gd (wc_in v15 9) (
wc_st (wc_u σ14 74 v15.toNatClampNeg x3) fun σ17 =>
wc_st (σ17 71 1) fun v18 =>
wc_gd (wc_in v18 9) (
wc_st (wc_u σ17 75 v18.toNatClampNeg x4) fun σ20 =>
wc_st (σ20 71 1) fun v21 =>
wc_gd (wc_in v21 9) (
wc_st (wc_u σ20 76 v21.toNatClampNeg 8) fun σ23 =>
wc_st (σ23 71 1) fun v24 =>
wc_gd (wc_in v24 9) (
wc_st (wc_u σ23 77 v24.toNatClampNeg (-1)) fun σ26 =>
wc_st (σ26 71 1) fun v27 =>
wc_st (v27 + 1) fun v28 =>
wc_st (wc_u σ26 71 1 v28) fun σ29 =>
wc_b1 (wf_M_gone σ29) fun σ30 =>
wc_st (σ30 71 1) fun v31 =>
wc_st (v31 - 1) fun v32 =>
some (v32, σ30))))))))
def wf_M_coil_49 (x1 : Int32) (x2 : Int32) (x3 : Int32) (x4 : Int32) (s1 : Int32) (σ : wc_S) : Option (Int32 × wc_S) :=
wc_st (σ 71 1) fun v4 =>
if 9 ≤ v4 then (
wf_M_coil_63 x1 x2 x3 x4 s1 0 σ) else (
wf_M_coil_63 x1 x2 x3 x4 s1 1 σ)
def wf_M_coil_48 (x1 : Int32) (x2 : Int32) (x3 : Int32) (x4 : Int32) (σ : wc_S) : Option (Int32 × wc_S) :=
wf_M_coil_49 x1 x2 x3 x4 0 σ
def wf_M_coil (a1 : Int32) (a2 : Int32) (a3 : Int32) (a4 : Int32) (σ : wc_S) : Option (Int32 × wc_S) :=
wc_b2 (wf_M_in a1 1 2000 σ) fun r2 σ1 =>
if r2 = 0 then (
wf_M_coil_48 a1 a2 a3 a4 σ1) else (
wc_b2 (wf_M_in a2 1 1000 σ1) fun r34 σ33 =>
if r34 = 0 then (
wf_M_coil_48 a1 a2 a3 a4 σ33) else (
wc_b2 (wf_M_in a3 0 9 σ33) fun r37 σ36 =>
if r37 = 0 then (
wf_M_coil_48 a1 a2 a3 a4 σ36) else (
wc_b2 (wf_M_in a4 1 100 σ36) fun r40 σ39 =>
if r40 = 0 then (
wf_M_coil_48 a1 a2 a3 a4 σ39) else (
wf_M_coil_49 a1 a2 a3 a4 1 σ39))))
def wf_M_table_71 (x1 : Int32) (x2 : Int32) (x3 : Int32) (x4 : Int32) (s1 : Int32) (s2 : Int32) (s3 : Int32) (σ : wc_S) : Option (Int32 × wc_S) :=
wc_b2 (wf_M_goes s1 s2 s3 σ) fun r8 σ7 =>
if r8 = 0 then (
some (0, σ7)) else (
wc_st ((8 : Int32) * x1) fun v10 =>
wc_gd (wc_in x1 2) (
wc_st (σ7 78 x1.toNatClampNeg) fun v12 =>
wc_st (v10 + v12) fun v13 =>
wc_gd (wc_in v13 16) (
wc_st (wc_u σ7 79 v13.toNatClampNeg x2) fun σ15 =>
wc_gd (wc_in v13 16) (
wc_st (wc_u σ15 80 v13.toNatClampNeg x3) fun σ17 =>
wc_gd (wc_in v13 16) (
wc_st (wc_u σ17 81 v13.toNatClampNeg x4) fun σ19 =>
wc_gd (wc_in x1 2) (
wc_st (σ19 78 x1.toNatClampNeg) fun v21 =>
wc_st (v21 + 1) fun v22 =>
wc_gd (wc_in x1 2) (
wc_st (wc_u σ19 78 x1.toNatClampNeg v22) fun σ24 =>
wc_b1 (wf_M_gone σ24) fun σ25 =>
wc_gd (wc_in x1 2) (
wc_st (σ25 78 x1.toNatClampNeg) fun v27 =>
some (v27, σ25)))))))))
def wf_M_table_70 (x1 : Int32) (x2 : Int32) (x3 : Int32) (x4 : Int32) (s1 : Int32) (s2 : Int32) (σ : wc_S) : Option (Int32 × wc_S) :=
wf_M_table_71 x1 x2 x3 x4 s1 s2 0 σ
def wf_M_table_50 (x1 : Int32) (x2 : Int32) (x3 : Int32) (x4 : Int32) (x5 : Int32) (s1 : Int32) (s2 : Int32) (σ : wc_S) : Option (Int32 × wc_S) :=
if x5 = 0 then (
wf_M_table_70 x1 x2 x3 x4 s1 s2 σ) else (
wc_gd (wc_in x1 2) (
wc_st (σ 78 x1.toNatClampNeg) fun v29 =>
if 8 ≤ v29 then (
wf_M_table_70 x1 x2 x3 x4 s1 s2 σ) else (
wf_M_table_71 x1 x2 x3 x4 s1 s2 1 σ)))
def wf_M_table_49 (x1 : Int32) (x2 : Int32) (x3 : Int32) (x4 : Int32) (x5 : Int32) (s1 : Int32) (σ : wc_S) : Option (Int32 × wc_S) :=
wf_M_table_50 x1 x2 x3 x4 x5 s1 0 σ
def wf_M_table (a1 : Int32) (a2 : Int32) (a3 : Int32) (a4 : Int32) (σ : wc_S) : Option (Int32 × wc_S) :=
wc_b2 (wf_M_in a1 0 1 σ) fun r2 σ1 =>
wc_b2 (wf_M_in a2 0 1000 σ1) fun r4 σ3 =>
if r4 = 0 then (
wf_M_table_49 a1 a2 a3 a4 r2 r2 σ3) else (
wc_b2 (wf_M_in a3 a2 1000 σ3) fun r32 σ31 =>
if r32 = 0 then (
wf_M_table_49 a1 a2 a3 a4 r2 r2 σ31) else (
wc_b2 (wf_M_in a4 0 10000 σ31) fun r35 σ34 =>
if r35 = 0 then (
wf_M_table_49 a1 a2 a3 a4 r2 r2 σ34) else (
wf_M_table_50 a1 a2 a3 a4 r2 r2 1 σ34)))
def wf_M_group_52 (x1 : Int32) (x2 : Int32) (x3 : Int32) (s1 : Int32) (s2 : Int32) (σ : wc_S) : Option (Int32 × wc_S) :=
wc_b2 (wf_M_goes s1 s2 1 σ) fun r7 σ6 =>
if r7 = 0 then (
some (0, σ6)) else (
wc_st (σ6 71 12) fun v9 =>
wc_gd (wc_in v9 4) (
wc_st (wc_u σ6 82 v9.toNatClampNeg x1) fun σ11 =>
wc_st (σ11 71 12) fun v12 =>
wc_gd (wc_in v12 4) (
wc_st (wc_u σ11 83 v12.toNatClampNeg x2) fun σ14 =>
wc_st (σ14 71 12) fun v15 =>
wc_gd (wc_in v15 4) (
wc_st (wc_u σ14 84 v15.toNatClampNeg x3) fun σ17 =>
wc_st (σ17 71 12) fun v18 =>
wc_st (v18 + 1) fun v19 =>
wc_st (wc_u σ17 71 12 v19) fun σ20 =>
wc_b1 (wf_M_gone σ20) fun σ21 =>
wc_st (σ21 71 12) fun v22 =>
some (v22, σ21)))))
def wf_M_group_39 (x1 : Int32) (x2 : Int32) (x3 : Int32) (s1 : Int32) (σ : wc_S) : Option (Int32 × wc_S) :=
wc_st (σ 71 12) fun v4 =>
if 4 ≤ v4 then (
wf_M_group_52 x1 x2 x3 s1 0 σ) else (
wf_M_group_52 x1 x2 x3 s1 1 σ)
def wf_M_group_38 (x1 : Int32) (x2 : Int32) (x3 : Int32) (σ : wc_S) : Option (Int32 × wc_S) :=
wf_M_group_39 x1 x2 x3 0 σ
def wf_M_group (a1 : Int32) (a2 : Int32) (a3 : Int32) (σ : wc_S) : Option (Int32 × wc_S) :=
wc_b2 (wf_M_in a1 1 2000 σ) fun r2 σ1 =>
if r2 = 0 then (
wf_M_group_38 a1 a2 a3 σ1) else (
wc_b2 (wf_M_in a2 a1 2000 σ1) fun r24 σ23 =>
if r24 = 0 then (
wf_M_group_38 a1 a2 a3 σ23) else (
wc_b2 (wf_M_in a3 1 1000 σ23) fun r27 σ26 =>
if r27 = 0 then (
wf_M_group_38 a1 a2 a3 σ26) else (
wf_M_group_39 a1 a2 a3 1 σ26)))
def wf_M_urgent (a1 : Int32) (a2 : Int32) (σ : wc_S) : Option wc_S :=
wc_b2 (wf_M_isCoil a1 σ) fun r2 σ1 =>
wc_b2 (wf_M_in a2 0 8 σ1) fun r4 σ3 =>
wc_b2 (wf_M_goes r2 r4 1 σ3) fun r6 σ5 =>
if r6 = 0 then (
some σ5) else (
wc_gd (wc_in a1 9) (
wc_st (wc_u σ5 76 a1.toNatClampNeg a2) fun σ9 =>
wc_b1 (wf_M_gone σ9) fun σ10 =>
some σ10))
def wf_M_old (a1 : Int32) (a2 : Int32) (σ : wc_S) : Option wc_S :=
wc_b2 (wf_M_isCoil a1 σ) fun r2 σ1 =>
wc_b2 (wf_M_in a2 (-1) 8 σ1) fun r4 σ3 =>
wc_b2 (wf_M_goes r2 r4 1 σ3) fun r6 σ5 =>
if r6 = 0 then (
some σ5) else (
wc_gd (wc_in a1 9) (
wc_st (wc_u σ5 77 a1.toNatClampNeg a2) fun σ9 =>
wc_b1 (wf_M_gone σ9) fun σ10 =>
some σ10))
def wf_M_rules_50 (x1 : Int32) (x2 : Int32) (x3 : Int32) (x4 : Int32) (s1 : Int32) (σ : wc_S) : Option wc_S :=
wc_b2 (wf_M_goes s1 1 1 σ) fun r5 σ4 =>
if r5 = 0 then (
some σ4) else (
wc_st (wc_u σ4 71 16 x1) fun σ7 =>
wc_st (wc_u σ7 71 17 x2) fun σ8 =>
wc_st (wc_u σ8 71 18 x3) fun σ9 =>
wc_st (wc_u σ9 71 19 x4) fun σ10 =>
wc_b1 (wf_M_gone σ10) fun σ11 =>
some σ11)
def wf_M_rules_49 (x1 : Int32) (x2 : Int32) (x3 : Int32) (x4 : Int32) (σ : wc_S) : Option wc_S :=
wf_M_rules_50 x1 x2 x3 x4 0 σ
def wf_M_rules (a1 : Int32) (a2 : Int32) (a3 : Int32) (a4 : Int32) (σ : wc_S) : Option wc_S :=
wc_b2 (wf_M_in a1 0 9 σ) fun r2 σ1 =>
if r2 = 0 then (
wf_M_rules_49 a1 a2 a3 a4 σ1) else (
wc_b2 (wf_M_in a2 1 1000 σ1) fun r13 σ12 =>
if r13 = 0 then (
wf_M_rules_49 a1 a2 a3 a4 σ12) else (
wc_b2 (wf_M_in a3 0 10000 σ12) fun r16 σ15 =>
if r16 = 0 then (
wf_M_rules_49 a1 a2 a3 a4 σ15) else (
wc_b2 (wf_M_in a4 0 10000 σ15) fun r19 σ18 =>
if r19 = 0 then (
wf_M_rules_49 a1 a2 a3 a4 σ18) else (
wf_M_rules_50 a1 a2 a3 a4 1 σ18))))
def wf_M_costOf_63 (k17 : Int32 → Int32 → Int32 → wc_S → Option (Int32 × wc_S)) (x1 : Int32) (x3 : Int32) (x4 : Int32) (σ : wc_S) : Option (Int32 × wc_S) :=
wc_st (x4 + 1) fun v14 =>
k17 x1 x3 v14 σ
def wf_M_costOf_17_b (k17 : Int32 → Int32 → Int32 → wc_S → Option (Int32 × wc_S)) (x1 : Int32) (x3 : Int32) (x4 : Int32) (σ : wc_S) : Option (Int32 × wc_S) :=
wc_st ((8 : Int32) * x1) fun v3 =>
wc_gd (wc_in x1 2) (
wc_st (σ 78 x1.toNatClampNeg) fun v5 =>
wc_st (v3 + v5) fun v6 =>
if v6 ≤ x4 then (
wc_gd (wc_in x1 2) (
wc_st (σ 78 x1.toNatClampNeg) fun v9 =>
if v9 = 0 then (
some (0, σ)) else (
some ((-1), σ)))) else (
wc_gd (wc_in x4 16) (
wc_st (σ 79 x4.toNatClampNeg) fun v12 =>
if x3 < v12 then (
wf_M_costOf_63 k17 x1 x3 x4 σ) else (
wc_gd (wc_in x4 16) (
wc_st (σ 80 x4.toNatClampNeg) fun v16 =>
if v16 < x3 then (
wf_M_costOf_63 k17 x1 x3 x4 σ) else (
wc_gd (wc_in x4 16) (
wc_st (σ 81 x4.toNatClampNeg) fun v19 =>
some (v19, σ))))))))
def wf_M_costOf_17 (n : Nat) : Int32 → Int32 → Int32 → wc_S → Option (Int32 × wc_S) := match n with
  | 0 => fun _ _ _ _ => none
  | n + 1 => wf_M_costOf_17_b  (wf_M_costOf_17  n)
def wf_M_costOf_10 (x1 : Int32) (s0 : Int32) (σ : wc_S) : Option (Int32 × wc_S) :=
wc_st ((8 : Int32) * x1) fun v2 =>
wf_M_costOf_17 16 x1 s0 v2 σ
def wf_M_costOf (a1 : Int32) (a2 : Int32) (σ : wc_S) : Option (Int32 × wc_S) :=
if 0 ≤ a2 then (
wf_M_costOf_10 a1 a2 σ) else (
wc_st (-a2) fun v20 =>
wf_M_costOf_10 a1 v20 σ)
def wf_M_jumpOf (a1 : Int32) (a2 : Int32) (σ : wc_S) : Option (Int32 × wc_S) :=
wc_gd (wc_in a2 9) (
wc_st (σ 74 a2.toNatClampNeg) fun v2 =>
wc_gd (wc_in a1 9) (
wc_st (σ 74 a1.toNatClampNeg) fun v4 =>
wc_st (v2 - v4) fun v5 =>
wc_b2 (wf_M_costOf 0 v5 σ) fun r7 σ6 =>
wc_gd (wc_in a2 9) (
wc_st (σ6 73 a2.toNatClampNeg) fun v9 =>
wc_gd (wc_in a1 9) (
wc_st (σ6 73 a1.toNatClampNeg) fun v11 =>
wc_st (v9 - v11) fun v12 =>
wc_b2 (wf_M_costOf 1 v12 σ6) fun r14 σ13 =>
if r7 < 0 then (
some ((-1), σ13)) else (
if 0 ≤ r14 then (
wc_st (r7 + r14) fun v17 =>
some (v17, σ13)) else (
some ((-1), σ13)))))))
def wf_M_mayBe (k1 : Nat) (a2 : Int32) (σ : wc_S) : Option (Int32 × wc_S) :=
wc_gd (wc_in a2 9) (
wc_st (σ k1 a2.toNatClampNeg) fun v2 =>
wc_gd (wc_in v2 9) (
wc_st (σ 76 v2.toNatClampNeg) fun v4 =>
if a2 ≤ v4 then (
if a2 = 0 then (
some (1, σ)) else (
wc_st (a2 - 1) fun v7 =>
wc_gd (wc_in v7 9) (
wc_st (σ k1 v7.toNatClampNeg) fun v9 =>
wc_b2 (wf_M_jumpOf v9 v2 σ) fun r11 σ10 =>
if 0 ≤ r11 then (
wc_st (σ10 71 16) fun v13 =>
if v13 ≤ a2 then (
wc_gd (wc_in v2 9) (
wc_st (σ10 72 v2.toNatClampNeg) fun v16 =>
wc_gd (wc_in v9 9) (
wc_st (σ10 72 v9.toNatClampNeg) fun v18 =>
if v18 < v16 then (
some (0, σ10)) else (
some (1, σ10))))) else (
wc_gd (wc_in v2 9) (
wc_st (σ10 72 v2.toNatClampNeg) fun v21 =>
wc_gd (wc_in v9 9) (
wc_st (σ10 72 v9.toNatClampNeg) fun v23 =>
if v21 < v23 then (
some (0, σ10)) else (
some (1, σ10)))))) else (
some (0, σ10))))) else (
some (0, σ))))
def wf_M_isWorn_187 (k1 : Nat) (k46 : Int32 → Int32 → Int32 → wc_S → Option (Int32 × wc_S)) (x2 : Int32) (x3 : Int32) (x5 : Int32) (σ : wc_S) : Option (Int32 × wc_S) :=
wc_st (x5 + 1) fun v15 =>
k46 x2 x3 v15 σ
def wf_M_isWorn_162 (k1 : Nat) (k46 : Int32 → Int32 → Int32 → wc_S → Option (Int32 × wc_S)) (k104 : Int32 → Int32 → Int32 → Int32 → Int32 → Int32 → wc_S → Option (Int32 × wc_S)) (x2 : Int32) (x3 : Int32) (x5 : Int32) (x6 : Int32) (x7 : Int32) (x8 : Int32) (σ : wc_S) : Option (Int32 × wc_S) :=
wc_st (x8 + 1) fun v26 =>
k104 x2 x3 x5 x6 x7 v26 σ
def wf_M_isWorn_104_b (k1 : Nat) (k46 : Int32 → Int32 → Int32 → wc_S → Option (Int32 × wc_S)) (k104 : Int32 → Int32 → Int32 → Int32 → Int32 → Int32 → wc_S → Option (Int32 × wc_S)) (x2 : Int32) (x3 : Int32) (x5 : Int32) (x6 : Int32) (x7 : Int32) (x8 : Int32) (σ : wc_S) : Option (Int32 × wc_S) :=
if x3 < x8 then (
if x6 = 0 then (
wf_M_isWorn_187 k1 k46 x2 x3 x5 σ) else (
wc_gd (wc_in x5 4) (
wc_st (σ 84 x5.toNatClampNeg) fun v17 =>
if x7 ≤ v17 then (
wf_M_isWorn_187 k1 k46 x2 x3 x5 σ) else (
some (1, σ))))) else (
wc_gd (wc_in x8 9) (
wc_st (σ k1 x8.toNatClampNeg) fun v20 =>
wc_gd (wc_in v20 9) (
wc_st (σ 72 v20.toNatClampNeg) fun v22 =>
wc_gd (wc_in x5 4) (
wc_st (σ 82 x5.toNatClampNeg) fun v24 =>
if v22 < v24 then (
wf_M_isWorn_162 k1 k46 k104 x2 x3 x5 x6 x7 x8 σ) else (
wc_gd (wc_in x8 9) (
wc_st (σ k1 x8.toNatClampNeg) fun v28 =>
wc_gd (wc_in v28 9) (
wc_st (σ 72 v28.toNatClampNeg) fun v30 =>
wc_gd (wc_in x5 4) (
wc_st (σ 83 x5.toNatClampNeg) fun v32 =>
if v32 < v30 then (
wf_M_isWorn_162 k1 k46 k104 x2 x3 x5 x6 x7 x8 σ) else (
wc_gd (wc_in x8 9) (
wc_st (σ k1 x8.toNatClampNeg) fun v35 =>
wc_gd (wc_in v35 9) (
wc_st (σ 75 v35.toNatClampNeg) fun v37 =>
wc_st (x7 + v37) fun v38 =>
wf_M_isWorn_162 k1 k46 k104 x2 x3 x5 x6 v38 x8 σ)))))))))))
def wf_M_isWorn_104 (k1 : Nat) (k46 : Int32 → Int32 → Int32 → wc_S → Option (Int32 × wc_S)) (n : Nat) : Int32 → Int32 → Int32 → Int32 → Int32 → Int32 → wc_S → Option (Int32 × wc_S) := match n with
  | 0 => fun _ _ _ _ _ _ _ => none
  | n + 1 => wf_M_isWorn_104_b k1 k46 (wf_M_isWorn_104 k1 k46 n)
def wf_M_isWorn_96 (k1 : Nat) (k46 : Int32 → Int32 → Int32 → wc_S → Option (Int32 × wc_S)) (x2 : Int32) (x3 : Int32) (x5 : Int32) (s0 : Int32) (σ : wc_S) : Option (Int32 × wc_S) :=
wf_M_isWorn_104 k1 k46 16 x2 x3 x5 s0 0 x2 σ
def wf_M_isWorn_95 (k1 : Nat) (k46 : Int32 → Int32 → Int32 → wc_S → Option (Int32 × wc_S)) (x2 : Int32) (x3 : Int32) (x5 : Int32) (σ : wc_S) : Option (Int32 × wc_S) :=
wf_M_isWorn_96 k1 k46 x2 x3 x5 0 σ
def wf_M_isWorn_46_b (k1 : Nat) (k46 : Int32 → Int32 → Int32 → wc_S → Option (Int32 × wc_S)) (x2 : Int32) (x3 : Int32) (x5 : Int32) (σ : wc_S) : Option (Int32 × wc_S) :=
wc_st (σ 71 12) fun v4 =>
if v4 ≤ x5 then (
some (0, σ)) else (
wc_gd (wc_in x3 9) (
wc_st (σ k1 x3.toNatClampNeg) fun v7 =>
wc_gd (wc_in v7 9) (
wc_st (σ 72 v7.toNatClampNeg) fun v9 =>
wc_gd (wc_in x5 4) (
wc_st (σ 82 x5.toNatClampNeg) fun v11 =>
if v9 < v11 then (
wf_M_isWorn_95 k1 k46 x2 x3 x5 σ) else (
wc_gd (wc_in x3 9) (
wc_st (σ k1 x3.toNatClampNeg) fun v40 =>
wc_gd (wc_in v40 9) (
wc_st (σ 72 v40.toNatClampNeg) fun v42 =>
wc_gd (wc_in x5 4) (
wc_st (σ 83 x5.toNatClampNeg) fun v44 =>
if v44 < v42 then (
wf_M_isWorn_95 k1 k46 x2 x3 x5 σ) else (
wf_M_isWorn_96 k1 k46 x2 x3 x5 1 σ)))))))))
def wf_M_isWorn_46 (k1 : Nat) (n : Nat) : Int32 → Int32 → Int32 → wc_S → Option (Int32 × wc_S) := match n with
  | 0 => fun _ _ _ _ => none
  | n + 1 => wf_M_isWorn_46_b k1 (wf_M_isWorn_46 k1 n)
def wf_M_isWorn_6_b (k1 : Nat) (k6 : Int32 → Int32 → Int32 → Int32 → wc_S → Option (Int32 × wc_S)) (x2 : Int32) (x3 : Int32) (x4 : Int32) (x5 : Int32) (σ : wc_S) : Option (Int32 × wc_S) :=
if x3 < x5 then (
wc_st (σ 71 17) fun v2 =>
if x4 ≤ v2 then (
wf_M_isWorn_46 k1 16 x2 x3 0 σ) else (
some (1, σ))) else (
wc_gd (wc_in x5 9) (
wc_st (σ k1 x5.toNatClampNeg) fun v47 =>
wc_gd (wc_in v47 9) (
wc_st (σ 75 v47.toNatClampNeg) fun v49 =>
wc_st (x4 + v49) fun v50 =>
wc_st (x5 + 1) fun v51 =>
k6 x2 x3 v50 v51 σ)))
def wf_M_isWorn_6 (k1 : Nat) (n : Nat) : Int32 → Int32 → Int32 → Int32 → wc_S → Option (Int32 × wc_S) := match n with
  | 0 => fun _ _ _ _ _ => none
  | n + 1 => wf_M_isWorn_6_b k1 (wf_M_isWorn_6 k1 n)
def wf_M_isWorn (k1 : Nat) (a2 : Int32) (a3 : Int32) (σ : wc_S) : Option (Int32 × wc_S) :=
wf_M_isWorn_6 k1 16 a2 a3 0 a2 σ
def wf_M_reckon_167 (k1 : Nat) (k20 : Int32 → Int32 → Int32 → wc_S → Option wc_S) (x2 : Int32) (x3 : Int32) (x4 : Int32) (σ : wc_S) : Option wc_S :=
wc_st (x4 + 1) fun v17 =>
k20 x2 x3 v17 σ
def wf_M_reckon_118 (k1 : Nat) (k20 : Int32 → Int32 → Int32 → wc_S → Option wc_S) (x2 : Int32) (x3 : Int32) (x4 : Int32) (σ : wc_S) : Option wc_S :=
wc_gd (wc_in x4 9) (
wc_st (σ k1 x4.toNatClampNeg) fun v13 =>
wc_gd (wc_in v13 9) (
wc_st (σ 77 v13.toNatClampNeg) fun v15 =>
if v15 < 0 then (
wf_M_reckon_167 k1 k20 x2 x3 x4 σ) else (
wc_gd (wc_in x4 9) (
wc_st (σ k1 x4.toNatClampNeg) fun v19 =>
wc_gd (wc_in v19 9) (
wc_st (σ 77 v19.toNatClampNeg) fun v21 =>
if v21 = x4 then (
wf_M_reckon_167 k1 k20 x2 x3 x4 σ) else (
wc_st (σ 71 27) fun v23 =>
wc_st (v23 + 1) fun v24 =>
wc_st (wc_u σ 71 27 v24) fun σ25 =>
wc_st (σ25 71 25) fun v26 =>
wc_st (σ25 71 19) fun v27 =>
wc_st (v26 + v27) fun v28 =>
wc_st (wc_u σ25 71 25 v28) fun σ29 =>
wf_M_reckon_167 k1 k20 x2 x3 x4 σ29))))))
def wf_M_reckon_90 (k1 : Nat) (k20 : Int32 → Int32 → Int32 → wc_S → Option wc_S) (x2 : Int32) (x3 : Int32) (x4 : Int32) (σ : wc_S) : Option wc_S :=
if x4 ≤ 0 then (
wf_M_reckon_118 k1 k20 x2 x3 x4 σ) else (
wc_st (σ 71 25) fun v30 =>
wc_st (x4 - 1) fun v31 =>
wc_gd (wc_in v31 9) (
wc_st (σ k1 v31.toNatClampNeg) fun v33 =>
wc_gd (wc_in x4 9) (
wc_st (σ k1 x4.toNatClampNeg) fun v35 =>
wc_b2 (wf_M_jumpOf v33 v35 σ) fun r37 σ36 =>
wc_st (v30 + r37) fun v38 =>
wc_st (wc_u σ36 71 25 v38) fun σ39 =>
wf_M_reckon_118 k1 k20 x2 x3 x4 σ39)))
def wf_M_reckon_53 (k1 : Nat) (k20 : Int32 → Int32 → Int32 → wc_S → Option wc_S) (x2 : Int32) (x3 : Int32) (x4 : Int32) (s1 : Int32) (s2 : Int32) (σ : wc_S) : Option wc_S :=
wc_gd (wc_in s1 9) (
wc_st (wc_u σ 87 s1.toNatClampNeg (vp_nar .boolean s2)) fun σ7 =>
wc_gd (wc_in x4 9) (
wc_st (σ7 87 x4.toNatClampNeg) fun v9 =>
if v9 = 0 then (
wf_M_reckon_90 k1 k20 x2 x3 x4 σ7) else (
wc_st (σ7 71 26) fun v40 =>
wc_st (v40 + 1) fun v41 =>
wc_st (wc_u σ7 71 26 v41) fun σ42 =>
wc_st (σ42 71 25) fun v43 =>
wc_st (σ42 71 18) fun v44 =>
wc_st (v43 + v44) fun v45 =>
wc_st (wc_u σ42 71 25 v45) fun σ46 =>
wf_M_reckon_90 k1 k20 x2 x4 x4 σ46)))
def wf_M_reckon_52 (k1 : Nat) (k20 : Int32 → Int32 → Int32 → wc_S → Option wc_S) (x2 : Int32) (x3 : Int32) (x4 : Int32) (s1 : Int32) (σ : wc_S) : Option wc_S :=
wf_M_reckon_53 k1 k20 x2 x3 x4 s1 0 σ
def wf_M_reckon_20_b (k1 : Nat) (k20 : Int32 → Int32 → Int32 → wc_S → Option wc_S) (x2 : Int32) (x3 : Int32) (x4 : Int32) (σ : wc_S) : Option wc_S :=
if x2 ≤ x4 then (
some σ) else (
if x4 ≤ 0 then (
wf_M_reckon_52 k1 k20 x2 x3 x4 x4 σ) else (
wc_b2 (wf_M_isWorn k1 x3 x4 σ) fun r48 σ47 =>
if r48 = 0 then (
wf_M_reckon_52 k1 k20 x2 x3 x4 x4 σ47) else (
wf_M_reckon_53 k1 k20 x2 x3 x4 x4 1 σ47)))
def wf_M_reckon_20 (k1 : Nat) (n : Nat) : Int32 → Int32 → Int32 → wc_S → Option wc_S := match n with
  | 0 => fun _ _ _ _ => none
  | n + 1 => wf_M_reckon_20_b k1 (wf_M_reckon_20 k1 n)
def wf_M_reckon (k1 : Nat) (a2 : Int32) (σ : wc_S) : Option wc_S :=
wc_st (wc_u σ 71 25 0) fun σ1 =>
wc_st (wc_u σ1 71 26 0) fun σ2 =>
wc_st (wc_u σ2 71 27 0) fun σ3 =>
wf_M_reckon_20 k1 16 a2 0 0 σ3
def wf_M_stands_2_b (k2 : Int32 → Int32 → Int32 → wc_S → Option (Int32 × wc_S)) (x1 : Int32) (x2 : Int32) (x3 : Int32) (σ : wc_S) : Option (Int32 × wc_S) :=
if x2 ≤ x3 then (
some (0, σ)) else (
wc_gd (wc_in x3 9) (
wc_st (σ 86 x3.toNatClampNeg) fun v3 =>
if v3 = x1 then (
some (1, σ)) else (
wc_st (x3 + 1) fun v5 =>
k2 x1 x2 v5 σ)))
def wf_M_stands_2 (n : Nat) : Int32 → Int32 → Int32 → wc_S → Option (Int32 × wc_S) := match n with
  | 0 => fun _ _ _ _ => none
  | n + 1 => wf_M_stands_2_b  (wf_M_stands_2  n)
def wf_M_stands (a1 : Int32) (a2 : Int32) (σ : wc_S) : Option (Int32 × wc_S) :=
wf_M_stands_2 16 a1 a2 0 σ
def wf_M_run_291 (σ : wc_S) : Option (Int32 × wc_S) :=
wc_st (σ 71 22) fun v14 =>
if v14 = 0 then (
some ((-1), σ)) else (
wc_st (σ 71 1) fun v16 =>
some (v16, σ))
def wf_M_run_89 (k61 : Int32 → Int32 → Int32 → wc_S → Option (Int32 × wc_S)) (x2 : Int32) (x3 : Int32) (x4 : Int32) (σ : wc_S) : Option (Int32 × wc_S) :=
wc_st (x4 + (-1)) fun v19 =>
if v19 < 0 then (
k61 x2 x3 v19 σ) else (
wc_gd (wc_in v19 9) (
wc_st (σ 86 v19.toNatClampNeg) fun v22 =>
wc_st (v22 + 1) fun v23 =>
wc_gd (wc_in v19 9) (
wc_st (wc_u σ 86 v19.toNatClampNeg v23) fun σ25 =>
k61 x2 x3 v19 σ25)))
def wf_M_run_140 (k61 : Int32 → Int32 → Int32 → wc_S → Option (Int32 × wc_S)) (x2 : Int32) (x3 : Int32) (x4 : Int32) (σ : wc_S) : Option (Int32 × wc_S) :=
wc_gd (wc_in x4 9) (
wc_st (σ 86 x4.toNatClampNeg) fun v36 =>
wc_st (v36 + 1) fun v37 =>
wc_gd (wc_in x4 9) (
wc_st (wc_u σ 86 x4.toNatClampNeg v37) fun σ39 =>
k61 x2 x3 x4 σ39))
def wf_M_run_234_b (k61 : Int32 → Int32 → Int32 → wc_S → Option (Int32 × wc_S)) (k234 : Int32 → Int32 → Int32 → Int32 → wc_S → Option (Int32 × wc_S)) (x2 : Int32) (x3 : Int32) (x4 : Int32) (x5 : Int32) (σ : wc_S) : Option (Int32 × wc_S) :=
wc_st (σ 71 1) fun v57 =>
if v57 ≤ x5 then (
wc_gd (wc_in x4 9) (
wc_st (σ 86 x4.toNatClampNeg) fun v60 =>
wc_st (v60 + 1) fun v61 =>
wc_gd (wc_in x4 9) (
wc_st (wc_u σ 86 x4.toNatClampNeg v61) fun σ63 =>
k61 x2 x3 x4 σ63))) else (
wc_gd (wc_in x5 9) (
wc_st (σ 86 x5.toNatClampNeg) fun v65 =>
wc_gd (wc_in x5 9) (
wc_st (wc_u σ 85 x5.toNatClampNeg v65) fun σ67 =>
wc_st (x5 + 1) fun v68 =>
k234 x2 x3 x4 v68 σ67)))
def wf_M_run_234 (k61 : Int32 → Int32 → Int32 → wc_S → Option (Int32 × wc_S)) (n : Nat) : Int32 → Int32 → Int32 → Int32 → wc_S → Option (Int32 × wc_S) := match n with
  | 0 => fun _ _ _ _ _ => none
  | n + 1 => wf_M_run_234_b k61 (wf_M_run_234 k61 n)
def wf_M_run_210 (k61 : Int32 → Int32 → Int32 → wc_S → Option (Int32 × wc_S)) (x2 : Int32) (x3 : Int32) (x4 : Int32) (σ : wc_S) : Option (Int32 × wc_S) :=
wc_st (σ 71 1) fun v49 =>
wc_st (v49 - 1) fun v50 =>
if x4 = v50 then (
wc_st (wc_u σ 71 22 1) fun σ55 =>
wc_st (σ55 71 25) fun v56 =>
wf_M_run_234 k61 16 v56 x3 x4 0 σ55) else (
wc_st (x4 + 1) fun v52 =>
wc_gd (wc_in v52 9) (
wc_st (wc_u σ 86 v52.toNatClampNeg 0) fun σ54 =>
k61 x2 x3 v52 σ54))
def wf_M_run_61_b (k61 : Int32 → Int32 → Int32 → wc_S → Option (Int32 × wc_S)) (x2 : Int32) (x3 : Int32) (x4 : Int32) (σ : wc_S) : Option (Int32 × wc_S) :=
if x4 < 0 then (
wf_M_run_291  σ) else (
wc_st (σ 71 1) fun v17 =>
if x4 = v17 then (
wf_M_run_89 k61 x2 x3 x4 σ) else (
wc_gd (wc_in x4 9) (
wc_st (σ 86 x4.toNatClampNeg) fun v27 =>
wc_st (σ 71 1) fun v28 =>
if v27 = v28 then (
wf_M_run_89 k61 x2 x3 x4 σ) else (
wc_gd (wc_in x4 9) (
wc_st (σ 86 x4.toNatClampNeg) fun v31 =>
wc_b2 (wf_M_stands v31 x4 σ) fun r33 σ32 =>
if r33 = 0 then (
wc_b2 (wf_M_mayBe 86 x4 σ32) fun r41 σ40 =>
if r41 = 0 then (
wf_M_run_140 k61 x2 x3 x4 σ40) else (
if x3 = 0 then (
wc_st (wc_u σ40 71 21 0) fun σ76 =>
wf_M_run_291  σ76) else (
wc_st (x3 + (-1)) fun v44 =>
wc_st (x4 + 1) fun v45 =>
wc_b1 (wf_M_reckon 86 v45 σ40) fun σ46 =>
wc_st (σ46 71 22) fun v47 =>
if v47 = 0 then (
wf_M_run_210 k61 x2 v44 x4 σ46) else (
wc_st (σ46 71 25) fun v69 =>
if v69 < x2 then (
wf_M_run_210 k61 x2 v44 x4 σ46) else (
wc_gd (wc_in x4 9) (
wc_st (σ46 86 x4.toNatClampNeg) fun v72 =>
wc_st (v72 + 1) fun v73 =>
wc_gd (wc_in x4 9) (
wc_st (wc_u σ46 86 x4.toNatClampNeg v73) fun σ75 =>
k61 x2 v44 x4 σ75))))))) else (
wf_M_run_140 k61 x2 x3 x4 σ32))))))
def wf_M_run_61 (n : Nat) : Int32 → Int32 → Int32 → wc_S → Option (Int32 × wc_S) := match n with
  | 0 => fun _ _ _ _ => none
  | n + 1 => wf_M_run_61_b  (wf_M_run_61  n)
def wf_M_run (a1 : Int32) (σ : wc_S) : Option (Int32 × wc_S) :=
wc_b2 (wf_M_in a1 0 100000 σ) fun r2 σ1 =>
wc_b2 (wf_M_goes r2 1 1 σ1) fun r4 σ3 =>
if r4 = 0 then (
some (0, σ3)) else (
wc_st (wc_u σ3 71 20 1) fun σ6 =>
wc_st (wc_u σ6 71 22 0) fun σ7 =>
wc_st (wc_u σ7 71 21 1) fun σ8 =>
wc_gd (wc_in 0 9) (
wc_st (wc_u σ8 86 ((0 : Int32).toNatClampNeg) 0) fun σ10 =>
wc_st (σ10 71 1) fun v11 =>
if v11 = 0 then (
wc_st (wc_u σ10 71 22 1) fun σ77 =>
some (0, σ77)) else (
wf_M_run_61 wc_big 0 a1 0 σ10)))
def wf_M_proved (σ : wc_S) : Option (Int32 × wc_S) :=
wc_st (σ 71 20) fun v1 =>
wc_b2 (wf_M_goes v1 1 1 σ) fun r3 σ2 =>
if r3 = 0 then (
some (0, σ2)) else (
wc_st (σ2 71 21) fun v5 =>
if v5 = 0 then (
some (0, σ2)) else (
some (1, σ2)))
def wf_M_order_31 (x1 : Int32) (s1 : Int32) (σ : wc_S) : Option (Int32 × wc_S) :=
wc_st (wc_u σ 71 0 s1) fun σ8 =>
wc_st (σ8 71 0) fun v9 =>
if v9 ≤ 0 then (
wc_gd (wc_in x1 9) (
wc_st (σ8 85 x1.toNatClampNeg) fun v12 =>
some (v12, σ8))) else (
some (0, σ8))
def wf_M_order (a1 : Int32) (σ : wc_S) : Option (Int32 × wc_S) :=
wc_st (σ 71 22) fun v1 =>
if v1 = 0 then (
wf_M_order_31 a1 2 σ) else (
wc_st (σ 71 1) fun v3 =>
wc_st (v3 - 1) fun v4 =>
wc_b2 (wf_M_in a1 0 v4 σ) fun r6 σ5 =>
if r6 = 0 then (
wf_M_order_31 a1 1 σ5) else (
wf_M_order_31 a1 0 σ5))
def wf_M_told (a1 : Int32) (σ : wc_S) : Option (Int32 × wc_S) :=
wc_b2 (wf_M_in a1 0 2 σ) fun r2 σ1 =>
wc_st (σ1 71 22) fun v3 =>
wc_b2 (wf_M_goes r2 v3 1 σ1) fun r5 σ4 =>
if r5 = 0 then (
some (0, σ4)) else (
wc_st (σ4 71 1) fun v7 =>
wc_b1 (wf_M_reckon 85 v7 σ4) fun σ8 =>
if a1 = 0 then (
wc_st (σ8 71 25) fun v13 =>
some (v13, σ8)) else (
if a1 = 1 then (
wc_st (σ8 71 26) fun v12 =>
some (v12, σ8)) else (
wc_st (σ8 71 27) fun v11 =>
some (v11, σ8))))
def wf_M_change_31 (x1 : Int32) (s1 : Int32) (σ : wc_S) : Option (Int32 × wc_S) :=
wc_st (wc_u σ 71 0 s1) fun σ8 =>
wc_st (σ8 71 0) fun v9 =>
if v9 ≤ 0 then (
wc_st (σ8 71 1) fun v11 =>
wc_b1 (wf_M_reckon 85 v11 σ8) fun σ12 =>
wc_gd (wc_in x1 9) (
wc_st (σ12 87 x1.toNatClampNeg) fun v14 =>
wc_gd (wc_z v14) (some (v14, σ12)))) else (
some (0, σ8))
def wf_M_change (a1 : Int32) (σ : wc_S) : Option (Int32 × wc_S) :=
wc_st (σ 71 22) fun v1 =>
if v1 = 0 then (
wf_M_change_31 a1 2 σ) else (
wc_st (σ 71 1) fun v3 =>
wc_st (v3 - 1) fun v4 =>
wc_b2 (wf_M_in a1 0 v4 σ) fun r6 σ5 =>
if r6 = 0 then (
wf_M_change_31 a1 1 σ5) else (
wf_M_change_31 a1 0 σ5))
def wf_M_jump_27 (x1 : Int32) (x2 : Int32) (s1 : Int32) (σ : wc_S) : Option (Int32 × wc_S) :=
wc_b2 (wf_M_goes s1 1 1 σ) fun r5 σ4 =>
if r5 = 0 then (
some (0, σ4)) else (
wc_b2 (wf_M_jumpOf x1 x2 σ4) fun r8 σ7 =>
some (r8, σ7))
def wf_M_jump_26 (x1 : Int32) (x2 : Int32) (σ : wc_S) : Option (Int32 × wc_S) :=
wf_M_jump_27 x1 x2 0 σ
def wf_M_jump (a1 : Int32) (a2 : Int32) (σ : wc_S) : Option (Int32 × wc_S) :=
wc_b2 (wf_M_isCoil a1 σ) fun r2 σ1 =>
if r2 = 0 then (
wf_M_jump_26 a1 a2 σ1) else (
wc_b2 (wf_M_isCoil a2 σ1) fun r10 σ9 =>
if r10 = 0 then (
wf_M_jump_26 a1 a2 σ9) else (
if a1 = a2 then (
wf_M_jump_26 a1 a2 σ9) else (
wf_M_jump_27 a1 a2 1 σ9)))
def wf_M_bound_101 (k11 : Int32 → Int32 → Int32 → wc_S → Option (Int32 × wc_S)) (x1 : Int32) (x2 : Int32) (x3 : Int32) (σ : wc_S) : Option (Int32 × wc_S) :=
wc_st (x3 + 1) fun v10 =>
k11 x1 x2 v10 σ
def wf_M_bound_87 (k11 : Int32 → Int32 → Int32 → wc_S → Option (Int32 × wc_S)) (x1 : Int32) (x2 : Int32) (x3 : Int32) (x4 : Int32) (σ : wc_S) : Option (Int32 × wc_S) :=
wc_st (x1 + x4) fun v8 =>
if x4 ≤ x2 then (
wf_M_bound_101 k11 v8 x2 x3 σ) else (
wf_M_bound_101 k11 v8 x4 x3 σ)
def wf_M_bound_73 (k11 : Int32 → Int32 → Int32 → wc_S → Option (Int32 × wc_S)) (k25 : Int32 → Int32 → Int32 → Int32 → Int32 → wc_S → Option (Int32 × wc_S)) (x1 : Int32) (x2 : Int32) (x3 : Int32) (x4 : Int32) (x5 : Int32) (σ : wc_S) : Option (Int32 × wc_S) :=
wc_st (x5 + 1) fun v15 =>
k25 x1 x2 x3 x4 v15 σ
def wf_M_bound_69 (k11 : Int32 → Int32 → Int32 → wc_S → Option (Int32 × wc_S)) (k25 : Int32 → Int32 → Int32 → Int32 → Int32 → wc_S → Option (Int32 × wc_S)) (x1 : Int32) (x2 : Int32) (x3 : Int32) (x5 : Int32) (x6 : Int32) (σ : wc_S) : Option (Int32 × wc_S) :=
wf_M_bound_73 k11 k25 x1 x2 x3 x6 x5 σ
def wf_M_bound_25_b (k11 : Int32 → Int32 → Int32 → wc_S → Option (Int32 × wc_S)) (k25 : Int32 → Int32 → Int32 → Int32 → Int32 → wc_S → Option (Int32 × wc_S)) (x1 : Int32) (x2 : Int32) (x3 : Int32) (x4 : Int32) (x5 : Int32) (σ : wc_S) : Option (Int32 × wc_S) :=
wc_st (σ 71 1) fun v5 =>
if v5 ≤ x5 then (
if 0 ≤ x4 then (
wf_M_bound_87 k11 x1 x2 x3 x4 σ) else (
wf_M_bound_87 k11 x1 x2 x3 0 σ)) else (
if x5 = x3 then (
wf_M_bound_73 k11 k25 x1 x2 x3 x4 x5 σ) else (
wc_b2 (wf_M_jumpOf x5 x3 σ) fun r13 σ12 =>
if r13 < 0 then (
wf_M_bound_73 k11 k25 x1 x2 x3 x4 x5 σ12) else (
if x4 < 0 then (
wf_M_bound_69 k11 k25 x1 x2 x3 x5 r13 σ12) else (
if x4 ≤ r13 then (
wf_M_bound_73 k11 k25 x1 x2 x3 x4 x5 σ12) else (
wf_M_bound_69 k11 k25 x1 x2 x3 x5 r13 σ12)))))
def wf_M_bound_25 (k11 : Int32 → Int32 → Int32 → wc_S → Option (Int32 × wc_S)) (n : Nat) : Int32 → Int32 → Int32 → Int32 → Int32 → wc_S → Option (Int32 × wc_S) := match n with
  | 0 => fun _ _ _ _ _ _ => none
  | n + 1 => wf_M_bound_25_b k11 (wf_M_bound_25 k11 n)
def wf_M_bound_11_b (k11 : Int32 → Int32 → Int32 → wc_S → Option (Int32 × wc_S)) (x1 : Int32) (x2 : Int32) (x3 : Int32) (σ : wc_S) : Option (Int32 × wc_S) :=
wc_st (σ 71 1) fun v2 =>
if v2 ≤ x3 then (
wc_st (x1 - x2) fun v4 =>
some (v4, σ)) else (
wf_M_bound_25 k11 16 x1 x2 x3 (-1) 0 σ)
def wf_M_bound_11 (n : Nat) : Int32 → Int32 → Int32 → wc_S → Option (Int32 × wc_S) := match n with
  | 0 => fun _ _ _ _ => none
  | n + 1 => wf_M_bound_11_b  (wf_M_bound_11  n)
def wf_M_bound (σ : wc_S) : Option (Int32 × wc_S) :=
wc_st (wc_u σ 71 0 0) fun σ1 =>
wf_M_bound_11 16 0 0 0 σ1
def wf_M_isGood_2_b (k1 : Nat) (k2 : Int32 → wc_S → Option (Int32 × wc_S)) (x2 : Int32) (σ : wc_S) : Option (Int32 × wc_S) :=
wc_st (σ 71 1) fun v1 =>
if v1 ≤ x2 then (
some (1, σ)) else (
wc_b2 (wf_M_mayBe k1 x2 σ) fun r4 σ3 =>
if r4 = 0 then (
some (0, σ3)) else (
wc_st (x2 + 1) fun v6 =>
k2 v6 σ3))
def wf_M_isGood_2 (k1 : Nat) (n : Nat) : Int32 → wc_S → Option (Int32 × wc_S) := match n with
  | 0 => fun _ _ => none
  | n + 1 => wf_M_isGood_2_b k1 (wf_M_isGood_2 k1 n)
def wf_M_isGood (k1 : Nat) (σ : wc_S) : Option (Int32 × wc_S) :=
wf_M_isGood_2 k1 16 0 σ
def wf_M_tell_108_b (k108 : Int32 → wc_S → Option wc_S) (x4 : Int32) (σ : wc_S) : Option wc_S :=
wc_st (σ 71 1) fun v8 =>
if v8 ≤ x4 then (
some σ) else (
wc_gd (wc_in x4 9) (
wc_st (σ 86 x4.toNatClampNeg) fun v11 =>
wc_gd (wc_in x4 9) (
wc_st (wc_u σ 85 x4.toNatClampNeg v11) fun σ13 =>
wc_st (x4 + 1) fun v14 =>
k108 v14 σ13)))
def wf_M_tell_108 (n : Nat) : Int32 → wc_S → Option wc_S := match n with
  | 0 => fun _ _ => none
  | n + 1 => wf_M_tell_108_b  (wf_M_tell_108  n)
def wf_M_tell_92 (s1 : Int32) (s2 : Int32) (σ : wc_S) : Option wc_S :=
wc_b2 (wf_M_goes s1 s2 1 σ) fun r5 σ4 =>
if r5 = 0 then (
some σ4) else (
wc_st (wc_u σ4 71 22 1) fun σ7 =>
wf_M_tell_108 16 0 σ7)
def wf_M_tell_91 (s1 : Int32) (σ : wc_S) : Option wc_S :=
wf_M_tell_92 s1 0 σ
def wf_M_tell_64 (k5 : Int64 → Int32 → Int32 → wc_S → Option wc_S) (x1 : Int64) (x3 : Int32) (x4 : Int32) (σ : wc_S) : Option wc_S :=
wc_st (x4 + 1) fun v28 =>
k5 x1 x3 v28 σ
def wf_M_tell_62 (k5 : Int64 → Int32 → Int32 → wc_S → Option wc_S) (x1 : Int64) (x4 : Int32) (σ : wc_S) : Option wc_S :=
wf_M_tell_64 k5 x1 0 x4 σ
def wf_M_tell_5_b (k5 : Int64 → Int32 → Int32 → wc_S → Option wc_S) (x1 : Int64) (x3 : Int32) (x4 : Int32) (σ : wc_S) : Option wc_S :=
wc_st (σ 71 1) fun v1 =>
if v1 ≤ x4 then (
if x3 = 0 then (
wf_M_tell_91 x3 σ) else (
wc_b2 (wf_M_isGood 86 σ) fun r16 σ15 =>
if r16 = 0 then (
wf_M_tell_91 x3 σ15) else (
wf_M_tell_92 x3 1 σ15))) else (
wc_st ((4 : Int32) * x4) fun v18 =>
wc_st (x1 >>> (v18.toInt64 &&& 63)) fun v19 =>
wc_st (v19 &&& 15) fun v20 =>
wc_st v20.toInt32 fun v21 =>
wc_gd (wc_in x4 9) (
wc_st (wc_u σ 86 x4.toNatClampNeg v21) fun σ23 =>
wc_gd (wc_in x4 9) (
wc_st (σ23 86 x4.toNatClampNeg) fun v25 =>
wc_st (σ23 71 1) fun v26 =>
if v26 ≤ v25 then (
wf_M_tell_62 k5 x1 x4 σ23) else (
wc_gd (wc_in x4 9) (
wc_st (σ23 86 x4.toNatClampNeg) fun v30 =>
wc_b2 (wf_M_stands v30 x4 σ23) fun r32 σ31 =>
if r32 = 0 then (
wf_M_tell_64 k5 x1 x3 x4 σ31) else (
wf_M_tell_62 k5 x1 x4 σ31))))))
def wf_M_tell_5 (n : Nat) : Int64 → Int32 → Int32 → wc_S → Option wc_S := match n with
  | 0 => fun _ _ _ _ => none
  | n + 1 => wf_M_tell_5_b  (wf_M_tell_5  n)
def wf_M_tell (a1 : Int64) (σ : wc_S) : Option wc_S :=
wf_M_tell_5 16 a1 1 0 σ
def wf_M_swaps_111_b (k111 : Int32 → wc_S → Option (Int32 × wc_S)) (x4 : Int32) (σ : wc_S) : Option (Int32 × wc_S) :=
wc_st (σ 71 1) fun v21 =>
if v21 ≤ x4 then (
some (1, σ)) else (
wc_gd (wc_in x4 9) (
wc_st (σ 86 x4.toNatClampNeg) fun v24 =>
wc_gd (wc_in x4 9) (
wc_st (wc_u σ 85 x4.toNatClampNeg v24) fun σ26 =>
wc_st (x4 + 1) fun v27 =>
k111 v27 σ26)))
def wf_M_swaps_111 (n : Nat) : Int32 → wc_S → Option (Int32 × wc_S) := match n with
  | 0 => fun _ _ => none
  | n + 1 => wf_M_swaps_111_b  (wf_M_swaps_111  n)
def wf_M_swaps_20_b (k20 : Int32 → Int32 → Int32 → Int32 → wc_S → Option (Int32 × wc_S)) (x1 : Int32) (x2 : Int32) (x3 : Int32) (x4 : Int32) (σ : wc_S) : Option (Int32 × wc_S) :=
wc_st (σ 71 1) fun v4 =>
if v4 ≤ x4 then (
wc_gd (wc_in x2 9) (
wc_st (σ 85 x2.toNatClampNeg) fun v7 =>
wc_gd (wc_in x1 9) (
wc_st (wc_u σ 86 x1.toNatClampNeg v7) fun σ9 =>
wc_gd (wc_in x1 9) (
wc_st (σ9 85 x1.toNatClampNeg) fun v11 =>
wc_gd (wc_in x2 9) (
wc_st (wc_u σ9 86 x2.toNatClampNeg v11) fun σ13 =>
wc_b2 (wf_M_isGood 86 σ13) fun r15 σ14 =>
if r15 = 0 then (
some (0, σ14)) else (
wc_st (σ14 71 1) fun v17 =>
wc_b1 (wf_M_reckon 86 v17 σ14) fun σ18 =>
wc_st (σ18 71 25) fun v19 =>
if v19 < x3 then (
wf_M_swaps_111 16 0 σ18) else (
some (0, σ18)))))))) else (
wc_gd (wc_in x4 9) (
wc_st (σ 85 x4.toNatClampNeg) fun v29 =>
wc_gd (wc_in x4 9) (
wc_st (wc_u σ 86 x4.toNatClampNeg v29) fun σ31 =>
wc_st (x4 + 1) fun v32 =>
k20 x1 x2 x3 v32 σ31)))
def wf_M_swaps_20 (n : Nat) : Int32 → Int32 → Int32 → Int32 → wc_S → Option (Int32 × wc_S) := match n with
  | 0 => fun _ _ _ _ _ => none
  | n + 1 => wf_M_swaps_20_b  (wf_M_swaps_20  n)
def wf_M_swaps (a1 : Int32) (a2 : Int32) (σ : wc_S) : Option (Int32 × wc_S) :=
wc_st (σ 71 1) fun v1 =>
wc_b1 (wf_M_reckon 85 v1 σ) fun σ2 =>
wc_st (σ2 71 25) fun v3 =>
wf_M_swaps_20 16 a1 a2 v3 0 σ2
def wf_M_better_14_b (k2 : Int32 → wc_S → Option (Int32 × wc_S)) (k14 : Int32 → Int32 → wc_S → Option (Int32 × wc_S)) (x1 : Int32) (x2 : Int32) (σ : wc_S) : Option (Int32 × wc_S) :=
wc_st (σ 71 1) fun v4 =>
if v4 ≤ x2 then (
wc_st (x1 + 1) fun v6 =>
k2 v6 σ) else (
wc_b2 (wf_M_swaps x1 x2 σ) fun r8 σ7 =>
if r8 = 0 then (
wc_st (x2 + 1) fun v10 =>
k14 x1 v10 σ7) else (
some (1, σ7)))
def wf_M_better_14 (k2 : Int32 → wc_S → Option (Int32 × wc_S)) (n : Nat) : Int32 → Int32 → wc_S → Option (Int32 × wc_S) := match n with
  | 0 => fun _ _ _ => none
  | n + 1 => wf_M_better_14_b k2 (wf_M_better_14 k2 n)
def wf_M_better_2_b (k2 : Int32 → wc_S → Option (Int32 × wc_S)) (x1 : Int32) (σ : wc_S) : Option (Int32 × wc_S) :=
wc_st (σ 71 1) fun v1 =>
if v1 ≤ x1 then (
some (0, σ)) else (
wc_st (x1 + 1) fun v3 =>
wf_M_better_14 k2 16 x1 v3 σ)
def wf_M_better_2 (n : Nat) : Int32 → wc_S → Option (Int32 × wc_S) := match n with
  | 0 => fun _ _ => none
  | n + 1 => wf_M_better_2_b  (wf_M_better_2  n)
def wf_M_better (σ : wc_S) : Option (Int32 × wc_S) :=
wf_M_better_2 16 0 σ
def wf_M_improve_23_b (k23 : Int32 → Int32 → wc_S → Option (Int32 × wc_S)) (x1 : Int32) (x2 : Int32) (σ : wc_S) : Option (Int32 × wc_S) :=
if x1 ≤ x2 then (
some (x2, σ)) else (
wc_b2 (wf_M_better σ) fun r9 σ8 =>
if r9 = 0 then (
some (x2, σ8)) else (
wc_st (x2 + 1) fun v11 =>
k23 x1 v11 σ8))
def wf_M_improve_23 (n : Nat) : Int32 → Int32 → wc_S → Option (Int32 × wc_S) := match n with
  | 0 => fun _ _ _ => none
  | n + 1 => wf_M_improve_23_b  (wf_M_improve_23  n)
def wf_M_improve (a1 : Int32) (σ : wc_S) : Option (Int32 × wc_S) :=
wc_st (σ 71 22) fun v1 =>
wc_b2 (wf_M_in a1 0 100 σ) fun r3 σ2 =>
wc_b2 (wf_M_goes v1 r3 1 σ2) fun r5 σ4 =>
if r5 = 0 then (
some (0, σ4)) else (
wf_M_improve_23 128 a1 0 σ4)
def wf_K_coil (a1 : Int32) (a2 : Int32) (a3 : Int32) (a4 : Int32) (σ : wc_S) : Option (Int32 × wc_S) :=
wc_cti (wf_W_coil a1 a2 a3 a4 σ) (fun k9 σ3 =>
if k9 = 2 then (
some (1, σ3)) else (
if k9 = 3 then (
some (2, σ3)) else (
none))) (fun r2 σ1 =>
wc_gd (wc_in 0 1) (
wc_st (wc_u σ1 88 ((0 : Int32).toNatClampNeg) r2) fun σ5 =>
some (0, σ5)))
def wf_K_table (a1 : Int32) (a2 : Int32) (a3 : Int32) (a4 : Int32) (σ : wc_S) : Option (Int32 × wc_S) :=
wc_cti (wf_W_table a1 a2 a3 a4 σ) (fun k9 σ3 =>
if k9 = 0 then (
some (1, σ3)) else (
if k9 = 2 then (
some (2, σ3)) else (
if k9 = 3 then (
some (3, σ3)) else (
none)))) (fun r2 σ1 =>
wc_gd (wc_in 0 1) (
wc_st (wc_u σ1 88 ((0 : Int32).toNatClampNeg) r2) fun σ5 =>
some (0, σ5)))
def wf_K_group (a1 : Int32) (a2 : Int32) (a3 : Int32) (σ : wc_S) : Option (Int32 × wc_S) :=
wc_cti (wf_W_group a1 a2 a3 σ) (fun k9 σ3 =>
if k9 = 2 then (
some (1, σ3)) else (
if k9 = 3 then (
some (2, σ3)) else (
none))) (fun r2 σ1 =>
wc_gd (wc_in 0 1) (
wc_st (wc_u σ1 88 ((0 : Int32).toNatClampNeg) r2) fun σ5 =>
some (0, σ5)))
def wf_K_urgent (a1 : Int32) (a2 : Int32) (σ : wc_S) : Option (Int32 × wc_S) :=
wc_ctv (wf_W_urgent a1 a2 σ) (fun k9 σ2 =>
if k9 = 0 then (
some (1, σ2)) else (
if k9 = 2 then (
some (2, σ2)) else (
none))) (fun σ1 =>
some (0, σ1))
def wf_K_old (a1 : Int32) (a2 : Int32) (σ : wc_S) : Option (Int32 × wc_S) :=
wc_ctv (wf_W_old a1 a2 σ) (fun k9 σ2 =>
if k9 = 0 then (
some (1, σ2)) else (
if k9 = 2 then (
some (2, σ2)) else (
none))) (fun σ1 =>
some (0, σ1))
def wf_K_rules (a1 : Int32) (a2 : Int32) (a3 : Int32) (a4 : Int32) (σ : wc_S) : Option (Int32 × wc_S) :=
wc_ctv (wf_W_rules a1 a2 a3 a4 σ) (fun k9 σ2 =>
if k9 = 2 then (
some (1, σ2)) else (
none)) (fun σ1 =>
some (0, σ1))
def wf_K_run (a1 : Int32) (σ : wc_S) : Option (Int32 × wc_S) :=
wc_cti (wf_W_run a1 σ) (fun k9 σ3 =>
if k9 = 2 then (
some (1, σ3)) else (
none)) (fun r2 σ1 =>
wc_gd (wc_in 0 1) (
wc_st (wc_u σ1 88 ((0 : Int32).toNatClampNeg) r2) fun σ5 =>
some (0, σ5)))
def wf_K_proved (σ : wc_S) : Option (Int32 × wc_S) :=
wc_cti (wf_W_proved σ) (fun k9 σ3 =>
if k9 = 1 then (
some (1, σ3)) else (
none)) (fun r2 σ1 =>
if r2 = 0 then (
wc_gd (wc_in 0 1) (
wc_st (wc_u σ1 88 ((0 : Int32).toNatClampNeg) 0) fun σ6 =>
some (0, σ6))) else (
wc_gd (wc_in 0 1) (
wc_st (wc_u σ1 88 ((0 : Int32).toNatClampNeg) 1) fun σ8 =>
some (0, σ8))))
def wf_K_order (a1 : Int32) (σ : wc_S) : Option (Int32 × wc_S) :=
wc_cti (wf_W_order a1 σ) (fun k9 σ3 =>
if k9 = 0 then (
some (1, σ3)) else (
if k9 = 1 then (
some (2, σ3)) else (
none))) (fun r2 σ1 =>
wc_gd (wc_in 0 1) (
wc_st (wc_u σ1 88 ((0 : Int32).toNatClampNeg) r2) fun σ5 =>
some (0, σ5)))
def wf_K_told (a1 : Int32) (σ : wc_S) : Option (Int32 × wc_S) :=
wc_cti (wf_W_told a1 σ) (fun k9 σ3 =>
if k9 = 0 then (
some (1, σ3)) else (
if k9 = 1 then (
some (2, σ3)) else (
none))) (fun r2 σ1 =>
wc_gd (wc_in 0 1) (
wc_st (wc_u σ1 88 ((0 : Int32).toNatClampNeg) r2) fun σ5 =>
some (0, σ5)))
def wf_K_change (a1 : Int32) (σ : wc_S) : Option (Int32 × wc_S) :=
wc_cti (wf_W_change a1 σ) (fun k9 σ3 =>
if k9 = 0 then (
some (1, σ3)) else (
if k9 = 1 then (
some (2, σ3)) else (
none))) (fun r2 σ1 =>
if r2 = 0 then (
wc_gd (wc_in 0 1) (
wc_st (wc_u σ1 88 ((0 : Int32).toNatClampNeg) 0) fun σ6 =>
some (0, σ6))) else (
wc_gd (wc_in 0 1) (
wc_st (wc_u σ1 88 ((0 : Int32).toNatClampNeg) 1) fun σ8 =>
some (0, σ8))))
def wf_K_jump (a1 : Int32) (a2 : Int32) (σ : wc_S) : Option (Int32 × wc_S) :=
wc_cti (wf_W_jump a1 a2 σ) (fun k9 σ3 =>
if k9 = 0 then (
some (1, σ3)) else (
none)) (fun r2 σ1 =>
wc_gd (wc_in 0 1) (
wc_st (wc_u σ1 88 ((0 : Int32).toNatClampNeg) r2) fun σ5 =>
some (0, σ5)))
def wf_K_tell (a1 : Int64) (σ : wc_S) : Option (Int32 × wc_S) :=
wc_ctv (wf_W_tell a1 σ) (fun k9 σ2 =>
if k9 = 0 then (
some (1, σ2)) else (
if k9 = 3 then (
some (2, σ2)) else (
none))) (fun σ1 =>
some (0, σ1))
def wf_K_improve (a1 : Int32) (σ : wc_S) : Option (Int32 × wc_S) :=
wc_cti (wf_W_improve a1 σ) (fun k9 σ3 =>
if k9 = 1 then (
some (1, σ3)) else (
if k9 = 2 then (
some (2, σ3)) else (
none))) (fun r2 σ1 =>
wc_gd (wc_in 0 1) (
wc_st (wc_u σ1 88 ((0 : Int32).toNatClampNeg) r2) fun σ5 =>
some (0, σ5)))
