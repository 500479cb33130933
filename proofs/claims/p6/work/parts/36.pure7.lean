theorem tt_J_costOf_11 {c : Nat} {b : Nat} (q0 : b = 18 ∨ b = 22) : ∀ (n : Nat) (x1 : Int32) (x2 : Int32) (σ : wc_S), wJ c σ → 0 ≤ x2.toInt → x2.toInt ≤ 8 → 8 < x2.toInt + n → wk (wf_J_costOf_11 b n x1 x2 σ) (fun r => wJ c r.2) := by
  intro n
  induction n with
  | zero => intro x1 x2 σ hσ c0 c1 c2; omega
  | succ n ih =>
    intro x1 x2 σ hσ c0 c1 c2
    show wk (wf_J_costOf_11_b b (wf_J_costOf_11 b n) x1 x2 σ) _
    unfold wf_J_costOf_11_b
    refine wk_rr (by assumption) (by omega) (fun v3 hv3 => ?_)
    refine wk_i (fun hc1 => ?_) (fun hc1 => ?_)
    · try simp only [wn_le, wn_lt, wn_eq, wn_0, wn_1, wn_m1, wn_9, wn_8, wn_4, wn_2, wn_100] at hc1
      exact wk_s ((show wJ c _ from by assumption))
    · try simp only [wn_le, wn_lt, wn_eq, wn_0, wn_1, wn_m1, wn_9, wn_8, wn_4, wn_2, wn_100] at hc1
      refine wk_g (wn_in (by first | omega | decide) (by first | omega | decide)) ?_
      refine wk_v (fun v6 => ?_)
      refine wk_i (fun hc2 => ?_) (fun hc2 => ?_)
      · try simp only [wn_le, wn_lt, wn_eq, wn_0, wn_1, wn_m1, wn_9, wn_8, wn_4, wn_2, wn_100] at hc2
        unfold wf_J_costOf_46
        refine wk_e (fun v8 ev8 => ?_)
        try (have hv8 : v8.toInt = x2.toInt + 1 := by rw [ev8]; exact wn_up (by omega) (by omega))
        exact ih _ _ _ (by assumption) (by omega) (by omega) (by omega)
      · try simp only [wn_le, wn_lt, wn_eq, wn_0, wn_1, wn_m1, wn_9, wn_8, wn_4, wn_2, wn_100] at hc2
        refine wk_g (wn_in (by first | omega | decide) (by first | omega | decide)) ?_
        refine wk_v (fun v10 => ?_)
        refine wk_i (fun hc3 => ?_) (fun hc3 => ?_)
        · try simp only [wn_le, wn_lt, wn_eq, wn_0, wn_1, wn_m1, wn_9, wn_8, wn_4, wn_2, wn_100] at hc3
          unfold wf_J_costOf_46
          refine wk_e (fun v8 ev8 => ?_)
          try (have hv8 : v8.toInt = x2.toInt + 1 := by rw [ev8]; exact wn_up (by omega) (by omega))
          exact ih _ _ _ (by assumption) (by omega) (by omega) (by omega)
        · try simp only [wn_le, wn_lt, wn_eq, wn_0, wn_1, wn_m1, wn_9, wn_8, wn_4, wn_2, wn_100] at hc3
          refine wk_g (wn_in (by first | omega | decide) (by first | omega | decide)) ?_
          refine wk_v (fun v13 => ?_)
          exact wk_s ((show wJ c _ from by assumption))
theorem tt_J_costOf {c : Nat} {b : Nat} {a1 : Int32} {σ : wc_S} (hσ : wJ c σ) (q0 : b = 18 ∨ b = 22) : wk (wf_J_costOf b a1 σ) (fun r => wJ c r.2) := by
  unfold wf_J_costOf
  refine wk_rr (by assumption) (by omega) (fun v1 hv1 => ?_)
  refine wk_i (fun hc1 => ?_) (fun hc1 => ?_)
  · try simp only [wn_le, wn_lt, wn_eq, wn_0, wn_1, wn_m1, wn_9, wn_8, wn_4, wn_2, wn_100] at hc1
    exact wk_s ((show wJ c _ from by assumption))
  · try simp only [wn_le, wn_lt, wn_eq, wn_0, wn_1, wn_m1, wn_9, wn_8, wn_4, wn_2, wn_100] at hc1
    exact tt_J_costOf_11 (by omega) 16 _ _ _ (by assumption) (by first | omega | decide) (by first | omega | decide) (by first | omega | decide) 
theorem tt_P_reckonJump {c : Nat} {a1 : Int32} {a2 : Int32} {σ : wc_S} (hσ : wJ c σ) (q0 : 0 ≤ a1.toInt) (q1 : a1.toInt ≤ 8) (q2 : 0 ≤ a2.toInt) (q3 : a2.toInt ≤ 8) : wk (wf_P_reckonJump a1 a2 σ) (fun r => wJ c r.2) := by
  unfold wf_P_reckonJump
  refine wk_g (wn_in (by first | omega | decide) (by first | omega | decide)) ?_
  refine wk_v (fun v2 => ?_)
  refine wk_g (wn_in (by first | omega | decide) (by first | omega | decide)) ?_
  refine wk_v (fun v4 => ?_)
  refine wk_v (fun v5 => ?_)
  refine wk_v (fun v6 => ?_)
  refine wk_b2 (tt_J_costOf (by assumption) (by first | omega | decide)) (fun r8 σ7 hr1 => ?_)
  have hσ7 : wJ _ σ7 := hr1
  refine wk_g (wn_in (by first | omega | decide) (by first | omega | decide)) ?_
  refine wk_v (fun v10 => ?_)
  refine wk_g (wn_in (by first | omega | decide) (by first | omega | decide)) ?_
  refine wk_v (fun v12 => ?_)
  refine wk_v (fun v13 => ?_)
  refine wk_v (fun v14 => ?_)
  refine wk_b2 (tt_J_costOf (by assumption) (by first | omega | decide)) (fun r16 σ15 hr2 => ?_)
  have hσ15 : wJ _ σ15 := hr2
  refine wk_i (fun hc3 => ?_) (fun hc3 => ?_)
  · try simp only [wn_le, wn_lt, wn_eq, wn_0, wn_1, wn_m1, wn_9, wn_8, wn_4, wn_2, wn_100] at hc3
    exact wk_s ((show wJ c _ from by assumption))
  · try simp only [wn_le, wn_lt, wn_eq, wn_0, wn_1, wn_m1, wn_9, wn_8, wn_4, wn_2, wn_100] at hc3
    refine wk_i (fun hc4 => ?_) (fun hc4 => ?_)
    · try simp only [wn_le, wn_lt, wn_eq, wn_0, wn_1, wn_m1, wn_9, wn_8, wn_4, wn_2, wn_100] at hc4
      exact wk_s ((show wJ c _ from by assumption))
    · try simp only [wn_le, wn_lt, wn_eq, wn_0, wn_1, wn_m1, wn_9, wn_8, wn_4, wn_2, wn_100] at hc4
      refine wk_e (fun v19 ev19 => ?_)
      try (have hv19 : v19.toInt = r8.toInt + r16.toInt := by rw [ev19]; exact wn_add (by omega) (by omega))
      exact wk_s ((show wJ c _ from by assumption))
theorem tt_P_reckonJumps_12 {c : Nat} {k2 : Int32 → wc_S → Option wc_S}  : ∀ (n : Nat) (x1 : Int32) (x2 : Int32) (σ : wc_S), wJ c σ → 0 ≤ x1.toInt → x1.toInt ≤ 8 → 0 ≤ x2.toInt → x2.toInt ≤ 9 → 9 < x2.toInt + n → (∀ v σ, wJ c σ → v.toInt = x1.toInt + 1 → wk (k2 v σ) (wJ c)) → wk (wf_P_reckonJumps_12 k2 n x1 x2 σ) (wJ c) := by
  intro n
  induction n with
  | zero => intro x1 x2 σ hσ c0 c1 c2 c3 c4 hk2; omega
  | succ n ih =>
    intro x1 x2 σ hσ c0 c1 c2 c3 c4 hk2
    show wk (wf_P_reckonJumps_12_b k2 (wf_P_reckonJumps_12 k2 n) x1 x2 σ) _
    unfold wf_P_reckonJumps_12_b
    refine wk_rn (by assumption) (fun v3 hv3 => ?_)
    refine wk_i (fun hc1 => ?_) (fun hc1 => ?_)
    · try simp only [wn_le, wn_lt, wn_eq, wn_0, wn_1, wn_m1, wn_9, wn_8, wn_4, wn_2, wn_100] at hc1
      refine wk_e (fun v5 ev5 => ?_)
      try (have hv5 : v5.toInt = x1.toInt + 1 := by rw [ev5]; exact wn_up (by omega) (by omega))
      exact hk2 _ _ (by assumption) (by omega)
    · try simp only [wn_le, wn_lt, wn_eq, wn_0, wn_1, wn_m1, wn_9, wn_8, wn_4, wn_2, wn_100] at hc1
      refine wk_g (wn_in (by first | omega | decide) (by first | omega | decide)) ?_
      refine wk_b2 (tt_P_reckonJump (by assumption) (by first | omega | decide) (by first | omega | decide) (by first | omega | decide) (by first | omega | decide)) (fun r8 σ7 hr2 => ?_)
      have hσ7 : wJ _ σ7 := hr2
      refine wk_g (wn_in (by first | omega | decide) (by first | omega | decide)) ?_
      refine wk_w (u_o (by assumption) (by rw [wn_tn]; omega)) (fun σ10 hσ10 => ?_)
      refine wk_e (fun v11 ev11 => ?_)
      try (have hv11 : v11.toInt = x2.toInt + 1 := by rw [ev11]; exact wn_up (by omega) (by omega))
      exact ih _ _ _ (by assumption) (by omega) (by omega) (by omega) (by omega) (by omega) (by assumption)
theorem tt_P_reckonJumps_2 {c : Nat}   : ∀ (n : Nat) (x1 : Int32) (σ : wc_S), wJ c σ → 0 ≤ x1.toInt → x1.toInt ≤ 9 → 9 < x1.toInt + n → wk (wf_P_reckonJumps_2  n x1 σ) (wJ c) := by
  intro n
  induction n with
  | zero => intro x1 σ hσ c0 c1 c2; omega
  | succ n ih =>
    intro x1 σ hσ c0 c1 c2
    show wk (wf_P_reckonJumps_2_b (wf_P_reckonJumps_2  n) x1 σ) _
    unfold wf_P_reckonJumps_2_b
    refine wk_rn (by assumption) (fun v1 hv1 => ?_)
    refine wk_i (fun hc1 => ?_) (fun hc1 => ?_)
    · try simp only [wn_le, wn_lt, wn_eq, wn_0, wn_1, wn_m1, wn_9, wn_8, wn_4, wn_2, wn_100] at hc1
      exact wk_s ((show wJ c _ from by assumption))
    · try simp only [wn_le, wn_lt, wn_eq, wn_0, wn_1, wn_m1, wn_9, wn_8, wn_4, wn_2, wn_100] at hc1
      exact tt_P_reckonJumps_12  16 _ _ _ (by assumption) (by first | omega | decide) (by first | omega | decide) (by first | omega | decide) (by first | omega | decide) (by first | omega | decide) (fun v σ hσ e => ih _ _ hσ (by omega) (by omega) (by omega))
theorem tt_P_reckonJumps {c : Nat}  {σ : wc_S} (hσ : wJ c σ)  : wk (wf_P_reckonJumps σ) (wJ c) := by
  unfold wf_P_reckonJumps
  exact tt_P_reckonJumps_2  16 _ _ (by assumption) (by first | omega | decide) (by first | omega | decide) (by first | omega | decide) 
theorem tt_P_leastJumpTo_4 {c : Nat}   : ∀ (n : Nat) (x1 : Int32) (x2 : Int32) (x3 : Int32) (σ : wc_S), wJ c σ → 0 ≤ x1.toInt → x1.toInt ≤ 8 → 0 ≤ x3.toInt → x3.toInt ≤ 9 → 9 < x3.toInt + n → wk (wf_P_leastJumpTo_4  n x1 x2 x3 σ) (fun r => wJ c r.2) := by
  intro n
  induction n with
  | zero => intro x1 x2 x3 σ hσ c0 c1 c2 c3 c4; omega
  | succ n ih =>
    intro x1 x2 x3 σ hσ c0 c1 c2 c3 c4
    show wk (wf_P_leastJumpTo_4_b (wf_P_leastJumpTo_4  n) x1 x2 x3 σ) _
    unfold wf_P_leastJumpTo_4_b
    refine wk_rn (by assumption) (fun v1 hv1 => ?_)
    refine wk_i (fun hc1 => ?_) (fun hc1 => ?_)
    · try simp only [wn_le, wn_lt, wn_eq, wn_0, wn_1, wn_m1, wn_9, wn_8, wn_4, wn_2, wn_100] at hc1
      refine wk_i (fun hc2 => ?_) (fun hc2 => ?_)
      · try simp only [wn_le, wn_lt, wn_eq, wn_0, wn_1, wn_m1, wn_9, wn_8, wn_4, wn_2, wn_100] at hc2
        exact wk_s ((show wJ c _ from by assumption))
      · try simp only [wn_le, wn_lt, wn_eq, wn_0, wn_1, wn_m1, wn_9, wn_8, wn_4, wn_2, wn_100] at hc2
        exact wk_s ((show wJ c _ from by assumption))
    · try simp only [wn_le, wn_lt, wn_eq, wn_0, wn_1, wn_m1, wn_9, wn_8, wn_4, wn_2, wn_100] at hc1
      refine wk_g (wn_in (by first | omega | decide) (by first | omega | decide)) ?_
      refine wk_g (wn_in (by first | omega | decide) (by first | omega | decide)) ?_
      refine wk_v (fun v6 => ?_)
      refine wk_i (fun hc3 => ?_) (fun hc3 => ?_)
      · try simp only [wn_le, wn_lt, wn_eq, wn_0, wn_1, wn_m1, wn_9, wn_8, wn_4, wn_2, wn_100] at hc3
        unfold wf_P_leastJumpTo_47
        refine wk_e (fun v8 ev8 => ?_)
        try (have hv8 : v8.toInt = x3.toInt + 1 := by rw [ev8]; exact wn_up (by omega) (by omega))
        exact ih _ _ _ _ (by assumption) (by omega) (by omega) (by omega) (by omega) (by omega)
      · try simp only [wn_le, wn_lt, wn_eq, wn_0, wn_1, wn_m1, wn_9, wn_8, wn_4, wn_2, wn_100] at hc3
        refine wk_i (fun hc4 => ?_) (fun hc4 => ?_)
        · try simp only [wn_le, wn_lt, wn_eq, wn_0, wn_1, wn_m1, wn_9, wn_8, wn_4, wn_2, wn_100] at hc4
          unfold wf_P_leastJumpTo_47
          refine wk_e (fun v8 ev8 => ?_)
          try (have hv8 : v8.toInt = x3.toInt + 1 := by rw [ev8]; exact wn_up (by omega) (by omega))
          exact ih _ _ _ _ (by assumption) (by omega) (by omega) (by omega) (by omega) (by omega)
        · try simp only [wn_le, wn_lt, wn_eq, wn_0, wn_1, wn_m1, wn_9, wn_8, wn_4, wn_2, wn_100] at hc4
          refine wk_i (fun hc5 => ?_) (fun hc5 => ?_)
          · try simp only [wn_le, wn_lt, wn_eq, wn_0, wn_1, wn_m1, wn_9, wn_8, wn_4, wn_2, wn_100] at hc5
            unfold wf_P_leastJumpTo_44
            unfold wf_P_leastJumpTo_47
            refine wk_e (fun v8 ev8 => ?_)
            try (have hv8 : v8.toInt = x3.toInt + 1 := by rw [ev8]; exact wn_up (by omega) (by omega))
            exact ih _ _ _ _ (by assumption) (by omega) (by omega) (by omega) (by omega) (by omega)
          · try simp only [wn_le, wn_lt, wn_eq, wn_0, wn_1, wn_m1, wn_9, wn_8, wn_4, wn_2, wn_100] at hc5
            refine wk_i (fun hc6 => ?_) (fun hc6 => ?_)
            · try simp only [wn_le, wn_lt, wn_eq, wn_0, wn_1, wn_m1, wn_9, wn_8, wn_4, wn_2, wn_100] at hc6
              unfold wf_P_leastJumpTo_47
              refine wk_e (fun v8 ev8 => ?_)
              try (have hv8 : v8.toInt = x3.toInt + 1 := by rw [ev8]; exact wn_up (by omega) (by omega))
              exact ih _ _ _ _ (by assumption) (by omega) (by omega) (by omega) (by omega) (by omega)
            · try simp only [wn_le, wn_lt, wn_eq, wn_0, wn_1, wn_m1, wn_9, wn_8, wn_4, wn_2, wn_100] at hc6
              unfold wf_P_leastJumpTo_44
              unfold wf_P_leastJumpTo_47
              refine wk_e (fun v8 ev8 => ?_)
              try (have hv8 : v8.toInt = x3.toInt + 1 := by rw [ev8]; exact wn_up (by omega) (by omega))
              exact ih _ _ _ _ (by assumption) (by omega) (by omega) (by omega) (by omega) (by omega)
theorem tt_P_leastJumpTo {c : Nat} {a1 : Int32} {σ : wc_S} (hσ : wJ c σ) (q0 : 0 ≤ a1.toInt) (q1 : a1.toInt ≤ 8) : wk (wf_P_leastJumpTo a1 σ) (fun r => wJ c r.2) := by
  unfold wf_P_leastJumpTo
  exact tt_P_leastJumpTo_4  16 _ _ _ _ (by assumption) (by first | omega | decide) (by first | omega | decide) (by first | omega | decide) (by first | omega | decide) (by first | omega | decide) 
theorem tt_P_kilometresInGroup {c : Nat} {a1 : Int32} {a2 : Int32} {σ : wc_S} (hσ : wJ c σ) (q0 : 0 ≤ a1.toInt) (q1 : a1.toInt ≤ 3) (q2 : 0 ≤ a2.toInt) (q3 : a2.toInt ≤ 8) : wk (wf_P_kilometresInGroup a1 a2 σ) (fun r => wJ c r.2) := by
  unfold wf_P_kilometresInGroup
  refine wk_g (wn_in (by first | omega | decide) (by first | omega | decide)) ?_
  refine wk_v (fun v2 => ?_)
  refine wk_g (wn_in (by first | omega | decide) (by first | omega | decide)) ?_
  refine wk_v (fun v4 => ?_)
  refine wk_i (fun hc1 => ?_) (fun hc1 => ?_)
  · try simp only [wn_le, wn_lt, wn_eq, wn_0, wn_1, wn_m1, wn_9, wn_8, wn_4, wn_2, wn_100] at hc1
    unfold wf_P_kilometresInGroup_40
    unfold wf_P_kilometresInGroup_41
    refine wk_i (fun hc2 => ?_) (fun hc2 => ?_)
    · try simp only [wn_le, wn_lt, wn_eq, wn_0, wn_1, wn_m1, wn_9, wn_8, wn_4, wn_2, wn_100] at hc2
      exact wk_s ((show wJ c _ from by assumption))
    · try simp only [wn_le, wn_lt, wn_eq, wn_0, wn_1, wn_m1, wn_9, wn_8, wn_4, wn_2, wn_100] at hc2
      refine wk_g (wn_in (by first | omega | decide) (by first | omega | decide)) ?_
      refine wk_v (fun v8 => ?_)
      exact wk_s ((show wJ c _ from by assumption))
  · try simp only [wn_le, wn_lt, wn_eq, wn_0, wn_1, wn_m1, wn_9, wn_8, wn_4, wn_2, wn_100] at hc1
    refine wk_g (wn_in (by first | omega | decide) (by first | omega | decide)) ?_
    refine wk_v (fun v10 => ?_)
    refine wk_g (wn_in (by first | omega | decide) (by first | omega | decide)) ?_
    refine wk_v (fun v12 => ?_)
    refine wk_i (fun hc3 => ?_) (fun hc3 => ?_)
    · try simp only [wn_le, wn_lt, wn_eq, wn_0, wn_1, wn_m1, wn_9, wn_8, wn_4, wn_2, wn_100] at hc3
      unfold wf_P_kilometresInGroup_40
      unfold wf_P_kilometresInGroup_41
      refine wk_i (fun hc4 => ?_) (fun hc4 => ?_)
      · try simp only [wn_le, wn_lt, wn_eq, wn_0, wn_1, wn_m1, wn_9, wn_8, wn_4, wn_2, wn_100] at hc4
        exact wk_s ((show wJ c _ from by assumption))
      · try simp only [wn_le, wn_lt, wn_eq, wn_0, wn_1, wn_m1, wn_9, wn_8, wn_4, wn_2, wn_100] at hc4
        refine wk_g (wn_in (by first | omega | decide) (by first | omega | decide)) ?_
        refine wk_v (fun v8 => ?_)
        exact wk_s ((show wJ c _ from by assumption))
    · try simp only [wn_le, wn_lt, wn_eq, wn_0, wn_1, wn_m1, wn_9, wn_8, wn_4, wn_2, wn_100] at hc3
      unfold wf_P_kilometresInGroup_41
      refine wk_i (fun hc5 => ?_) (fun hc5 => ?_)
      · try simp only [wn_le, wn_lt, wn_eq, wn_0, wn_1, wn_m1, wn_9, wn_8, wn_4, wn_2, wn_100] at hc5
        exact wk_s ((show wJ c _ from by assumption))
      · try simp only [wn_le, wn_lt, wn_eq, wn_0, wn_1, wn_m1, wn_9, wn_8, wn_4, wn_2, wn_100] at hc5
        refine wk_g (wn_in (by first | omega | decide) (by first | omega | decide)) ?_
        refine wk_v (fun v8 => ?_)
        exact wk_s ((show wJ c _ from by assumption))
theorem tt_L_penaltySoFar {c : Nat} {b : Nat} {σ : wc_S} (hσ : wJ c σ) (q0 : b = 30 ∨ b = 49) : wk (wf_L_penaltySoFar b σ) (fun r => wJ c r.2) := by
  unfold wf_L_penaltySoFar
  refine wk_rl (by assumption) (by omega) (fun v1 hv1 => ?_)
  refine wk_g (wn_in (by first | omega | decide) (by first | omega | decide)) ?_
  refine wk_v (fun v3 => ?_)
  exact wk_s ((show wJ c _ from by assumption))
theorem tt_L_changesSoFar {c : Nat} {b : Nat} {σ : wc_S} (hσ : wJ c σ) (q0 : b = 30 ∨ b = 49) : wk (wf_L_changesSoFar b σ) (fun r => wJ c r.2) := by
  unfold wf_L_changesSoFar
  refine wk_rl (by assumption) (by omega) (fun v1 hv1 => ?_)
  refine wk_g (wn_in (by first | omega | decide) (by first | omega | decide)) ?_
  refine wk_v (fun v3 => ?_)
  exact wk_s ((show wJ c _ from by assumption))
theorem tt_L_movedSoFar {c : Nat} {b : Nat} {σ : wc_S} (hσ : wJ c σ) (q0 : b = 30 ∨ b = 49) : wk (wf_L_movedSoFar b σ) (fun r => wJ c r.2) := by
  unfold wf_L_movedSoFar
  refine wk_rl (by assumption) (by omega) (fun v1 hv1 => ?_)
  refine wk_g (wn_in (by first | omega | decide) (by first | omega | decide)) ?_
  refine wk_v (fun v3 => ?_)
  exact wk_s ((show wJ c _ from by assumption))
theorem tt_L_clear_7 {c : Nat} {b : Nat} (q0 : b = 30 ∨ b = 49) : ∀ (n : Nat) (x1 : Int32) (σ : wc_S), wJ c σ → 0 ≤ x1.toInt → x1.toInt ≤ 9 → 9 < x1.toInt + n → wk (wf_L_clear_7 b n x1 σ) (wJ c) := by
  intro n
  induction n with
  | zero => intro x1 σ hσ c0 c1 c2; omega
  | succ n ih =>
    intro x1 σ hσ c0 c1 c2
    show wk (wf_L_clear_7_b b (wf_L_clear_7 b n) x1 σ) _
    unfold wf_L_clear_7_b
    refine wk_i (fun hc1 => ?_) (fun hc1 => ?_)
    · try simp only [wn_le, wn_lt, wn_eq, wn_0, wn_1, wn_m1, wn_9, wn_8, wn_4, wn_2, wn_100] at hc1
      exact wk_s ((show wJ c _ from by assumption))
    · try simp only [wn_le, wn_lt, wn_eq, wn_0, wn_1, wn_m1, wn_9, wn_8, wn_4, wn_2, wn_100] at hc1
      refine wk_g (wn_in (by first | omega | decide) (by first | omega | decide)) ?_
      refine wk_w (u_o (by assumption) (by omega)) (fun σ4 hσ4 => ?_)
      refine wk_e (fun v5 ev5 => ?_)
      try (have hv5 : v5.toInt = x1.toInt + 1 := by rw [ev5]; exact wn_up (by omega) (by omega))
      exact ih _ _ (by assumption) (by omega) (by omega) (by omega)
theorem tt_L_clear {c : Nat} {b : Nat} {σ : wc_S} (hσ : wJ c σ) (q0 : b = 30 ∨ b = 49) : wk (wf_L_clear b σ) (wJ c) := by
  unfold wf_L_clear
  refine wk_w (u_l (by assumption) (by omega) (by first | omega | decide | (simp only [wn_0]; omega))) (fun σ1 hσ1 => ?_)
  exact tt_L_clear_7 (by omega) 16 _ _ (by assumption) (by first | omega | decide) (by first | omega | decide) (by first | omega | decide) 
theorem tt_L_mayFollow {c : Nat} {b : Nat} {a1 : Int32} {a2 : Int32} {σ : wc_S} (hσ : wJ c σ) (q0 : b = 30 ∨ b = 49) (q1 : 0 ≤ a1.toInt) (q2 : a1.toInt ≤ 8) (q3 : 0 ≤ a2.toInt) (q4 : a2.toInt ≤ 8) : wk (wf_L_mayFollow b a1 a2 σ) (fun r => wJ c r.2) := by
  unfold wf_L_mayFollow
  refine wk_g (wn_in (by first | omega | decide) (by first | omega | decide)) ?_
  refine wk_g (wn_in (by first | omega | decide) (by first | omega | decide)) ?_
  refine wk_v (fun v3 => ?_)
  refine wk_i (fun hc1 => ?_) (fun hc1 => ?_)
  · try simp only [wn_le, wn_lt, wn_eq, wn_0, wn_1, wn_m1, wn_9, wn_8, wn_4, wn_2, wn_100] at hc1
    exact wk_s ((show wJ c _ from by assumption))
  · try simp only [wn_le, wn_lt, wn_eq, wn_0, wn_1, wn_m1, wn_9, wn_8, wn_4, wn_2, wn_100] at hc1
    refine wk_g (wn_in (by first | omega | decide) (by first | omega | decide)) ?_
    refine wk_v (fun v6 => ?_)
    refine wk_g (wn_in (by first | omega | decide) (by first | omega | decide)) ?_
    refine wk_v (fun v8 => ?_)
    refine wk_v (fun v9 => ?_)
    refine wk_rl (by assumption) (by omega) (fun v10 hv10 => ?_)
    refine wk_v (fun v11 => ?_)
    refine wk_i (fun hc2 => ?_) (fun hc2 => ?_)
    · try simp only [wn_le, wn_lt, wn_eq, wn_0, wn_1, wn_m1, wn_9, wn_8, wn_4, wn_2, wn_100] at hc2
      refine wk_i (fun hc3 => ?_) (fun hc3 => ?_)
      · try simp only [wn_le, wn_lt, wn_eq, wn_0, wn_1, wn_m1, wn_9, wn_8, wn_4, wn_2, wn_100] at hc3
        exact wk_s ((show wJ c _ from by assumption))
      · try simp only [wn_le, wn_lt, wn_eq, wn_0, wn_1, wn_m1, wn_9, wn_8, wn_4, wn_2, wn_100] at hc3
        exact wk_s ((show wJ c _ from by assumption))
    · try simp only [wn_le, wn_lt, wn_eq, wn_0, wn_1, wn_m1, wn_9, wn_8, wn_4, wn_2, wn_100] at hc2
      refine wk_i (fun hc4 => ?_) (fun hc4 => ?_)
      · try simp only [wn_le, wn_lt, wn_eq, wn_0, wn_1, wn_m1, wn_9, wn_8, wn_4, wn_2, wn_100] at hc4
        exact wk_s ((show wJ c _ from by assumption))
      · try simp only [wn_le, wn_lt, wn_eq, wn_0, wn_1, wn_m1, wn_9, wn_8, wn_4, wn_2, wn_100] at hc4
        exact wk_s ((show wJ c _ from by assumption))
theorem tt_L_isWornWith_33 {c : Nat} {b : Nat} (q0 : b = 30 ∨ b = 49) : ∀ (n : Nat) (x1 : Int32) (x2 : Int32) (σ : wc_S), wJ c σ → 0 ≤ x1.toInt → x1.toInt ≤ 8 → 0 ≤ x2.toInt → x2.toInt ≤ 4 → 4 < x2.toInt + n → wk (wf_L_isWornWith_33 b n x1 x2 σ) (fun r => wJ c r.2) := by
  intro n
  induction n with
  | zero => intro x1 x2 σ hσ c0 c1 c2 c3 c4; omega
  | succ n ih =>
    intro x1 x2 σ hσ c0 c1 c2 c3 c4
    show wk (wf_L_isWornWith_33_b b (wf_L_isWornWith_33 b n) x1 x2 σ) _
    unfold wf_L_isWornWith_33_b
    refine wk_rg (by assumption) (fun v9 hv9 => ?_)
    refine wk_i (fun hc1 => ?_) (fun hc1 => ?_)
    · try simp only [wn_le, wn_lt, wn_eq, wn_0, wn_1, wn_m1, wn_9, wn_8, wn_4, wn_2, wn_100] at hc1
      exact wk_s ((show wJ c _ from by assumption))
    · try simp only [wn_le, wn_lt, wn_eq, wn_0, wn_1, wn_m1, wn_9, wn_8, wn_4, wn_2, wn_100] at hc1
      refine wk_rl (by assumption) (by omega) (fun v11 hv11 => ?_)
      refine wk_g (wn_in (by first | omega | decide) (by first | omega | decide)) ?_
      refine wk_g (wn_in (by first | omega | decide) (by first | omega | decide)) ?_
      refine wk_v (fun v14 => ?_)
      refine wk_b2 (tt_P_kilometresInGroup (by assumption) (by first | omega | decide) (by first | omega | decide) (by first | omega | decide) (by first | omega | decide)) (fun r16 σ15 hr2 => ?_)
      have hσ15 : wJ _ σ15 := hr2
      refine wk_e (fun v17 ev17 => ?_)
      try (have hv17 : v17.toInt = v14.toInt + r16.toInt := by rw [ev17]; exact wn_add (by omega) (by omega))
      refine wk_g (wn_in (by first | omega | decide) (by first | omega | decide)) ?_
      refine wk_v (fun v19 => ?_)
      refine wk_i (fun hc3 => ?_) (fun hc3 => ?_)
      · try simp only [wn_le, wn_lt, wn_eq, wn_0, wn_1, wn_m1, wn_9, wn_8, wn_4, wn_2, wn_100] at hc3
        refine wk_e (fun v21 ev21 => ?_)
        try (have hv21 : v21.toInt = x2.toInt + 1 := by rw [ev21]; exact wn_up (by omega) (by omega))
        exact ih _ _ _ (by assumption) (by omega) (by omega) (by omega) (by omega) (by omega)
      · try simp only [wn_le, wn_lt, wn_eq, wn_0, wn_1, wn_m1, wn_9, wn_8, wn_4, wn_2, wn_100] at hc3
        exact wk_s ((show wJ c _ from by assumption))
theorem tt_L_isWornWith {c : Nat} {b : Nat} {a1 : Int32} {σ : wc_S} (hσ : wJ c σ) (q0 : b = 30 ∨ b = 49) (q1 : 0 ≤ a1.toInt) (q2 : a1.toInt ≤ 8) : wk (wf_L_isWornWith b a1 σ) (fun r => wJ c r.2) := by
  unfold wf_L_isWornWith
  refine wk_rl (by assumption) (by omega) (fun v1 hv1 => ?_)
  refine wk_g (wn_in (by first | omega | decide) (by first | omega | decide)) ?_
  refine wk_v (fun v3 => ?_)
  refine wk_g (wn_in (by first | omega | decide) (by first | omega | decide)) ?_
  refine wk_v (fun v5 => ?_)
  refine wk_e (fun v6 ev6 => ?_)
  try (have hv6 : v6.toInt = v3.toInt + v5.toInt := by rw [ev6]; exact wn_add (by omega) (by omega))
  refine wk_v (fun v7 => ?_)
  refine wk_i (fun hc1 => ?_) (fun hc1 => ?_)
  · try simp only [wn_le, wn_lt, wn_eq, wn_0, wn_1, wn_m1, wn_9, wn_8, wn_4, wn_2, wn_100] at hc1
    exact tt_L_isWornWith_33 (by omega) 16 _ _ _ (by assumption) (by first | omega | decide) (by first | omega | decide) (by first | omega | decide) (by first | omega | decide) (by first | omega | decide) 
  · try simp only [wn_le, wn_lt, wn_eq, wn_0, wn_1, wn_m1, wn_9, wn_8, wn_4, wn_2, wn_100] at hc1
    exact wk_s ((show wJ c _ from by assumption))
theorem tt_L_countKilometres_43 {c : Nat} {b : Nat} (q0 : b = 30 ∨ b = 49) : ∀ (n : Nat) (x1 : Int32) (x2 : Int32) (x3 : Int32) (x4 : Int32) (σ : wc_S), wJ c σ → 0 ≤ x1.toInt → x1.toInt ≤ 8 → 0 ≤ x3.toInt → x3.toInt ≤ 9 → 0 ≤ x4.toInt → x4.toInt ≤ 4 → 4 < x4.toInt + n → wk (wf_L_countKilometres_43 b n x1 x2 x3 x4 σ) (wJ c) := by
  intro n
  induction n with
  | zero => intro x1 x2 x3 x4 σ hσ c0 c1 c2 c3 c4 c5 c6; omega
  | succ n ih =>
    intro x1 x2 x3 x4 σ hσ c0 c1 c2 c3 c4 c5 c6
    show wk (wf_L_countKilometres_43_b b (wf_L_countKilometres_43 b n) x1 x2 x3 x4 σ) _
    unfold wf_L_countKilometres_43_b
    refine wk_rg (by assumption) (fun v12 hv12 => ?_)
    refine wk_i (fun hc1 => ?_) (fun hc1 => ?_)
    · try simp only [wn_le, wn_lt, wn_eq, wn_0, wn_1, wn_m1, wn_9, wn_8, wn_4, wn_2, wn_100] at hc1
      exact wk_s ((show wJ c _ from by assumption))
    · try simp only [wn_le, wn_lt, wn_eq, wn_0, wn_1, wn_m1, wn_9, wn_8, wn_4, wn_2, wn_100] at hc1
      refine wk_i (fun hc2 => ?_) (fun hc2 => ?_)
      · try simp only [wn_le, wn_lt, wn_eq, wn_0, wn_1, wn_m1, wn_9, wn_8, wn_4, wn_2, wn_100] at hc2
        refine wk_rl (by assumption) (by omega) (fun v15 hv15 => ?_)
        refine wk_g (wn_in (by first | omega | decide) (by first | omega | decide)) ?_
        refine wk_g (wn_in (by first | omega | decide) (by first | omega | decide)) ?_
        refine wk_v (fun v18 => ?_)
        unfold wf_L_countKilometres_78
        refine wk_g (wn_in (by first | omega | decide) (by first | omega | decide)) ?_
        refine wk_b2 (tt_P_kilometresInGroup (by assumption) (by first | omega | decide) (by first | omega | decide) (by first | omega | decide) (by first | omega | decide)) (fun r21 σ20 hr3 => ?_)
        have hσ20 : wJ _ σ20 := hr3
        refine wk_e (fun v22 ev22 => ?_)
        try (have hv22 : v22.toInt = v18.toInt + r21.toInt := by rw [ev22]; exact wn_add (by omega) (by omega))
        refine wk_g (wn_in (by first | omega | decide) (by first | omega | decide)) ?_
        refine wk_w (u_o (by assumption) (by rw [wn_tn]; omega)) (fun σ24 hσ24 => ?_)
        refine wk_e (fun v25 ev25 => ?_)
        try (have hv25 : v25.toInt = x4.toInt + 1 := by rw [ev25]; exact wn_up (by omega) (by omega))
        exact ih _ _ _ _ _ (by assumption) (by omega) (by omega) (by omega) (by omega) (by omega) (by omega) (by omega)
      · try simp only [wn_le, wn_lt, wn_eq, wn_0, wn_1, wn_m1, wn_9, wn_8, wn_4, wn_2, wn_100] at hc2
        unfold wf_L_countKilometres_78
        refine wk_g (wn_in (by first | omega | decide) (by first | omega | decide)) ?_
        refine wk_b2 (tt_P_kilometresInGroup (by assumption) (by first | omega | decide) (by first | omega | decide) (by first | omega | decide) (by first | omega | decide)) (fun r21 σ20 hr4 => ?_)
        have hσ20 : wJ _ σ20 := hr4
        refine wk_v (fun v22 => ?_)
        refine wk_g (wn_in (by first | omega | decide) (by first | omega | decide)) ?_
        refine wk_w (u_o (by assumption) (by rw [wn_tn]; omega)) (fun σ24 hσ24 => ?_)
        refine wk_e (fun v25 ev25 => ?_)
        try (have hv25 : v25.toInt = x4.toInt + 1 := by rw [ev25]; exact wn_up (by omega) (by omega))
        exact ih _ _ _ _ _ (by assumption) (by omega) (by omega) (by omega) (by omega) (by omega) (by omega) (by omega)
theorem tt_L_countKilometres {b : Nat} {a1 : Int32} {a2 : Int32} {σ : wc_S} (hσ : wJ b σ) (q0 : b = 30 ∨ b = 49) (q1 : 0 ≤ a1.toInt) (q2 : a1.toInt ≤ 8) : wk (wf_L_countKilometres b a1 a2 σ) (wJ b) := by
  unfold wf_L_countKilometres
  refine wk_rl (by assumption) (by omega) (fun v1 hv1 => ?_)
  refine wk_e (fun v2 ev2 => ?_)
  try (have hv2 : v2.toInt = v1.toInt + 1 := by rw [ev2]; exact wn_up (by omega) (by omega))
  refine wk_i (fun hc1 => ?_) (fun hc1 => ?_)
  · try simp only [wn_le, wn_lt, wn_eq, wn_0, wn_1, wn_m1, wn_9, wn_8, wn_4, wn_2, wn_100] at hc1
    refine wk_rl (by assumption) (by omega) (fun v4 hv4 => ?_)
    refine wk_g (wn_in (by first | omega | decide) (by first | omega | decide)) ?_
    refine wk_v (fun v6 => ?_)
    unfold wf_L_countKilometres_29
    refine wk_g (wn_in (by first | omega | decide) (by first | omega | decide)) ?_
    refine wk_v (fun v8 => ?_)
    refine wk_e (fun v9 ev9 => ?_)
    try (have hv9 : v9.toInt = v6.toInt + v8.toInt := by rw [ev9]; exact wn_add (by omega) (by omega))
    refine wk_g (wn_in (by first | omega | decide) (by first | omega | decide)) ?_
    refine wk_w (u_o (by assumption) (by omega)) (fun σ11 hσ11 => ?_)
    exact tt_L_countKilometres_43 (by omega) 16 _ _ _ _ _ (by assumption) (by first | omega | decide) (by first | omega | decide) (by first | omega | decide) (by first | omega | decide) (by first | omega | decide) (by first | omega | decide) (by first | omega | decide) 
  · try simp only [wn_le, wn_lt, wn_eq, wn_0, wn_1, wn_m1, wn_9, wn_8, wn_4, wn_2, wn_100] at hc1
    unfold wf_L_countKilometres_29
    refine wk_g (wn_in (by first | omega | decide) (by first | omega | decide)) ?_
    refine wk_v (fun v8 => ?_)
    refine wk_v (fun v9 => ?_)
    refine wk_g (wn_in (by first | omega | decide) (by first | omega | decide)) ?_
    refine wk_w (u_o (by assumption) (by omega)) (fun σ11 hσ11 => ?_)
    exact tt_L_countKilometres_43 (by omega) 16 _ _ _ _ _ (by assumption) (by first | omega | decide) (by first | omega | decide) (by first | omega | decide) (by first | omega | decide) (by first | omega | decide) (by first | omega | decide) (by first | omega | decide) 
theorem tt_L_countCosts_157 {c : Nat} {b : Nat} {x5 : Int32} {s1 : Int32} {s2 : Int32} {s3 : Int32} {σ : wc_S} (hσ : wJ c σ) (q0 : b = 30 ∨ b = 49) (q1 : 0 ≤ s1.toInt) (q2 : s1.toInt ≤ 9) : wk (wf_L_countCosts_157 b x5 s1 s2 s3 σ) (wJ c) := by
  unfold wf_L_countCosts_157
  refine wk_e (fun v27 ev27 => ?_)
  try (have hv27 : v27.toInt = s2.toInt + s3.toInt := by rw [ev27]; exact wn_add (by omega) (by omega))
  refine wk_i (fun hc1 => ?_) (fun hc1 => ?_)
  · try simp only [wn_le, wn_lt, wn_eq, wn_0, wn_1, wn_m1, wn_9, wn_8, wn_4, wn_2, wn_100] at hc1
    refine wk_v (fun v29 => ?_)
    refine wk_g (wn_in (by first | omega | decide) (by first | omega | decide)) ?_
    refine wk_w (u_o (by assumption) (by omega)) (fun σ31 hσ31 => ?_)
    exact wk_s ((show wJ c _ from by assumption))
  · try simp only [wn_le, wn_lt, wn_eq, wn_0, wn_1, wn_m1, wn_9, wn_8, wn_4, wn_2, wn_100] at hc1
    refine wk_v (fun v32 => ?_)
    refine wk_e (fun v33 ev33 => ?_)
    try (have hv33 : v33.toInt = v27.toInt + v32.toInt := by rw [ev33]; exact wn_add (by omega) (by omega))
    refine wk_g (wn_in (by first | omega | decide) (by first | omega | decide)) ?_
    refine wk_w (u_o (by assumption) (by omega)) (fun σ35 hσ35 => ?_)
    exact wk_s ((show wJ c _ from by assumption))
theorem tt_L_countCosts_123 {c : Nat} {b : Nat} {x2 : Int32} {x3 : Int32} {x5 : Int32} {x6 : Int32} {s1 : Int32} {s2 : Int32} {s3 : Int32} {σ : wc_S} (hσ : wJ c σ) (q0 : b = 30 ∨ b = 49) (q1 : 0 ≤ x3.toInt) (q2 : x3.toInt ≤ 9) (q3 : 0 ≤ s1.toInt) (q4 : s1.toInt ≤ 9) : wk (wf_L_countCosts_123 b x2 x3 x5 x6 s1 s2 s3 σ) (wJ c) := by
  unfold wf_L_countCosts_123
  refine wk_e (fun v19 ev19 => ?_)
  try (have hv19 : v19.toInt = s2.toInt + s3.toInt := by rw [ev19]; exact wn_add (by omega) (by omega))
  refine wk_g (wn_in (by first | omega | decide) (by first | omega | decide)) ?_
  refine wk_w (u_o (by assumption) (by omega)) (fun σ21 hσ21 => ?_)
  refine wk_rl (by assumption) (by omega) (fun v22 hv22 => ?_)
  refine wk_g (wn_in (by first | omega | decide) (by first | omega | decide)) ?_
  refine wk_v (fun v24 => ?_)
  refine wk_e (fun v25 ev25 => ?_)
  try (have hv25 : v25.toInt = v24.toInt + x6.toInt := by rw [ev25]; exact wn_add (by omega) (by omega))
  refine wk_i (fun hc1 => ?_) (fun hc1 => ?_)
  · try simp only [wn_le, wn_lt, wn_eq, wn_0, wn_1, wn_m1, wn_9, wn_8, wn_4, wn_2, wn_100] at hc1
    exact tt_L_countCosts_157 (by assumption) (by first | omega | decide) (by first | omega | decide) (by first | omega | decide)
  · try simp only [wn_le, wn_lt, wn_eq, wn_0, wn_1, wn_m1, wn_9, wn_8, wn_4, wn_2, wn_100] at hc1
    refine wk_v (fun v36 => ?_)
    exact tt_L_countCosts_157 (by assumption) (by first | omega | decide) (by first | omega | decide) (by first | omega | decide)
theorem tt_L_countCosts_97 {c : Nat} {b : Nat} {x2 : Int32} {x3 : Int32} {x5 : Int32} {x6 : Int32} {s1 : Int32} {s2 : Int32} {s3 : Int32} {σ : wc_S} (hσ : wJ c σ) (q0 : b = 30 ∨ b = 49) (q1 : 0 ≤ x3.toInt) (q2 : x3.toInt ≤ 9) (q3 : 0 ≤ s1.toInt) (q4 : s1.toInt ≤ 9) : wk (wf_L_countCosts_97 b x2 x3 x5 x6 s1 s2 s3 σ) (wJ c) := by
  unfold wf_L_countCosts_97
  refine wk_e (fun v12 ev12 => ?_)
  try (have hv12 : v12.toInt = s2.toInt + s3.toInt := by rw [ev12]; exact wn_add (by omega) (by omega))
  refine wk_g (wn_in (by first | omega | decide) (by first | omega | decide)) ?_
  refine wk_w (u_o (by assumption) (by omega)) (fun σ14 hσ14 => ?_)
  refine wk_rl (by assumption) (by omega) (fun v15 hv15 => ?_)
  refine wk_g (wn_in (by first | omega | decide) (by first | omega | decide)) ?_
  refine wk_v (fun v17 => ?_)
  refine wk_i (fun hc1 => ?_) (fun hc1 => ?_)
  · try simp only [wn_le, wn_lt, wn_eq, wn_0, wn_1, wn_m1, wn_9, wn_8, wn_4, wn_2, wn_100] at hc1
    exact tt_L_countCosts_123 (by assumption) (by first | omega | decide) (by first | omega | decide) (by first | omega | decide) (by first | omega | decide) (by first | omega | decide)
  · try simp only [wn_le, wn_lt, wn_eq, wn_0, wn_1, wn_m1, wn_9, wn_8, wn_4, wn_2, wn_100] at hc1
    exact tt_L_countCosts_123 (by assumption) (by first | omega | decide) (by first | omega | decide) (by first | omega | decide) (by first | omega | decide) (by first | omega | decide)
theorem tt_L_countCosts_72 {c : Nat} {b : Nat} {x2 : Int32} {x3 : Int32} {x5 : Int32} {s0 : Int32} {σ : wc_S} (hσ : wJ c σ) (q0 : b = 30 ∨ b = 49) (q1 : 0 ≤ x3.toInt) (q2 : x3.toInt ≤ 9) : wk (wf_L_countCosts_72 b x2 x3 x5 s0 σ) (wJ c) := by
  unfold wf_L_countCosts_72
  refine wk_rl (by assumption) (by omega) (fun v8 hv8 => ?_)
  refine wk_g (wn_in (by first | omega | decide) (by first | omega | decide)) ?_
  refine wk_v (fun v10 => ?_)
  refine wk_i (fun hc1 => ?_) (fun hc1 => ?_)
  · try simp only [wn_le, wn_lt, wn_eq, wn_0, wn_1, wn_m1, wn_9, wn_8, wn_4, wn_2, wn_100] at hc1
    exact tt_L_countCosts_97 (by assumption) (by first | omega | decide) (by first | omega | decide) (by first | omega | decide) (by first | omega | decide) (by first | omega | decide)
  · try simp only [wn_le, wn_lt, wn_eq, wn_0, wn_1, wn_m1, wn_9, wn_8, wn_4, wn_2, wn_100] at hc1
    exact tt_L_countCosts_97 (by assumption) (by first | omega | decide) (by first | omega | decide) (by first | omega | decide) (by first | omega | decide) (by first | omega | decide)
theorem tt_L_countCosts_38 {c : Nat} {b : Nat} {x1 : Int32} {x2 : Int32} {x3 : Int32} {s0 : Int32} {σ : wc_S} (hσ : wJ c σ) (q0 : b = 30 ∨ b = 49) (q1 : 0 ≤ x1.toInt) (q2 : x1.toInt ≤ 8) (q3 : 0 ≤ x3.toInt) (q4 : x3.toInt ≤ 9) : wk (wf_L_countCosts_38 b x1 x2 x3 s0 σ) (wJ c) := by
  unfold wf_L_countCosts_38
  refine wk_rl (by assumption) (by omega) (fun v6 hv6 => ?_)
  refine wk_i (fun hc1 => ?_) (fun hc1 => ?_)
  · try simp only [wn_le, wn_lt, wn_eq, wn_0, wn_1, wn_m1, wn_9, wn_8, wn_4, wn_2, wn_100] at hc1
    exact tt_L_countCosts_72 (by assumption) (by first | omega | decide) (by first | omega | decide) (by first | omega | decide)
  · try simp only [wn_le, wn_lt, wn_eq, wn_0, wn_1, wn_m1, wn_9, wn_8, wn_4, wn_2, wn_100] at hc1
    refine wk_rl (by assumption) (by omega) (fun v37 hv37 => ?_)
    refine wk_e (fun v38 ev38 => ?_)
    try (have hv38 : v38.toInt = v37.toInt - 1 := by rw [ev38]; exact wn_dn (by omega) (by omega))
    refine wk_g (wn_in (by first | omega | decide) (by first | omega | decide)) ?_
    refine wk_r (fun v => 0 ≤ v.toInt ∧ v.toInt ≤ 8) (i_8 (by assumption) (by omega)) (fun v40 hv40 => ?_)
    refine wk_g (wn_in (by first | omega | decide) (by first | omega | decide)) ?_
    refine wk_g (wn_in (by first | omega | decide) (by first | omega | decide)) ?_
    refine wk_v (fun v43 => ?_)
    exact tt_L_countCosts_72 (by assumption) (by first | omega | decide) (by first | omega | decide) (by first | omega | decide)
theorem tt_L_countCosts {b : Nat} {a1 : Int32} {a2 : Int32} {σ : wc_S} (hσ : wJ b σ) (q0 : b = 30 ∨ b = 49) (q1 : 0 ≤ a1.toInt) (q2 : a1.toInt ≤ 8) : wk (wf_L_countCosts b a1 a2 σ) (wJ b) := by
  unfold wf_L_countCosts
  refine wk_rl (by assumption) (by omega) (fun v1 hv1 => ?_)
  refine wk_e (fun v2 ev2 => ?_)
  try (have hv2 : v2.toInt = v1.toInt + 1 := by rw [ev2]; exact wn_up (by omega) (by omega))
  refine wk_g (wn_in (by first | omega | decide) (by first | omega | decide)) ?_
  refine wk_v (fun v4 => ?_)
  refine wk_i (fun hc1 => ?_) (fun hc1 => ?_)
  · try simp only [wn_le, wn_lt, wn_eq, wn_0, wn_1, wn_m1, wn_9, wn_8, wn_4, wn_2, wn_100] at hc1
    unfold wf_L_countCosts_37
    exact tt_L_countCosts_38 (by assumption) (by first | omega | decide) (by first | omega | decide) (by first | omega | decide) (by first | omega | decide) (by first | omega | decide)
  · try simp only [wn_le, wn_lt, wn_eq, wn_0, wn_1, wn_m1, wn_9, wn_8, wn_4, wn_2, wn_100] at hc1
    refine wk_rl (by assumption) (by omega) (fun v44 hv44 => ?_)
    refine wk_i (fun hc2 => ?_) (fun hc2 => ?_)
    · try simp only [wn_le, wn_lt, wn_eq, wn_0, wn_1, wn_m1, wn_9, wn_8, wn_4, wn_2, wn_100] at hc2
      unfold wf_L_countCosts_37
      exact tt_L_countCosts_38 (by assumption) (by first | omega | decide) (by first | omega | decide) (by first | omega | decide) (by first | omega | decide) (by first | omega | decide)
    · try simp only [wn_le, wn_lt, wn_eq, wn_0, wn_1, wn_m1, wn_9, wn_8, wn_4, wn_2, wn_100] at hc2
      exact tt_L_countCosts_38 (by assumption) (by first | omega | decide) (by first | omega | decide) (by first | omega | decide) (by first | omega | decide) (by first | omega | decide)
theorem tt_L_put_20 {b : Nat} {x1 : Int32} {s0 : Int32} {σ : wc_S} (hσ : wJ b σ) (q0 : b = 30 ∨ b = 49) (q1 : 0 ≤ x1.toInt) (q2 : x1.toInt ≤ 8) : wk (wf_L_put_20 b x1 s0 σ) (wJ 0) := by
  unfold wf_L_put_20
  refine wk_rl (by assumption) (by omega) (fun v3 hv3 => ?_)
  refine wk_g (wn_in (by first | omega | decide) (by first | omega | decide)) ?_
  refine wk_w (u_b (by assumption) (by omega) (wn_bb _)) (fun σ5 hσ5 => ?_)
  refine wk_b1 (tt_L_countKilometres (by assumption) (by first | omega | decide) (by first | omega | decide) (by first | omega | decide)) (fun σ6 hr1 => ?_)
  have hσ6 : wJ _ σ6 := hr1
  refine wk_b1 (tt_L_countCosts (by assumption) (by first | omega | decide) (by first | omega | decide) (by first | omega | decide)) (fun σ7 hr2 => ?_)
  have hσ7 : wJ _ σ7 := hr2
  refine wk_rl (by assumption) (by omega) (fun v8 hv8 => ?_)
  refine wk_g (wn_in (by first | omega | decide) (by first | omega | decide)) ?_
  refine wk_w (u_8 (by assumption) (by omega) (by first | omega | decide | (simp only [wn_0]; omega))) (fun σ10 hσ10 => ?_)
  refine wk_g (wn_in (by first | omega | decide) (by first | omega | decide)) ?_
  refine wk_w (u_o (by assumption) (by omega)) (fun σ12 hσ12 => ?_)
  refine wk_rl (by assumption) (by omega) (fun v13 hv13 => ?_)
  refine wk_e (fun v14 ev14 => ?_)
  try (have hv14 : v14.toInt = v13.toInt + 1 := by rw [ev14]; exact wn_up (by omega) (by omega))
  refine wk_w (u_l (wJ_0 (by assumption)) (by omega) (by first | omega | decide | (simp only [wn_0]; omega))) (fun σ15 hσ15 => ?_)
  exact wk_s ((show wJ 0 _ from by assumption))
theorem tt_L_put {b : Nat} {a1 : Int32} {σ : wc_S} (hσ : wJ b σ) (q0 : b = 30 ∨ b = 49) (q1 : 0 ≤ a1.toInt) (q2 : a1.toInt ≤ 8) : wk (wf_L_put b a1 σ) (wJ 0) := by
  unfold wf_L_put
  refine wk_rl (by assumption) (by omega) (fun v1 hv1 => ?_)
  refine wk_i (fun hc1 => ?_) (fun hc1 => ?_)
  · try simp only [wn_le, wn_lt, wn_eq, wn_0, wn_1, wn_m1, wn_9, wn_8, wn_4, wn_2, wn_100] at hc1
    unfold wf_L_put_19
    exact tt_L_put_20 (by assumption) (by first | omega | decide) (by first | omega | decide) (by first | omega | decide)
  · try simp only [wn_le, wn_lt, wn_eq, wn_0, wn_1, wn_m1, wn_9, wn_8, wn_4, wn_2, wn_100] at hc1
    refine wk_b2 (tt_L_isWornWith (by assumption) (by first | omega | decide) (by first | omega | decide) (by first | omega | decide)) (fun r17 σ16 hr2 => ?_)
    have hσ16 : wJ _ σ16 := hr2
    refine wk_i (fun hc3 => ?_) (fun hc3 => ?_)
    · try simp only [wn_le, wn_lt, wn_eq, wn_0, wn_1, wn_m1, wn_9, wn_8, wn_4, wn_2, wn_100] at hc3
      unfold wf_L_put_19
      exact tt_L_put_20 (by assumption) (by first | omega | decide) (by first | omega | decide) (by first | omega | decide)
    · try simp only [wn_le, wn_lt, wn_eq, wn_0, wn_1, wn_m1, wn_9, wn_8, wn_4, wn_2, wn_100] at hc3
      exact tt_L_put_20 (by assumption) (by first | omega | decide) (by first | omega | decide) (by first | omega | decide)
theorem tt_L_takeBack {b : Nat} {σ : wc_S} (hσ : wJ 0 σ) (q0 : b = 30 ∨ b = 49) : wk (wf_L_takeBack b σ) (wJ 0) := by
  unfold wf_L_takeBack
  refine wk_rl (by assumption) (by omega) (fun v1 hv1 => ?_)
  refine wk_i (fun hc1 => ?_) (fun hc1 => ?_)
  · try simp only [wn_le, wn_lt, wn_eq, wn_0, wn_1, wn_m1, wn_9, wn_8, wn_4, wn_2, wn_100] at hc1
    exact wk_s ((show wJ 0 _ from wJ_0 (by assumption)))
  · try simp only [wn_le, wn_lt, wn_eq, wn_0, wn_1, wn_m1, wn_9, wn_8, wn_4, wn_2, wn_100] at hc1
    refine wk_rl (by assumption) (by omega) (fun v3 hv3 => ?_)
    refine wk_e (fun v4 ev4 => ?_)
    try (have hv4 : v4.toInt = v3.toInt - 1 := by rw [ev4]; exact wn_dn (by omega) (by omega))
    refine wk_w (u_lb (by assumption) (by omega) (by omega)) (fun σ5 hσ5 => ?_)
    refine wk_rl (by assumption) (by omega) (fun v6 hv6 => ?_)
    refine wk_g (wn_in (by first | omega | decide) (by first | omega | decide)) ?_
    refine wk_r (fun v => 0 ≤ v.toInt ∧ v.toInt ≤ 8) (i_8 (by assumption) (by omega)) (fun v8 hv8 => ?_)
    refine wk_g (wn_in (by first | omega | decide) (by first | omega | decide)) ?_
    refine wk_w (u_o (by assumption) (by omega)) (fun σ10 hσ10 => ?_)
    exact wk_s ((show wJ 0 _ from wJ_0 (by assumption)))
theorem tt_L_mayPut0 {c : Nat} {b : Nat} {a1 : Int32} {σ : wc_S} (hσ : wJ c σ) (q0 : b = 30 ∨ b = 49) (q1 : 0 ≤ a1.toInt) (q2 : a1.toInt ≤ 8) : wk (wf_L_mayPut b a1 σ) (fun r => wJ c r.2 ∧ (r.1.toInt ≠ 0 → (σ b 9).toInt ≤ 8)) := by
  unfold wf_L_mayPut
  refine wk_g (wn_in (by first | omega | decide) (by first | omega | decide)) ?_
  refine wk_v (fun v2 => ?_)
  refine wk_i (fun hc1 => ?_) (fun hc1 => ?_)
  · try simp only [wn_le, wn_lt, wn_eq, wn_0, wn_1, wn_m1, wn_9, wn_8, wn_4, wn_2, wn_100] at hc1
    refine wk_rl (by assumption) (by omega) (fun v4 hv4 => ?_)
    refine wk_g (wn_in (by first | omega | decide) (by first | omega | decide)) ?_
    refine wk_r (fun v => 0 ≤ v.toInt ∧ v.toInt ≤ 8) (i_8 (by assumption) (by omega)) (fun v6 hv6 => ?_)
    refine wk_i (fun hc2 => ?_) (fun hc2 => ?_)
    · try simp only [wn_le, wn_lt, wn_eq, wn_0, wn_1, wn_m1, wn_9, wn_8, wn_4, wn_2, wn_100] at hc2
      refine wk_rl (by assumption) (by omega) (fun v8 hv8 => ?_)
      refine wk_i (fun hc3 => ?_) (fun hc3 => ?_)
      · try simp only [wn_le, wn_lt, wn_eq, wn_0, wn_1, wn_m1, wn_9, wn_8, wn_4, wn_2, wn_100] at hc3
        exact wk_s (⟨show wJ c _ from by assumption, fun hne => by first | omega | exact absurd rfl hne⟩)
      · try simp only [wn_le, wn_lt, wn_eq, wn_0, wn_1, wn_m1, wn_9, wn_8, wn_4, wn_2, wn_100] at hc3
        refine wk_rl (by assumption) (by omega) (fun v10 hv10 => ?_)
        refine wk_e (fun v11 ev11 => ?_)
        try (have hv11 : v11.toInt = v10.toInt - 1 := by rw [ev11]; exact wn_dn (by omega) (by omega))
        refine wk_g (wn_in (by first | omega | decide) (by first | omega | decide)) ?_
        refine wk_r (fun v => 0 ≤ v.toInt ∧ v.toInt ≤ 8) (i_8 (by assumption) (by omega)) (fun v13 hv13 => ?_)
        refine wk_b2 (tt_L_mayFollow (by assumption) (by first | omega | decide) (by first | omega | decide) (by first | omega | decide) (by first | omega | decide) (by first | omega | decide)) (fun r15 σ14 hr4 => ?_)
        have hσ14 : wJ _ σ14 := hr4
        refine wk_i (fun hc5 => ?_) (fun hc5 => ?_)
        · try simp only [wn_le, wn_lt, wn_eq, wn_0, wn_1, wn_m1, wn_9, wn_8, wn_4, wn_2, wn_100] at hc5
          exact wk_s (⟨show wJ c _ from by assumption, fun hne => by first | omega | exact absurd rfl hne⟩)
        · try simp only [wn_le, wn_lt, wn_eq, wn_0, wn_1, wn_m1, wn_9, wn_8, wn_4, wn_2, wn_100] at hc5
          exact wk_s (⟨show wJ c _ from by assumption, fun hne => by first | omega | exact absurd rfl hne⟩)
    · try simp only [wn_le, wn_lt, wn_eq, wn_0, wn_1, wn_m1, wn_9, wn_8, wn_4, wn_2, wn_100] at hc2
      exact wk_s (⟨show wJ c _ from by assumption, fun hne => by first | omega | exact absurd rfl hne⟩)
  · try simp only [wn_le, wn_lt, wn_eq, wn_0, wn_1, wn_m1, wn_9, wn_8, wn_4, wn_2, wn_100] at hc1
    exact wk_s (⟨show wJ c _ from by assumption, fun hne => by first | omega | exact absurd rfl hne⟩)
theorem tt_L_mayPut {c b : Nat} {a1 : Int32} {σ : wc_S} (hσ : wJ c σ) (q0 : b = 30 ∨ b = 49) (q1 : 0 ≤ a1.toInt) (q2 : a1.toInt ≤ 8) : wk (wf_L_mayPut b a1 σ) (fun r => wJ c r.2 ∧ (r.1.toInt ≠ 0 → (r.2 b 9).toInt ≤ 8)) := by
  obtain ⟨x, h1, h2⟩ := tt_L_mayPut0 hσ q0 q1 q2 (a1 := a1)
  have e : x.2 = σ := wr_same (wr_L_mayPut b a1 σ x h1) (fun _ _ h => h)
  refine ⟨x, h1, h2.1, fun hne => ?_⟩
  rw [e]; exact h2.2 hne
theorem tt_L_layAll_6 {b : Nat} {k1 : Nat} (q0 : b = 30 ∨ b = 49) (q1 : k1 = 69 ∨ k1 = 70) : ∀ (n : Nat) (x2 : Int32) (σ : wc_S), wJ 0 σ → 0 ≤ x2.toInt → x2.toInt ≤ 9 → 9 < x2.toInt + n → wk (wf_L_layAll_6 b k1 n x2 σ) (fun r => wJ 0 r.2) := by
  intro n
  induction n with
  | zero => intro x2 σ hσ c0 c1 c2; omega
  | succ n ih =>
    intro x2 σ hσ c0 c1 c2
    show wk (wf_L_layAll_6_b b k1 (wf_L_layAll_6 b k1 n) x2 σ) _
    unfold wf_L_layAll_6_b
    refine wk_rn (by assumption) (fun v2 hv2 => ?_)
    refine wk_i (fun hc1 => ?_) (fun hc1 => ?_)
    · try simp only [wn_le, wn_lt, wn_eq, wn_0, wn_1, wn_m1, wn_9, wn_8, wn_4, wn_2, wn_100] at hc1
      exact wk_s ((show wJ 0 _ from by assumption))
    · try simp only [wn_le, wn_lt, wn_eq, wn_0, wn_1, wn_m1, wn_9, wn_8, wn_4, wn_2, wn_100] at hc1
      refine wk_g (wn_in (by first | omega | decide) (by first | omega | decide)) ?_
      refine wk_r (fun v => 0 ≤ v.toInt ∧ v.toInt ≤ 8) (i_8 (by assumption) (by omega)) (fun v5 hv5 => ?_)
      refine wk_b2 (tt_L_mayPut (by assumption) (by first | omega | decide) (by first | omega | decide) (by first | omega | decide)) (fun r7 σ6 hr2 => ?_)
      obtain ⟨hσ6, hpσ6⟩ := hr2
      try simp only [wn_0, wn_1, wn_m1, wn_9, wn_8, wn_4, wn_2, wn_100] at hpσ6
      refine wk_i (fun hc3 => ?_) (fun hc3 => ?_)
      · try simp only [wn_le, wn_lt, wn_eq, wn_0, wn_1, wn_m1, wn_9, wn_8, wn_4, wn_2, wn_100] at hc3
        exact wk_s ((show wJ 0 _ from by assumption))
      · try simp only [wn_le, wn_lt, wn_eq, wn_0, wn_1, wn_m1, wn_9, wn_8, wn_4, wn_2, wn_100] at hc3
        refine wk_g (wn_in (by first | omega | decide) (by first | omega | decide)) ?_
        refine wk_r (fun v => 0 ≤ v.toInt ∧ v.toInt ≤ 8) (i_8 (by assumption) (by omega)) (fun v10 hv10 => ?_)
        refine wk_b1 (tt_L_put (wJ_c (by assumption) (by omega) (hpσ6 (by omega))) (by first | omega | decide) (by first | omega | decide) (by first | omega | decide)) (fun σ11 hr4 => ?_)
        have hσ11 : wJ _ σ11 := hr4
        refine wk_e (fun v12 ev12 => ?_)
        try (have hv12 : v12.toInt = x2.toInt + 1 := by rw [ev12]; exact wn_up (by omega) (by omega))
        exact ih _ _ (by assumption) (by omega) (by omega) (by omega)
theorem tt_L_layAll {b : Nat} {k1 : Nat} {σ : wc_S} (hσ : wJ 0 σ) (q0 : b = 30 ∨ b = 49) (q1 : k1 = 69 ∨ k1 = 70) : wk (wf_L_layAll b k1 σ) (fun r => wJ 0 r.2) := by
  unfold wf_L_layAll
  refine wk_b1 (tt_L_clear (by assumption) (by first | omega | decide)) (fun σ1 hr1 => ?_)
  have hσ1 : wJ _ σ1 := hr1
  exact tt_L_layAll_6 (by omega) (by omega) 16 _ _ (by assumption) (by first | omega | decide) (by first | omega | decide) (by first | omega | decide) 
theorem tt_S_keepBest  {σ : wc_S} (hσ : wJ 0 σ)  : wk (wf_S_keepBest σ) (wJ 0) := by
  unfold wf_S_keepBest
  refine wk_w (u_f (by assumption) (by first | omega | decide | (simp only [wn_0]; omega))) (fun σ1 hσ1 => ?_)
  refine wk_b2 (tt_L_penaltySoFar (by assumption) (by first | omega | decide)) (fun r3 σ2 hr1 => ?_)
  have hσ2 : wJ _ σ2 := hr1
  refine wk_w (u_68 (by assumption) (by decide)) (fun σ4 hσ4 => ?_)
  refine wk_rn (by assumption) (fun v5 hv5 => ?_)
  refine wk_g (wn_le9 (by omega) (by omega)) ?_
  refine wk_w (uA_69 (by assumption)) (fun σ7 hσ7 => ?_)
  exact wk_s ((show wJ 0 _ from by assumption))
theorem tt_S_putAndGoOn {g : Int32 → wc_S → Option wc_S} {a1 : Int32} {a2 : Int32} {σ : wc_S} (hσ : wJ 30 σ) (q0 : 0 ≤ a1.toInt) (q1 : a1.toInt ≤ 8) (q2 : 0 ≤ a2.toInt) (q3 : a2.toInt ≤ 8) (hg : ∀ v σ, wJ 0 σ → v.toInt = a2.toInt + 1 → v.toInt ≤ 9 → wk (g v σ) (wJ 0)) : wk (wf_S_putAndGoOn g a1 a2 σ) (wJ 0) := by
  unfold wf_S_putAndGoOn
  refine wk_v (fun v1 => ?_)
  refine wk_i (fun hc1 => ?_) (fun hc1 => ?_)
  · try simp only [wn_le, wn_lt, wn_eq, wn_0, wn_1, wn_m1, wn_9, wn_8, wn_4, wn_2, wn_100] at hc1
    refine wk_v (fun v3 => ?_)
    refine wk_e (fun v4 ev4 => ?_)
    try (have hv4 : v4.toInt = v3.toInt - 1 := by rw [ev4]; exact wn_dn (by omega) (by omega))
    refine wk_w (u_68 (by assumption) (by decide)) (fun σ5 hσ5 => ?_)
    refine wk_b1 (tt_L_put (by assumption) (by first | omega | decide) (by first | omega | decide) (by first | omega | decide)) (fun σ6 hr2 => ?_)
    have hσ6 : wJ _ σ6 := hr2
    refine wk_b2 (tt_L_penaltySoFar (by assumption) (by first | omega | decide)) (fun r8 σ7 hr3 => ?_)
    have hσ7 : wJ _ σ7 := hr3
    refine wk_v (fun v9 => ?_)
    refine wk_i (fun hc4 => ?_) (fun hc4 => ?_)
    · try simp only [wn_le, wn_lt, wn_eq, wn_0, wn_1, wn_m1, wn_9, wn_8, wn_4, wn_2, wn_100] at hc4
      unfold wf_S_putAndGoOn_52
      refine wk_b1 (tt_L_takeBack (by assumption) (by first | omega | decide)) (fun σ11 hr5 => ?_)
      have hσ11 : wJ _ σ11 := hr5
      exact wk_s ((show wJ 0 _ from wJ_0 (by assumption)))
    · try simp only [wn_le, wn_lt, wn_eq, wn_0, wn_1, wn_m1, wn_9, wn_8, wn_4, wn_2, wn_100] at hc4
      refine wk_e (fun v12 ev12 => ?_)
      try (have hv12 : v12.toInt = a2.toInt + 1 := by rw [ev12]; exact wn_up (by omega) (by omega))
      refine wk_b1 (hg _ _ (by assumption) (by omega) (by omega)) (fun σ13 hr6 => ?_)
      have hσ13 : wJ _ σ13 := hr6
      unfold wf_S_putAndGoOn_52
      refine wk_b1 (tt_L_takeBack (by assumption) (by first | omega | decide)) (fun σ11 hr7 => ?_)
      have hσ11 : wJ _ σ11 := hr7
      exact wk_s ((show wJ 0 _ from wJ_0 (by assumption)))
  · try simp only [wn_le, wn_lt, wn_eq, wn_0, wn_1, wn_m1, wn_9, wn_8, wn_4, wn_2, wn_100] at hc1
    refine wk_w (u_68 (by assumption) (by decide)) (fun σ14 hσ14 => ?_)
    exact wk_s ((show wJ 0 _ from wJ_0 (by assumption)))
theorem tt_S_goOnAt_18 {g : Int32 → wc_S → Option wc_S}  : ∀ (n : Nat) (x1 : Int32) (x2 : Int32) (σ : wc_S), wJ 0 σ → 0 ≤ x1.toInt → x1.toInt ≤ 8 → 0 ≤ x2.toInt → x2.toInt ≤ 9 → 9 < x2.toInt + n → (∀ v σ, wJ 0 σ → v.toInt = x1.toInt + 1 → v.toInt ≤ 9 → wk (g v σ) (wJ 0)) → wk (wf_S_goOnAt_18 g n x1 x2 σ) (wJ 0) := by
  intro n
  induction n with
  | zero => intro x1 x2 σ hσ c0 c1 c2 c3 c4 hg; omega
  | succ n ih =>
    intro x1 x2 σ hσ c0 c1 c2 c3 c4 hg
    show wk (wf_S_goOnAt_18_b g (wf_S_goOnAt_18 g n) x1 x2 σ) _
    unfold wf_S_goOnAt_18_b
    refine wk_rn (by assumption) (fun v3 hv3 => ?_)
    refine wk_i (fun hc1 => ?_) (fun hc1 => ?_)
    · try simp only [wn_le, wn_lt, wn_eq, wn_0, wn_1, wn_m1, wn_9, wn_8, wn_4, wn_2, wn_100] at hc1
      exact wk_s ((show wJ 0 _ from by assumption))
    · try simp only [wn_le, wn_lt, wn_eq, wn_0, wn_1, wn_m1, wn_9, wn_8, wn_4, wn_2, wn_100] at hc1
      refine wk_v (fun v5 => ?_)
      refine wk_i (fun hc2 => ?_) (fun hc2 => ?_)
      · try simp only [wn_le, wn_lt, wn_eq, wn_0, wn_1, wn_m1, wn_9, wn_8, wn_4, wn_2, wn_100] at hc2
        refine wk_b2 (tt_L_mayPut (by assumption) (by first | omega | decide) (by first | omega | decide) (by first | omega | decide)) (fun r8 σ7 hr3 => ?_)
        obtain ⟨hσ7, hpσ7⟩ := hr3
        try simp only [wn_0, wn_1, wn_m1, wn_9, wn_8, wn_4, wn_2, wn_100] at hpσ7
        refine wk_i (fun hc4 => ?_) (fun hc4 => ?_)
        · try simp only [wn_le, wn_lt, wn_eq, wn_0, wn_1, wn_m1, wn_9, wn_8, wn_4, wn_2, wn_100] at hc4
          unfold wf_S_goOnAt_53
          refine wk_e (fun v10 ev10 => ?_)
          try (have hv10 : v10.toInt = x2.toInt + 1 := by rw [ev10]; exact wn_up (by omega) (by omega))
          exact ih _ _ _ (by assumption) (by omega) (by omega) (by omega) (by omega) (by omega) (by assumption)
        · try simp only [wn_le, wn_lt, wn_eq, wn_0, wn_1, wn_m1, wn_9, wn_8, wn_4, wn_2, wn_100] at hc4
          refine wk_b1 (tt_S_putAndGoOn (wJ_c (by assumption) (by omega) (hpσ7 (by omega))) (by first | omega | decide) (by first | omega | decide) (by first | omega | decide) (by first | omega | decide) (by assumption)) (fun σ11 hr5 => ?_)
          have hσ11 : wJ _ σ11 := hr5
          unfold wf_S_goOnAt_53
          refine wk_e (fun v10 ev10 => ?_)
          try (have hv10 : v10.toInt = x2.toInt + 1 := by rw [ev10]; exact wn_up (by omega) (by omega))
          exact ih _ _ _ (by assumption) (by omega) (by omega) (by omega) (by omega) (by omega) (by assumption)
      · try simp only [wn_le, wn_lt, wn_eq, wn_0, wn_1, wn_m1, wn_9, wn_8, wn_4, wn_2, wn_100] at hc2
        exact wk_s ((show wJ 0 _ from by assumption))
theorem tt_S_goOnAt_r {g : Int32 → wc_S → Option wc_S} {a1 : Int32} {σ : wc_S} (hσ : wJ 0 σ) (q0 : 0 ≤ a1.toInt) (q1 : a1.toInt ≤ 9) (hg : ∀ v σ, wJ 0 σ → v.toInt = a1.toInt + 1 → v.toInt ≤ 9 → wk (g v σ) (wJ 0)) : wk (wf_S_goOnAt_r g a1 σ) (wJ 0) := by
  unfold wf_S_goOnAt_r
  refine wk_rn (by assumption) (fun v1 hv1 => ?_)
  refine wk_i (fun hc1 => ?_) (fun hc1 => ?_)
  · try simp only [wn_le, wn_lt, wn_eq, wn_0, wn_1, wn_m1, wn_9, wn_8, wn_4, wn_2, wn_100] at hc1
    exact tt_S_goOnAt_18  16 _ _ _ (by assumption) (by first | omega | decide) (by first | omega | decide) (by first | omega | decide) (by first | omega | decide) (by first | omega | decide) (by assumption)
  · try simp only [wn_le, wn_lt, wn_eq, wn_0, wn_1, wn_m1, wn_9, wn_8, wn_4, wn_2, wn_100] at hc1
    refine wk_b1 (tt_S_keepBest (by assumption) ) (fun σ12 hr2 => ?_)
    have hσ12 : wJ _ σ12 := hr2
    exact wk_s ((show wJ 0 _ from wJ_0 (by assumption)))
theorem tt_S_goOnAt : ∀ (d : Nat) (a1 : Int32) (σ : wc_S), wJ 0 σ → 0 ≤ a1.toInt → a1.toInt ≤ 9 → 9 < a1.toInt + d → wk (wf_S_goOnAt d a1 σ) (wJ 0) := by
  intro d
  induction d with
  | zero => intro a1 σ hσ c0 c1 c2; omega
  | succ d ih =>
    intro a1 σ hσ c0 c1 c2
    show wk (wf_S_goOnAt_r (wf_S_goOnAt d) a1 σ) _
    exact tt_S_goOnAt_r hσ c0 c1 (fun v σ hσ e h9 => ih v σ hσ (by omega) h9 (by omega))
theorem tt_S_searchWith {a1 : Int32} {σ : wc_S} (hσ : wJ 0 σ)  : wk (wf_S_searchWith a1 σ) (wJ 0) := by
  unfold wf_S_searchWith
  refine wk_w (u_68 (by assumption) (by decide)) (fun σ1 hσ1 => ?_)
  refine wk_w (u_68 (by assumption) (by decide)) (fun σ2 hσ2 => ?_)
  refine wk_w (u_f (by assumption) (by first | omega | decide | (simp only [wn_0]; omega))) (fun σ3 hσ3 => ?_)
  refine wk_w (u_68 (by assumption) (by decide)) (fun σ4 hσ4 => ?_)
  refine wk_b1 (tt_L_clear (by assumption) (by first | omega | decide)) (fun σ5 hr1 => ?_)
  have hσ5 : wJ _ σ5 := hr1
  refine wk_b1 (tt_S_goOnAt 11 _ _ (by assumption) (by first | omega | decide) (by first | omega | decide) (by first | omega | decide)) (fun σ6 hr2 => ?_)
  have hσ6 : wJ _ σ6 := hr2
  exact wk_s ((show wJ 0 _ from by assumption))
theorem tt_W_isOutside {c : Nat} {a0 : Int32} {a1 : Int32} {a2 : Int32} {σ : wc_S} (hσ : wJ c σ)  : wk (wf_W_isOutside a0 a1 a2 σ) (fun r => wJ c r.2 ∧ (r.1.toInt = 0 → a1.toInt ≤ a0.toInt ∧ a0.toInt ≤ a2.toInt)) := by
  unfold wf_W_isOutside
  refine wk_i (fun hc1 => ?_) (fun hc1 => ?_)
  · try simp only [wn_le, wn_lt, wn_eq, wn_0, wn_1, wn_m1, wn_9, wn_8, wn_4, wn_2, wn_100] at hc1
    exact wk_s (⟨show wJ c _ from by assumption, fun hz => by first | omega | exact absurd (show (1 : Int32).toInt = 0 from hz) (by decide)⟩)
  · try simp only [wn_le, wn_lt, wn_eq, wn_0, wn_1, wn_m1, wn_9, wn_8, wn_4, wn_2, wn_100] at hc1
    refine wk_i (fun hc2 => ?_) (fun hc2 => ?_)
    · try simp only [wn_le, wn_lt, wn_eq, wn_0, wn_1, wn_m1, wn_9, wn_8, wn_4, wn_2, wn_100] at hc2
      exact wk_s (⟨show wJ c _ from by assumption, fun hz => by first | omega | exact absurd (show (1 : Int32).toInt = 0 from hz) (by decide)⟩)
    · try simp only [wn_le, wn_lt, wn_eq, wn_0, wn_1, wn_m1, wn_9, wn_8, wn_4, wn_2, wn_100] at hc2
      exact wk_s (⟨show wJ c _ from by assumption, fun hz => by first | omega | exact absurd (show (1 : Int32).toInt = 0 from hz) (by decide)⟩)
theorem tt_W_isNoCoil {c : Nat} {a1 : Int32} {σ : wc_S} (hσ : wJ c σ)  : wk (wf_W_isNoCoil a1 σ) (fun r => wJ c r.2 ∧ (r.1.toInt = 0 → 0 ≤ a1.toInt ∧ a1.toInt ≤ 8)) := by
  unfold wf_W_isNoCoil
  refine wk_i (fun hc1 => ?_) (fun hc1 => ?_)
  · try simp only [wn_le, wn_lt, wn_eq, wn_0, wn_1, wn_m1, wn_9, wn_8, wn_4, wn_2, wn_100] at hc1
    exact wk_s (⟨show wJ c _ from by assumption, fun hz => by first | omega | exact absurd (show (1 : Int32).toInt = 0 from hz) (by decide)⟩)
  · try simp only [wn_le, wn_lt, wn_eq, wn_0, wn_1, wn_m1, wn_9, wn_8, wn_4, wn_2, wn_100] at hc1
    refine wk_rn (by assumption) (fun v2 hv2 => ?_)
    refine wk_i (fun hc2 => ?_) (fun hc2 => ?_)
    · try simp only [wn_le, wn_lt, wn_eq, wn_0, wn_1, wn_m1, wn_9, wn_8, wn_4, wn_2, wn_100] at hc2
      exact wk_s (⟨show wJ c _ from by assumption, fun hz => by first | omega | exact absurd (show (1 : Int32).toInt = 0 from hz) (by decide)⟩)
    · try simp only [wn_le, wn_lt, wn_eq, wn_0, wn_1, wn_m1, wn_9, wn_8, wn_4, wn_2, wn_100] at hc2
      exact wk_s (⟨show wJ c _ from by assumption, fun hz => by first | omega | exact absurd (show (1 : Int32).toInt = 0 from hz) (by decide)⟩)
theorem tt_W_forgetOrder {c : Nat}  {σ : wc_S} (hσ : wJ c σ)  : wk (wf_W_forgetOrder σ) (wJ c) := by
  unfold wf_W_forgetOrder
  refine wk_w (u_o (by assumption) (by omega)) (fun σ1 hσ1 => ?_)
  refine wk_w (u_o (by assumption) (by omega)) (fun σ2 hσ2 => ?_)
  exact wk_s ((show wJ c _ from by assumption))
theorem tt_W_requireOrder {c : Nat}  {σ : wc_S} (hσ : wJ c σ)  : wk (wf_W_requireOrder σ) (fun r => wJ c (wr_sv r) ∧ (∀ u, r = .inl u → u.1 = 1) ∧ (∀ u, r = .inr u → True)) := by
  unfold wf_W_requireOrder
  refine wk_v (fun v1 => ?_)
  refine wk_i (fun hc1 => ?_) (fun hc1 => ?_)
  · try simp only [wn_le, wn_lt, wn_eq, wn_0, wn_1, wn_m1, wn_9, wn_8, wn_4, wn_2, wn_100] at hc1
    exact wk_s (⟨show wJ c _ from by assumption, (fun u h => by cases h <;> rfl), fun _ _ => trivial⟩)
  · try simp only [wn_le, wn_lt, wn_eq, wn_0, wn_1, wn_m1, wn_9, wn_8, wn_4, wn_2, wn_100] at hc1
    exact wk_s (⟨show wJ c _ from by assumption, (fun u h => by cases h <;> rfl), fun _ _ => trivial⟩)
theorem tt_W_requirePlace {c : Nat} {a1 : Int32} {σ : wc_S} (hσ : wJ c σ)  : wk (wf_W_requirePlace a1 σ) (fun r => wJ c (wr_sv r) ∧ (∀ u, r = .inl u → u.1 = 0) ∧ (∀ u, r = .inr u → 0 ≤ a1.toInt ∧ a1.toInt ≤ 8)) := by
  unfold wf_W_requirePlace
  refine wk_b2 (tt_W_isNoCoil (by assumption) ) (fun r2 σ1 hr1 => ?_)
  obtain ⟨hσ1, hpσ1⟩ := hr1
  try simp only [wn_0, wn_1, wn_m1, wn_9, wn_8, wn_4, wn_2, wn_100] at hpσ1
  refine wk_i (fun hc2 => ?_) (fun hc2 => ?_)
  · try simp only [wn_le, wn_lt, wn_eq, wn_0, wn_1, wn_m1, wn_9, wn_8, wn_4, wn_2, wn_100] at hc2
    exact wk_s (⟨show wJ c _ from by assumption, (fun u h => by cases h <;> rfl), (fun u h => by first | omega | cases h)⟩)
  · try simp only [wn_le, wn_lt, wn_eq, wn_0, wn_1, wn_m1, wn_9, wn_8, wn_4, wn_2, wn_100] at hc2
    exact wk_s (⟨show wJ c _ from by assumption, (fun u h => by cases h <;> rfl), (fun u h => by first | omega | cases h)⟩)
theorem tt_W_readIntoScratch_5   : ∀ (n : Nat) (x1 : Int64) (x3 : Int32) (x4 : Int32) (σ : wc_S), wJ 0 σ → 0 ≤ x4.toInt → x4.toInt ≤ 9 → 9 < x4.toInt + n → wk (wf_W_readIntoScratch_5  n x1 x3 x4 σ) (fun r => wJ 0 r.2) := by
  intro n
  induction n with
  | zero => intro x1 x3 x4 σ hσ c0 c1 c2; omega
  | succ n ih =>
    intro x1 x3 x4 σ hσ c0 c1 c2
    show wk (wf_W_readIntoScratch_5_b (wf_W_readIntoScratch_5  n) x1 x3 x4 σ) _
    unfold wf_W_readIntoScratch_5_b
    refine wk_rn (by assumption) (fun v1 hv1 => ?_)
    refine wk_i (fun hc1 => ?_) (fun hc1 => ?_)
    · try simp only [wn_le, wn_lt, wn_eq, wn_0, wn_1, wn_m1, wn_9, wn_8, wn_4, wn_2, wn_100] at hc1
      exact wk_s ((show wJ 0 _ from by assumption))
    · try simp only [wn_le, wn_lt, wn_eq, wn_0, wn_1, wn_m1, wn_9, wn_8, wn_4, wn_2, wn_100] at hc1
      refine wk_v (fun v3 => ?_)
      refine wk_v (fun v4 => ?_)
      refine wk_v (fun v5 => ?_)
      refine wk_v (fun v6 => ?_)
      refine wk_b2 (tt_W_isNoCoil (by assumption) ) (fun r8 σ7 hr2 => ?_)
      obtain ⟨hσ7, hpσ7⟩ := hr2
      try simp only [wn_0, wn_1, wn_m1, wn_9, wn_8, wn_4, wn_2, wn_100] at hpσ7
      refine wk_i (fun hc3 => ?_) (fun hc3 => ?_)
      · try simp only [wn_le, wn_lt, wn_eq, wn_0, wn_1, wn_m1, wn_9, wn_8, wn_4, wn_2, wn_100] at hc3
        refine wk_v (fun v10 => ?_)
        refine wk_v (fun v11 => ?_)
        refine wk_i (fun hc4 => ?_) (fun hc4 => ?_)
        · try simp only [wn_le, wn_lt, wn_eq, wn_0, wn_1, wn_m1, wn_9, wn_8, wn_4, wn_2, wn_100] at hc4
          exact wk_s ((show wJ 0 _ from by assumption))
        · try simp only [wn_le, wn_lt, wn_eq, wn_0, wn_1, wn_m1, wn_9, wn_8, wn_4, wn_2, wn_100] at hc4
          refine wk_v (fun v13 => ?_)
          refine wk_v (fun v14 => ?_)
          refine wk_g (wn_in (by first | omega | decide) (by first | omega | decide)) ?_
          refine wk_w (u_8 (by assumption) (by omega) (by first | omega | decide | (simp only [wn_0]; omega))) (fun σ16 hσ16 => ?_)
          refine wk_e (fun v17 ev17 => ?_)
          try (have hv17 : v17.toInt = x4.toInt + 1 := by rw [ev17]; exact wn_up (by omega) (by omega))
          exact ih _ _ _ _ (by assumption) (by omega) (by omega) (by omega)
      · try simp only [wn_le, wn_lt, wn_eq, wn_0, wn_1, wn_m1, wn_9, wn_8, wn_4, wn_2, wn_100] at hc3
        exact wk_s ((show wJ 0 _ from by assumption))
theorem tt_W_readIntoScratch {a1 : Int64} {σ : wc_S} (hσ : wJ 0 σ)  : wk (wf_W_readIntoScratch a1 σ) (fun r => wJ 0 r.2) := by
  unfold wf_W_readIntoScratch
  exact tt_W_readIntoScratch_5  16 _ _ _ _ (by assumption) (by first | omega | decide) (by first | omega | decide) (by first | omega | decide) 
theorem tt_W_takePairIfBetter {a1 : Int32} {a2 : Int32} {σ : wc_S} (hσ : wJ 0 σ) (q0 : 0 ≤ a1.toInt) (q1 : a1.toInt ≤ 8) (q2 : 0 ≤ a2.toInt) (q3 : a2.toInt ≤ 8) : wk (wf_W_takePairIfBetter a1 a2 σ) (fun r => wJ 0 r.2) := by
  unfold wf_W_takePairIfBetter
  refine wk_rn (by assumption) (fun v1 hv1 => ?_)
  refine wk_g (wn_le9 (by omega) (by omega)) ?_
  refine wk_w (uA_70 (by assumption)) (fun σ3 hσ3 => ?_)
  refine wk_g (wn_in (by first | omega | decide) (by first | omega | decide)) ?_
  refine wk_r (fun v => 0 ≤ v.toInt ∧ v.toInt ≤ 8) (i_8 (by assumption) (by omega)) (fun v5 hv5 => ?_)
  refine wk_g (wn_in (by first | omega | decide) (by first | omega | decide)) ?_
  refine wk_w (u_8 (by assumption) (by omega) (by first | omega | decide | (simp only [wn_0]; omega))) (fun σ7 hσ7 => ?_)
  refine wk_g (wn_in (by first | omega | decide) (by first | omega | decide)) ?_
  refine wk_r (fun v => 0 ≤ v.toInt ∧ v.toInt ≤ 8) (i_8 (by assumption) (by omega)) (fun v9 hv9 => ?_)
  refine wk_g (wn_in (by first | omega | decide) (by first | omega | decide)) ?_
  refine wk_w (u_8 (by assumption) (by omega) (by first | omega | decide | (simp only [wn_0]; omega))) (fun σ11 hσ11 => ?_)
  refine wk_b2 (tt_L_layAll (by assumption) (by first | omega | decide) (by first | omega | decide)) (fun r13 σ12 hr1 => ?_)
  have hσ12 : wJ _ σ12 := hr1
  refine wk_i (fun hc2 => ?_) (fun hc2 => ?_)
  · try simp only [wn_le, wn_lt, wn_eq, wn_0, wn_1, wn_m1, wn_9, wn_8, wn_4, wn_2, wn_100] at hc2
    exact wk_s ((show wJ 0 _ from by assumption))
  · try simp only [wn_le, wn_lt, wn_eq, wn_0, wn_1, wn_m1, wn_9, wn_8, wn_4, wn_2, wn_100] at hc2
    refine wk_b2 (tt_L_penaltySoFar (by assumption) (by first | omega | decide)) (fun r16 σ15 hr3 => ?_)
    have hσ15 : wJ _ σ15 := hr3
    refine wk_b2 (tt_L_penaltySoFar (by assumption) (by first | omega | decide)) (fun r18 σ17 hr4 => ?_)
    have hσ17 : wJ _ σ17 := hr4
    refine wk_i (fun hc5 => ?_) (fun hc5 => ?_)
    · try simp only [wn_le, wn_lt, wn_eq, wn_0, wn_1, wn_m1, wn_9, wn_8, wn_4, wn_2, wn_100] at hc5
      refine wk_b2 (tt_L_layAll (by assumption) (by first | omega | decide) (by first | omega | decide)) (fun r21 σ20 hr6 => ?_)
      have hσ20 : wJ _ σ20 := hr6
      exact wk_s ((show wJ 0 _ from by assumption))
    · try simp only [wn_le, wn_lt, wn_eq, wn_0, wn_1, wn_m1, wn_9, wn_8, wn_4, wn_2, wn_100] at hc5
      exact wk_s ((show wJ 0 _ from by assumption))
theorem tt_W_takeFirstBetterPair_17 {k2 : Int32 → wc_S → Option (Int32 × wc_S)}  : ∀ (n : Nat) (x1 : Int32) (x2 : Int32) (σ : wc_S), wJ 0 σ → 0 ≤ x1.toInt → x1.toInt ≤ 8 → 0 ≤ x2.toInt → x2.toInt ≤ 9 → 9 < x2.toInt + n → (∀ v σ, wJ 0 σ → v.toInt = x1.toInt + 1 → wk (k2 v σ) (fun r => wJ 0 r.2)) → wk (wf_W_takeFirstBetterPair_17 k2 n x1 x2 σ) (fun r => wJ 0 r.2) := by
  intro n
  induction n with
  | zero => intro x1 x2 σ hσ c0 c1 c2 c3 c4 hk2; omega
  | succ n ih =>
    intro x1 x2 σ hσ c0 c1 c2 c3 c4 hk2
    show wk (wf_W_takeFirstBetterPair_17_b k2 (wf_W_takeFirstBetterPair_17 k2 n) x1 x2 σ) _
    unfold wf_W_takeFirstBetterPair_17_b
    refine wk_rn (by assumption) (fun v4 hv4 => ?_)
    refine wk_i (fun hc1 => ?_) (fun hc1 => ?_)
    · try simp only [wn_le, wn_lt, wn_eq, wn_0, wn_1, wn_m1, wn_9, wn_8, wn_4, wn_2, wn_100] at hc1
      refine wk_e (fun v6 ev6 => ?_)
      try (have hv6 : v6.toInt = x1.toInt + 1 := by rw [ev6]; exact wn_up (by omega) (by omega))
      exact hk2 _ _ (by assumption) (by omega)
    · try simp only [wn_le, wn_lt, wn_eq, wn_0, wn_1, wn_m1, wn_9, wn_8, wn_4, wn_2, wn_100] at hc1
      refine wk_b2 (tt_W_takePairIfBetter (by assumption) (by first | omega | decide) (by first | omega | decide) (by first | omega | decide) (by first | omega | decide)) (fun r8 σ7 hr2 => ?_)
      have hσ7 : wJ _ σ7 := hr2
      refine wk_i (fun hc3 => ?_) (fun hc3 => ?_)
      · try simp only [wn_le, wn_lt, wn_eq, wn_0, wn_1, wn_m1, wn_9, wn_8, wn_4, wn_2, wn_100] at hc3
        refine wk_e (fun v10 ev10 => ?_)
        try (have hv10 : v10.toInt = x2.toInt + 1 := by rw [ev10]; exact wn_up (by omega) (by omega))
        exact ih _ _ _ (by assumption) (by omega) (by omega) (by omega) (by omega) (by omega) (by assumption)
      · try simp only [wn_le, wn_lt, wn_eq, wn_0, wn_1, wn_m1, wn_9, wn_8, wn_4, wn_2, wn_100] at hc3
        exact wk_s ((show wJ 0 _ from by assumption))
theorem tt_W_takeFirstBetterPair_2   : ∀ (n : Nat) (x1 : Int32) (σ : wc_S), wJ 0 σ → 0 ≤ x1.toInt → x1.toInt ≤ 9 → 9 < x1.toInt + n → wk (wf_W_takeFirstBetterPair_2  n x1 σ) (fun r => wJ 0 r.2) := by
  intro n
  induction n with
  | zero => intro x1 σ hσ c0 c1 c2; omega
  | succ n ih =>
    intro x1 σ hσ c0 c1 c2
    show wk (wf_W_takeFirstBetterPair_2_b (wf_W_takeFirstBetterPair_2  n) x1 σ) _
    unfold wf_W_takeFirstBetterPair_2_b
    refine wk_rn (by assumption) (fun v1 hv1 => ?_)
    refine wk_i (fun hc1 => ?_) (fun hc1 => ?_)
    · try simp only [wn_le, wn_lt, wn_eq, wn_0, wn_1, wn_m1, wn_9, wn_8, wn_4, wn_2, wn_100] at hc1
      exact wk_s ((show wJ 0 _ from by assumption))
    · try simp only [wn_le, wn_lt, wn_eq, wn_0, wn_1, wn_m1, wn_9, wn_8, wn_4, wn_2, wn_100] at hc1
      refine wk_e (fun v3 ev3 => ?_)
      try (have hv3 : v3.toInt = x1.toInt + 1 := by rw [ev3]; exact wn_up (by omega) (by omega))
      exact tt_W_takeFirstBetterPair_17  16 _ _ _ (by assumption) (by first | omega | decide) (by first | omega | decide) (by first | omega | decide) (by first | omega | decide) (by first | omega | decide) (fun v σ hσ e => ih _ _ hσ (by omega) (by omega) (by omega))
theorem tt_W_takeFirstBetterPair  {σ : wc_S} (hσ : wJ 0 σ)  : wk (wf_W_takeFirstBetterPair σ) (fun r => wJ 0 r.2) := by
  unfold wf_W_takeFirstBetterPair
  exact tt_W_takeFirstBetterPair_2  16 _ _ (by assumption) (by first | omega | decide) (by first | omega | decide) (by first | omega | decide) 
theorem tt_P_addCoil {a1 : Int32} {a2 : Int32} {a3 : Int32} {a4 : Int32} {σ : wc_S} (hσ : wJ 1 σ)  : wk (wf_P_addCoil a1 a2 a3 a4 σ) (fun r => wJ 0 r.2) := by
  unfold wf_P_addCoil
  refine wk_rn (by assumption) (fun v1 hv1 => ?_)
  refine wk_g (wn_in (by first | omega | decide) (by first | omega | decide)) ?_
  refine wk_w (u_o (by assumption) (by omega)) (fun σ3 hσ3 => ?_)
  refine wk_g (wn_in (by first | omega | decide) (by first | omega | decide)) ?_
  refine wk_w (u_o (by assumption) (by omega)) (fun σ5 hσ5 => ?_)
  refine wk_g (wn_in (by first | omega | decide) (by first | omega | decide)) ?_
  refine wk_w (u_o (by assumption) (by omega)) (fun σ7 hσ7 => ?_)
  refine wk_g (wn_in (by first | omega | decide) (by first | omega | decide)) ?_
  refine wk_w (u_o (by assumption) (by omega)) (fun σ9 hσ9 => ?_)
  refine wk_g (wn_in (by first | omega | decide) (by first | omega | decide)) ?_
  refine wk_w (u_8 (by assumption) (by omega) (by first | omega | decide | (simp only [wn_0]; omega))) (fun σ11 hσ11 => ?_)
  refine wk_g (wn_in (by first | omega | decide) (by first | omega | decide)) ?_
  refine wk_w (u_o (by assumption) (by omega)) (fun σ13 hσ13 => ?_)
  refine wk_rn (by assumption) (fun v14 hv14 => ?_)
  refine wk_e (fun v15 ev15 => ?_)
  try (have hv15 : v15.toInt = v14.toInt + 1 := by rw [ev15]; exact wn_up (by omega) (by omega))
  refine wk_w (u_n (wJ_0 (by assumption)) (by first | omega | decide | (simp only [wn_0]; omega))) (fun σ16 hσ16 => ?_)
  refine wk_b1 (tt_P_reckonJumps (by assumption) ) (fun σ17 hr1 => ?_)
  have hσ17 : wJ _ σ17 := hr1
  exact wk_s ((show wJ 0 _ from by assumption))
theorem tt_J_addRow {b : Nat} {a1 : Int32} {a2 : Int32} {a3 : Int32} {σ : wc_S} (hσ : wJ b σ) (q0 : b = 18 ∨ b = 22) : wk (wf_J_addRow b a1 a2 a3 σ) (wJ 0) := by
  unfold wf_J_addRow
  refine wk_rr (by assumption) (by omega) (fun v1 hv1 => ?_)
  refine wk_g (wn_in (by first | omega | decide) (by first | omega | decide)) ?_
  refine wk_w (u_o (by assumption) (by omega)) (fun σ3 hσ3 => ?_)
  refine wk_rr (by assumption) (by omega) (fun v4 hv4 => ?_)
  refine wk_g (wn_in (by first | omega | decide) (by first | omega | decide)) ?_
  refine wk_w (u_o (by assumption) (by omega)) (fun σ6 hσ6 => ?_)
  refine wk_rr (by assumption) (by omega) (fun v7 hv7 => ?_)
  refine wk_g (wn_in (by first | omega | decide) (by first | omega | decide)) ?_
  refine wk_w (u_o (by assumption) (by omega)) (fun σ9 hσ9 => ?_)
  refine wk_rr (by assumption) (by omega) (fun v10 hv10 => ?_)
  refine wk_e (fun v11 ev11 => ?_)
  try (have hv11 : v11.toInt = v10.toInt + 1 := by rw [ev11]; exact wn_up (by omega) (by omega))
  refine wk_w (u_r (wJ_0 (by assumption)) (by omega) (by first | omega | decide | (simp only [wn_0]; omega))) (fun σ12 hσ12 => ?_)
  exact wk_s ((show wJ 0 _ from by assumption))
theorem tt_G_addGroup {a1 : Int32} {a2 : Int32} {a3 : Int32} {σ : wc_S} (hσ : wJ 26 σ)  : wk (wf_G_addGroup a1 a2 a3 σ) (wJ 0) := by
  unfold wf_G_addGroup
  refine wk_rg (by assumption) (fun v1 hv1 => ?_)
  refine wk_g (wn_in (by first | omega | decide) (by first | omega | decide)) ?_
  refine wk_w (u_o (by assumption) (by omega)) (fun σ3 hσ3 => ?_)
  refine wk_rg (by assumption) (fun v4 hv4 => ?_)
  refine wk_g (wn_in (by first | omega | decide) (by first | omega | decide)) ?_
  refine wk_w (u_o (by assumption) (by omega)) (fun σ6 hσ6 => ?_)
  refine wk_rg (by assumption) (fun v7 hv7 => ?_)
  refine wk_g (wn_in (by first | omega | decide) (by first | omega | decide)) ?_
  refine wk_w (u_o (by assumption) (by omega)) (fun σ9 hσ9 => ?_)
  refine wk_rg (by assumption) (fun v10 hv10 => ?_)
  refine wk_e (fun v11 ev11 => ?_)
  try (have hv11 : v11.toInt = v10.toInt + 1 := by rw [ev11]; exact wn_up (by omega) (by omega))
  refine wk_w (u_g (wJ_0 (by assumption)) (by first | omega | decide | (simp only [wn_0]; omega))) (fun σ12 hσ12 => ?_)
  exact wk_s ((show wJ 0 _ from by assumption))
theorem tt_W_coil {a1 : Int32} {a2 : Int32} {a3 : Int32} {a4 : Int32} {σ : wc_S} (hσ : wJ 0 σ)  : wk (wf_W_coil a1 a2 a3 a4 σ) (fun r => wJ 0 (wr_si r) ∧ (∀ u, r = .inl u → u.1 = 2 ∨ u.1 = 3)) := by
  unfold wf_W_coil
  refine wk_b2 (tt_W_isOutside (by assumption) ) (fun r2 σ1 hr1 => ?_)
  obtain ⟨hσ1, hpσ1⟩ := hr1
  try simp only [wn_0, wn_1, wn_m1, wn_9, wn_8, wn_4, wn_2, wn_100] at hpσ1
  refine wk_i (fun hc2 => ?_) (fun hc2 => ?_)
  · try simp only [wn_le, wn_lt, wn_eq, wn_0, wn_1, wn_m1, wn_9, wn_8, wn_4, wn_2, wn_100] at hc2
    refine wk_b2 (tt_W_isOutside (by assumption) ) (fun r5 σ4 hr3 => ?_)
    obtain ⟨hσ4, hpσ4⟩ := hr3
    try simp only [wn_0, wn_1, wn_m1, wn_9, wn_8, wn_4, wn_2, wn_100] at hpσ4
    refine wk_i (fun hc4 => ?_) (fun hc4 => ?_)
    · try simp only [wn_le, wn_lt, wn_eq, wn_0, wn_1, wn_m1, wn_9, wn_8, wn_4, wn_2, wn_100] at hc4
      refine wk_b2 (tt_W_isOutside (by assumption) ) (fun r8 σ7 hr5 => ?_)
      obtain ⟨hσ7, hpσ7⟩ := hr5
      try simp only [wn_0, wn_1, wn_m1, wn_9, wn_8, wn_4, wn_2, wn_100] at hpσ7
      refine wk_i (fun hc6 => ?_) (fun hc6 => ?_)
      · try simp only [wn_le, wn_lt, wn_eq, wn_0, wn_1, wn_m1, wn_9, wn_8, wn_4, wn_2, wn_100] at hc6
        refine wk_b2 (tt_W_isOutside (by assumption) ) (fun r11 σ10 hr7 => ?_)
        obtain ⟨hσ10, hpσ10⟩ := hr7
        try simp only [wn_0, wn_1, wn_m1, wn_9, wn_8, wn_4, wn_2, wn_100] at hpσ10
        refine wk_i (fun hc8 => ?_) (fun hc8 => ?_)
        · try simp only [wn_le, wn_lt, wn_eq, wn_0, wn_1, wn_m1, wn_9, wn_8, wn_4, wn_2, wn_100] at hc8
          refine wk_rn (by assumption) (fun v13 hv13 => ?_)
          refine wk_i (fun hc9 => ?_) (fun hc9 => ?_)
          · try simp only [wn_le, wn_lt, wn_eq, wn_0, wn_1, wn_m1, wn_9, wn_8, wn_4, wn_2, wn_100] at hc9
            refine wk_b1 (tt_W_forgetOrder (wJ_1 (by assumption) (by omega))) (fun σ15 hr10 => ?_)
            have hσ15 : wJ _ σ15 := hr10
            refine wk_b2 (tt_P_addCoil (by assumption) ) (fun r17 σ16 hr11 => ?_)
            have hσ16 : wJ _ σ16 := hr11
            exact wk_s (⟨show wJ 0 _ from by assumption, fun u h => by cases h <;> simp⟩)
          · try simp only [wn_le, wn_lt, wn_eq, wn_0, wn_1, wn_m1, wn_9, wn_8, wn_4, wn_2, wn_100] at hc9
            exact wk_s (⟨show wJ 0 _ from by assumption, fun u h => by cases h <;> simp⟩)
        · try simp only [wn_le, wn_lt, wn_eq, wn_0, wn_1, wn_m1, wn_9, wn_8, wn_4, wn_2, wn_100] at hc8
          unfold wf_W_coil_43
          exact wk_s (⟨show wJ 0 _ from by assumption, fun u h => by cases h <;> simp⟩)
      · try simp only [wn_le, wn_lt, wn_eq, wn_0, wn_1, wn_m1, wn_9, wn_8, wn_4, wn_2, wn_100] at hc6
        unfold wf_W_coil_43
        exact wk_s (⟨show wJ 0 _ from by assumption, fun u h => by cases h <;> simp⟩)
    · try simp only [wn_le, wn_lt, wn_eq, wn_0, wn_1, wn_m1, wn_9, wn_8, wn_4, wn_2, wn_100] at hc4
      unfold wf_W_coil_43
      exact wk_s (⟨show wJ 0 _ from by assumption, fun u h => by cases h <;> simp⟩)
  · try simp only [wn_le, wn_lt, wn_eq, wn_0, wn_1, wn_m1, wn_9, wn_8, wn_4, wn_2, wn_100] at hc2
    unfold wf_W_coil_43
    exact wk_s (⟨show wJ 0 _ from by assumption, fun u h => by cases h <;> simp⟩)
theorem tt_W_table_84 {x2 : Int32} {x3 : Int32} {x4 : Int32} {s0_ : Nat} {σ : wc_S} (hσ : wJ 0 σ) (q0 : s0_ = 18 ∨ s0_ = 22) : wk (wf_W_table_84 x2 x3 x4 s0_ σ) (fun r => wJ 0 (wr_si r) ∧ (∀ u, r = .inl u → u.1 = 2 ∨ u.1 = 3)) := by
  unfold wf_W_table_84
  refine wk_rr (by assumption) (by omega) (fun v14 hv14 => ?_)
  refine wk_i (fun hc1 => ?_) (fun hc1 => ?_)
  · try simp only [wn_le, wn_lt, wn_eq, wn_0, wn_1, wn_m1, wn_9, wn_8, wn_4, wn_2, wn_100] at hc1
    refine wk_b1 (tt_W_forgetOrder (wJ_r (by assumption) (by omega) (by omega))) (fun σ16 hr2 => ?_)
    have hσ16 : wJ _ σ16 := hr2
    refine wk_b1 (tt_J_addRow (by assumption) (by first | omega | decide)) (fun σ17 hr3 => ?_)
    have hσ17 : wJ _ σ17 := hr3
    refine wk_b1 (tt_P_reckonJumps (by assumption) ) (fun σ18 hr4 => ?_)
    have hσ18 : wJ _ σ18 := hr4
    refine wk_rr (by assumption) (by omega) (fun v19 hv19 => ?_)
    exact wk_s (⟨show wJ 0 _ from by assumption, fun u h => by cases h <;> simp⟩)
  · try simp only [wn_le, wn_lt, wn_eq, wn_0, wn_1, wn_m1, wn_9, wn_8, wn_4, wn_2, wn_100] at hc1
    exact wk_s (⟨show wJ 0 _ from by assumption, fun u h => by cases h <;> simp⟩)
theorem kd_w {r : wc_X (Int32 × wc_S)} (h : wJ 0 (wr_si r) ∧ (∀ u, r = .inl u → u.1 = 2 ∨ u.1 = 3)) : wJ 0 (wr_si r) ∧ (∀ u, r = .inl u → u.1 = 0 ∨ u.1 = 2 ∨ u.1 = 3) := ⟨h.1, fun u e => Or.inr (h.2 u e)⟩
theorem tt_W_table {a1 : Int32} {a2 : Int32} {a3 : Int32} {a4 : Int32} {σ : wc_S} (hσ : wJ 0 σ)  : wk (wf_W_table a1 a2 a3 a4 σ) (fun r => wJ 0 (wr_si r) ∧ (∀ u, r = .inl u → u.1 = 0 ∨ u.1 = 2 ∨ u.1 = 3)) := by
  unfold wf_W_table
  refine wk_b2 (tt_W_isOutside (by assumption) ) (fun r2 σ1 hr1 => ?_)
  obtain ⟨hσ1, hpσ1⟩ := hr1
  try simp only [wn_0, wn_1, wn_m1, wn_9, wn_8, wn_4, wn_2, wn_100] at hpσ1
  refine wk_i (fun hc2 => ?_) (fun hc2 => ?_)
  · try simp only [wn_le, wn_lt, wn_eq, wn_0, wn_1, wn_m1, wn_9, wn_8, wn_4, wn_2, wn_100] at hc2
    refine wk_b2 (tt_W_isOutside (by assumption) ) (fun r5 σ4 hr3 => ?_)
    obtain ⟨hσ4, hpσ4⟩ := hr3
    try simp only [wn_0, wn_1, wn_m1, wn_9, wn_8, wn_4, wn_2, wn_100] at hpσ4
    refine wk_i (fun hc4 => ?_) (fun hc4 => ?_)
    · try simp only [wn_le, wn_lt, wn_eq, wn_0, wn_1, wn_m1, wn_9, wn_8, wn_4, wn_2, wn_100] at hc4
      refine wk_b2 (tt_W_isOutside (by assumption) ) (fun r8 σ7 hr5 => ?_)
      obtain ⟨hσ7, hpσ7⟩ := hr5
      try simp only [wn_0, wn_1, wn_m1, wn_9, wn_8, wn_4, wn_2, wn_100] at hpσ7
      refine wk_i (fun hc6 => ?_) (fun hc6 => ?_)
      · try simp only [wn_le, wn_lt, wn_eq, wn_0, wn_1, wn_m1, wn_9, wn_8, wn_4, wn_2, wn_100] at hc6
        refine wk_b2 (tt_W_isOutside (by assumption) ) (fun r11 σ10 hr7 => ?_)
        obtain ⟨hσ10, hpσ10⟩ := hr7
        try simp only [wn_0, wn_1, wn_m1, wn_9, wn_8, wn_4, wn_2, wn_100] at hpσ10
        refine wk_i (fun hc8 => ?_) (fun hc8 => ?_)
        · try simp only [wn_le, wn_lt, wn_eq, wn_0, wn_1, wn_m1, wn_9, wn_8, wn_4, wn_2, wn_100] at hc8
          refine wk_i (fun hc9 => ?_) (fun hc9 => ?_)
          · try simp only [wn_le, wn_lt, wn_eq, wn_0, wn_1, wn_m1, wn_9, wn_8, wn_4, wn_2, wn_100] at hc9
            exact wk_mono (tt_W_table_84 (by assumption) (by first | omega | decide)) (fun _ h => kd_w h)
          · try simp only [wn_le, wn_lt, wn_eq, wn_0, wn_1, wn_m1, wn_9, wn_8, wn_4, wn_2, wn_100] at hc9
            exact wk_mono (tt_W_table_84 (by assumption) (by first | omega | decide)) (fun _ h => kd_w h)
        · try simp only [wn_le, wn_lt, wn_eq, wn_0, wn_1, wn_m1, wn_9, wn_8, wn_4, wn_2, wn_100] at hc8
          unfold wf_W_table_53
          exact wk_s (⟨show wJ 0 _ from by assumption, fun u h => by cases h <;> simp⟩)
      · try simp only [wn_le, wn_lt, wn_eq, wn_0, wn_1, wn_m1, wn_9, wn_8, wn_4, wn_2, wn_100] at hc6
        unfold wf_W_table_53
        exact wk_s (⟨show wJ 0 _ from by assumption, fun u h => by cases h <;> simp⟩)
    · try simp only [wn_le, wn_lt, wn_eq, wn_0, wn_1, wn_m1, wn_9, wn_8, wn_4, wn_2, wn_100] at hc4
      unfold wf_W_table_53
      exact wk_s (⟨show wJ 0 _ from by assumption, fun u h => by cases h <;> simp⟩)
  · try simp only [wn_le, wn_lt, wn_eq, wn_0, wn_1, wn_m1, wn_9, wn_8, wn_4, wn_2, wn_100] at hc2
    exact wk_s (⟨show wJ 0 _ from by assumption, fun u h => by cases h <;> simp⟩)
theorem tt_W_group {a1 : Int32} {a2 : Int32} {a3 : Int32} {σ : wc_S} (hσ : wJ 0 σ)  : wk (wf_W_group a1 a2 a3 σ) (fun r => wJ 0 (wr_si r) ∧ (∀ u, r = .inl u → u.1 = 2 ∨ u.1 = 3)) := by
  unfold wf_W_group
  refine wk_b2 (tt_W_isOutside (by assumption) ) (fun r2 σ1 hr1 => ?_)
  obtain ⟨hσ1, hpσ1⟩ := hr1
  try simp only [wn_0, wn_1, wn_m1, wn_9, wn_8, wn_4, wn_2, wn_100] at hpσ1
  refine wk_i (fun hc2 => ?_) (fun hc2 => ?_)
  · try simp only [wn_le, wn_lt, wn_eq, wn_0, wn_1, wn_m1, wn_9, wn_8, wn_4, wn_2, wn_100] at hc2
    refine wk_b2 (tt_W_isOutside (by assumption) ) (fun r5 σ4 hr3 => ?_)
    obtain ⟨hσ4, hpσ4⟩ := hr3
    try simp only [wn_0, wn_1, wn_m1, wn_9, wn_8, wn_4, wn_2, wn_100] at hpσ4
    refine wk_i (fun hc4 => ?_) (fun hc4 => ?_)
    · try simp only [wn_le, wn_lt, wn_eq, wn_0, wn_1, wn_m1, wn_9, wn_8, wn_4, wn_2, wn_100] at hc4
      refine wk_b2 (tt_W_isOutside (by assumption) ) (fun r8 σ7 hr5 => ?_)
      obtain ⟨hσ7, hpσ7⟩ := hr5
      try simp only [wn_0, wn_1, wn_m1, wn_9, wn_8, wn_4, wn_2, wn_100] at hpσ7
      refine wk_i (fun hc6 => ?_) (fun hc6 => ?_)
      · try simp only [wn_le, wn_lt, wn_eq, wn_0, wn_1, wn_m1, wn_9, wn_8, wn_4, wn_2, wn_100] at hc6
        refine wk_rg (by assumption) (fun v10 hv10 => ?_)
        refine wk_i (fun hc7 => ?_) (fun hc7 => ?_)
        · try simp only [wn_le, wn_lt, wn_eq, wn_0, wn_1, wn_m1, wn_9, wn_8, wn_4, wn_2, wn_100] at hc7
          refine wk_b1 (tt_W_forgetOrder (wJ_g (by assumption) (by omega))) (fun σ12 hr8 => ?_)
          have hσ12 : wJ _ σ12 := hr8
          refine wk_b1 (tt_G_addGroup (by assumption) ) (fun σ13 hr9 => ?_)
          have hσ13 : wJ _ σ13 := hr9
          refine wk_rg (by assumption) (fun v14 hv14 => ?_)
          exact wk_s (⟨show wJ 0 _ from by assumption, fun u h => by cases h <;> simp⟩)
        · try simp only [wn_le, wn_lt, wn_eq, wn_0, wn_1, wn_m1, wn_9, wn_8, wn_4, wn_2, wn_100] at hc7
          exact wk_s (⟨show wJ 0 _ from by assumption, fun u h => by cases h <;> simp⟩)
      · try simp only [wn_le, wn_lt, wn_eq, wn_0, wn_1, wn_m1, wn_9, wn_8, wn_4, wn_2, wn_100] at hc6
        unfold wf_W_group_33
        exact wk_s (⟨show wJ 0 _ from by assumption, fun u h => by cases h <;> simp⟩)
    · try simp only [wn_le, wn_lt, wn_eq, wn_0, wn_1, wn_m1, wn_9, wn_8, wn_4, wn_2, wn_100] at hc4
      unfold wf_W_group_33
      exact wk_s (⟨show wJ 0 _ from by assumption, fun u h => by cases h <;> simp⟩)
  · try simp only [wn_le, wn_lt, wn_eq, wn_0, wn_1, wn_m1, wn_9, wn_8, wn_4, wn_2, wn_100] at hc2
    unfold wf_W_group_33
    exact wk_s (⟨show wJ 0 _ from by assumption, fun u h => by cases h <;> simp⟩)
theorem tt_W_urgent {a1 : Int32} {a2 : Int32} {σ : wc_S} (hσ : wJ 0 σ)  : wk (wf_W_urgent a1 a2 σ) (fun r => wJ 0 (wr_sv r) ∧ (∀ u, r = .inl u → u.1 = 0 ∨ u.1 = 2)) := by
  unfold wf_W_urgent
  refine wk_b2 (tt_W_isNoCoil (by assumption) ) (fun r2 σ1 hr1 => ?_)
  obtain ⟨hσ1, hpσ1⟩ := hr1
  try simp only [wn_0, wn_1, wn_m1, wn_9, wn_8, wn_4, wn_2, wn_100] at hpσ1
  refine wk_i (fun hc2 => ?_) (fun hc2 => ?_)
  · try simp only [wn_le, wn_lt, wn_eq, wn_0, wn_1, wn_m1, wn_9, wn_8, wn_4, wn_2, wn_100] at hc2
    refine wk_b2 (tt_W_isOutside (by assumption) ) (fun r5 σ4 hr3 => ?_)
    obtain ⟨hσ4, hpσ4⟩ := hr3
    try simp only [wn_0, wn_1, wn_m1, wn_9, wn_8, wn_4, wn_2, wn_100] at hpσ4
    refine wk_i (fun hc4 => ?_) (fun hc4 => ?_)
    · try simp only [wn_le, wn_lt, wn_eq, wn_0, wn_1, wn_m1, wn_9, wn_8, wn_4, wn_2, wn_100] at hc4
      refine wk_b1 (tt_W_forgetOrder (by assumption) ) (fun σ7 hr5 => ?_)
      have hσ7 : wJ _ σ7 := hr5
      refine wk_g (wn_in (by first | omega | decide) (by first | omega | decide)) ?_
      refine wk_w (u_8 (by assumption) (by omega) (by first | omega | decide | (simp only [wn_0]; omega))) (fun σ9 hσ9 => ?_)
      exact wk_s (⟨show wJ 0 _ from by assumption, fun u h => by cases h <;> simp⟩)
    · try simp only [wn_le, wn_lt, wn_eq, wn_0, wn_1, wn_m1, wn_9, wn_8, wn_4, wn_2, wn_100] at hc4
      exact wk_s (⟨show wJ 0 _ from by assumption, fun u h => by cases h <;> simp⟩)
  · try simp only [wn_le, wn_lt, wn_eq, wn_0, wn_1, wn_m1, wn_9, wn_8, wn_4, wn_2, wn_100] at hc2
    exact wk_s (⟨show wJ 0 _ from by assumption, fun u h => by cases h <;> simp⟩)
theorem tt_W_old {a1 : Int32} {a2 : Int32} {σ : wc_S} (hσ : wJ 0 σ)  : wk (wf_W_old a1 a2 σ) (fun r => wJ 0 (wr_sv r) ∧ (∀ u, r = .inl u → u.1 = 0 ∨ u.1 = 2)) := by
  unfold wf_W_old
  refine wk_b2 (tt_W_isNoCoil (by assumption) ) (fun r2 σ1 hr1 => ?_)
  obtain ⟨hσ1, hpσ1⟩ := hr1
  try simp only [wn_0, wn_1, wn_m1, wn_9, wn_8, wn_4, wn_2, wn_100] at hpσ1
  refine wk_i (fun hc2 => ?_) (fun hc2 => ?_)
  · try simp only [wn_le, wn_lt, wn_eq, wn_0, wn_1, wn_m1, wn_9, wn_8, wn_4, wn_2, wn_100] at hc2
    refine wk_b2 (tt_W_isOutside (by assumption) ) (fun r5 σ4 hr3 => ?_)
    obtain ⟨hσ4, hpσ4⟩ := hr3
    try simp only [wn_0, wn_1, wn_m1, wn_9, wn_8, wn_4, wn_2, wn_100] at hpσ4
    refine wk_i (fun hc4 => ?_) (fun hc4 => ?_)
    · try simp only [wn_le, wn_lt, wn_eq, wn_0, wn_1, wn_m1, wn_9, wn_8, wn_4, wn_2, wn_100] at hc4
      refine wk_b1 (tt_W_forgetOrder (by assumption) ) (fun σ7 hr5 => ?_)
      have hσ7 : wJ _ σ7 := hr5
      refine wk_g (wn_in (by first | omega | decide) (by first | omega | decide)) ?_
      refine wk_w (u_o (by assumption) (by omega)) (fun σ9 hσ9 => ?_)
      exact wk_s (⟨show wJ 0 _ from by assumption, fun u h => by cases h <;> simp⟩)
    · try simp only [wn_le, wn_lt, wn_eq, wn_0, wn_1, wn_m1, wn_9, wn_8, wn_4, wn_2, wn_100] at hc4
      exact wk_s (⟨show wJ 0 _ from by assumption, fun u h => by cases h <;> simp⟩)
  · try simp only [wn_le, wn_lt, wn_eq, wn_0, wn_1, wn_m1, wn_9, wn_8, wn_4, wn_2, wn_100] at hc2
    exact wk_s (⟨show wJ 0 _ from by assumption, fun u h => by cases h <;> simp⟩)
theorem tt_W_rules {a1 : Int32} {a2 : Int32} {a3 : Int32} {a4 : Int32} {σ : wc_S} (hσ : wJ 0 σ)  : wk (wf_W_rules a1 a2 a3 a4 σ) (fun r => wJ 0 (wr_sv r) ∧ (∀ u, r = .inl u → u.1 = 2)) := by
  unfold wf_W_rules
  refine wk_b2 (tt_W_isOutside (by assumption) ) (fun r2 σ1 hr1 => ?_)
  obtain ⟨hσ1, hpσ1⟩ := hr1
  try simp only [wn_0, wn_1, wn_m1, wn_9, wn_8, wn_4, wn_2, wn_100] at hpσ1
  refine wk_i (fun hc2 => ?_) (fun hc2 => ?_)
  · try simp only [wn_le, wn_lt, wn_eq, wn_0, wn_1, wn_m1, wn_9, wn_8, wn_4, wn_2, wn_100] at hc2
    refine wk_b2 (tt_W_isOutside (by assumption) ) (fun r5 σ4 hr3 => ?_)
    obtain ⟨hσ4, hpσ4⟩ := hr3
    try simp only [wn_0, wn_1, wn_m1, wn_9, wn_8, wn_4, wn_2, wn_100] at hpσ4
    refine wk_i (fun hc4 => ?_) (fun hc4 => ?_)
    · try simp only [wn_le, wn_lt, wn_eq, wn_0, wn_1, wn_m1, wn_9, wn_8, wn_4, wn_2, wn_100] at hc4
      refine wk_b2 (tt_W_isOutside (by assumption) ) (fun r8 σ7 hr5 => ?_)
      obtain ⟨hσ7, hpσ7⟩ := hr5
      try simp only [wn_0, wn_1, wn_m1, wn_9, wn_8, wn_4, wn_2, wn_100] at hpσ7
      refine wk_i (fun hc6 => ?_) (fun hc6 => ?_)
      · try simp only [wn_le, wn_lt, wn_eq, wn_0, wn_1, wn_m1, wn_9, wn_8, wn_4, wn_2, wn_100] at hc6
        refine wk_b2 (tt_W_isOutside (by assumption) ) (fun r11 σ10 hr7 => ?_)
        obtain ⟨hσ10, hpσ10⟩ := hr7
        try simp only [wn_0, wn_1, wn_m1, wn_9, wn_8, wn_4, wn_2, wn_100] at hpσ10
        refine wk_i (fun hc8 => ?_) (fun hc8 => ?_)
        · try simp only [wn_le, wn_lt, wn_eq, wn_0, wn_1, wn_m1, wn_9, wn_8, wn_4, wn_2, wn_100] at hc8
          refine wk_b1 (tt_W_forgetOrder (by assumption) ) (fun σ13 hr9 => ?_)
          have hσ13 : wJ _ σ13 := hr9
          refine wk_w (u_1 (by assumption) (by decide)) (fun σ14 hσ14 => ?_)
          refine wk_w (u_1 (by assumption) (by decide)) (fun σ15 hσ15 => ?_)
          refine wk_w (u_1 (by assumption) (by decide)) (fun σ16 hσ16 => ?_)
          refine wk_w (u_1 (by assumption) (by decide)) (fun σ17 hσ17 => ?_)
          exact wk_s (⟨show wJ 0 _ from by assumption, fun u h => by cases h <;> simp⟩)
        · try simp only [wn_le, wn_lt, wn_eq, wn_0, wn_1, wn_m1, wn_9, wn_8, wn_4, wn_2, wn_100] at hc8
          unfold wf_W_rules_44
          exact wk_s (⟨show wJ 0 _ from by assumption, fun u h => by cases h <;> simp⟩)
      · try simp only [wn_le, wn_lt, wn_eq, wn_0, wn_1, wn_m1, wn_9, wn_8, wn_4, wn_2, wn_100] at hc6
        unfold wf_W_rules_44
        exact wk_s (⟨show wJ 0 _ from by assumption, fun u h => by cases h <;> simp⟩)
    · try simp only [wn_le, wn_lt, wn_eq, wn_0, wn_1, wn_m1, wn_9, wn_8, wn_4, wn_2, wn_100] at hc4
      unfold wf_W_rules_44
      exact wk_s (⟨show wJ 0 _ from by assumption, fun u h => by cases h <;> simp⟩)
  · try simp only [wn_le, wn_lt, wn_eq, wn_0, wn_1, wn_m1, wn_9, wn_8, wn_4, wn_2, wn_100] at hc2
    unfold wf_W_rules_44
    exact wk_s (⟨show wJ 0 _ from by assumption, fun u h => by cases h <;> simp⟩)
theorem tt_W_run {a1 : Int32} {σ : wc_S} (hσ : wJ 0 σ)  : wk (wf_W_run a1 σ) (fun r => wJ 0 (wr_si r) ∧ (∀ u, r = .inl u → u.1 = 2)) := by
  unfold wf_W_run
  refine wk_b2 (tt_W_isOutside (by assumption) ) (fun r2 σ1 hr1 => ?_)
  obtain ⟨hσ1, hpσ1⟩ := hr1
  try simp only [wn_0, wn_1, wn_m1, wn_9, wn_8, wn_4, wn_2, wn_100] at hpσ1
  refine wk_i (fun hc2 => ?_) (fun hc2 => ?_)
  · try simp only [wn_le, wn_lt, wn_eq, wn_0, wn_1, wn_m1, wn_9, wn_8, wn_4, wn_2, wn_100] at hc2
    refine wk_b1 (tt_S_searchWith (by assumption) ) (fun σ4 hr3 => ?_)
    have hσ4 : wJ _ σ4 := hr3
    refine wk_w (u_o (by assumption) (by omega)) (fun σ5 hσ5 => ?_)
    refine wk_r (fun v => 0 ≤ v.toInt ∧ v.toInt ≤ 1) (i_f (by assumption)) (fun v6 hv6 => ?_)
    refine wk_g (wn_z (by first | assumption | omega)) ?_
    refine wk_w (u_o (by assumption) (by omega)) (fun σ8 hσ8 => ?_)
    refine wk_v (fun v9 => ?_)
    refine wk_i (fun hc4 => ?_) (fun hc4 => ?_)
    · try simp only [wn_le, wn_lt, wn_eq, wn_0, wn_1, wn_m1, wn_9, wn_8, wn_4, wn_2, wn_100] at hc4
      exact wk_s (⟨show wJ 0 _ from by assumption, fun u h => by cases h <;> simp⟩)
    · try simp only [wn_le, wn_lt, wn_eq, wn_0, wn_1, wn_m1, wn_9, wn_8, wn_4, wn_2, wn_100] at hc4
      refine wk_b2 (tt_L_layAll (by assumption) (by first | omega | decide) (by first | omega | decide)) (fun r12 σ11 hr5 => ?_)
      have hσ11 : wJ _ σ11 := hr5
      refine wk_rn (by assumption) (fun v13 hv13 => ?_)
      exact wk_s (⟨show wJ 0 _ from by assumption, fun u h => by cases h <;> simp⟩)
  · try simp only [wn_le, wn_lt, wn_eq, wn_0, wn_1, wn_m1, wn_9, wn_8, wn_4, wn_2, wn_100] at hc2
    exact wk_s (⟨show wJ 0 _ from by assumption, fun u h => by cases h <;> simp⟩)
theorem tt_W_proved  {σ : wc_S} (hσ : wJ 0 σ)  : wk (wf_W_proved σ) (fun r => wJ 0 (wr_si r) ∧ (∀ u, r = .inl u → u.1 = 1)) := by
  unfold wf_W_proved
  refine wk_v (fun v1 => ?_)
  refine wk_i (fun hc1 => ?_) (fun hc1 => ?_)
  · try simp only [wn_le, wn_lt, wn_eq, wn_0, wn_1, wn_m1, wn_9, wn_8, wn_4, wn_2, wn_100] at hc1
    exact wk_s (⟨show wJ 0 _ from by assumption, fun u h => by cases h <;> simp⟩)
  · try simp only [wn_le, wn_lt, wn_eq, wn_0, wn_1, wn_m1, wn_9, wn_8, wn_4, wn_2, wn_100] at hc1
    refine wk_v (fun v3 => ?_)
    refine wk_i (fun hc2 => ?_) (fun hc2 => ?_)
    · try simp only [wn_le, wn_lt, wn_eq, wn_0, wn_1, wn_m1, wn_9, wn_8, wn_4, wn_2, wn_100] at hc2
      exact wk_s (⟨show wJ 0 _ from by assumption, fun u h => by cases h <;> simp⟩)
    · try simp only [wn_le, wn_lt, wn_eq, wn_0, wn_1, wn_m1, wn_9, wn_8, wn_4, wn_2, wn_100] at hc2
      exact wk_s (⟨show wJ 0 _ from by assumption, fun u h => by cases h <;> simp⟩)
theorem tt_W_order {a1 : Int32} {σ : wc_S} (hσ : wJ 0 σ)  : wk (wf_W_order a1 σ) (fun r => wJ 0 (wr_si r) ∧ (∀ u, r = .inl u → u.1 = 0 ∨ u.1 = 1)) := by
  unfold wf_W_order
  refine wk_bx (tt_W_requireOrder (by assumption) ) (fun u hu => ?_) (fun σ1 hu => ?_)
  · exact ⟨hu.1, fun w h => by cases h; have hk := hu.2.1 _ rfl; first | exact Or.inl hk | exact Or.inr hk | exact hk | exact Or.inr (Or.inl hk) | exact Or.inr (Or.inr hk)⟩
  have hσ1 : wJ _ σ1 := hu.1
  have hpσ1 := hu.2.2 _ rfl
  refine wk_bx (tt_W_requirePlace (by assumption) ) (fun u hu => ?_) (fun σ2 hu => ?_)
  · exact ⟨hu.1, fun w h => by cases h; have hk := hu.2.1 _ rfl; first | exact Or.inl hk | exact Or.inr hk | exact hk | exact Or.inr (Or.inl hk) | exact Or.inr (Or.inr hk)⟩
  have hσ2 : wJ _ σ2 := hu.1
  have hpσ2 := hu.2.2 _ rfl
  refine wk_g (wn_in (by first | omega | decide) (by first | omega | decide)) ?_
  refine wk_r (fun v => 0 ≤ v.toInt ∧ v.toInt ≤ 8) (i_8 (by assumption) (by omega)) (fun v4 hv4 => ?_)
  exact wk_s (⟨show wJ 0 _ from by assumption, fun u h => by cases h <;> simp⟩)
theorem tt_W_told {a1 : Int32} {σ : wc_S} (hσ : wJ 0 σ)  : wk (wf_W_told a1 σ) (fun r => wJ 0 (wr_si r) ∧ (∀ u, r = .inl u → u.1 = 0 ∨ u.1 = 1)) := by
  unfold wf_W_told
  refine wk_b2 (tt_W_isOutside (by assumption) ) (fun r2 σ1 hr1 => ?_)
  obtain ⟨hσ1, hpσ1⟩ := hr1
  try simp only [wn_0, wn_1, wn_m1, wn_9, wn_8, wn_4, wn_2, wn_100] at hpσ1
  refine wk_i (fun hc2 => ?_) (fun hc2 => ?_)
  · try simp only [wn_le, wn_lt, wn_eq, wn_0, wn_1, wn_m1, wn_9, wn_8, wn_4, wn_2, wn_100] at hc2
    refine wk_bx (tt_W_requireOrder (by assumption) ) (fun u hu => ?_) (fun σ4 hu => ?_)
    · exact ⟨hu.1, fun w h => by cases h; have hk := hu.2.1 _ rfl; first | exact Or.inl hk | exact Or.inr hk | exact hk | exact Or.inr (Or.inl hk) | exact Or.inr (Or.inr hk)⟩
    have hσ4 : wJ _ σ4 := hu.1
    have hpσ4 := hu.2.2 _ rfl
    refine wk_i (fun hc3 => ?_) (fun hc3 => ?_)
    · try simp only [wn_le, wn_lt, wn_eq, wn_0, wn_1, wn_m1, wn_9, wn_8, wn_4, wn_2, wn_100] at hc3
      refine wk_b2 (tt_L_penaltySoFar (by assumption) (by first | omega | decide)) (fun r12 σ11 hr4 => ?_)
      have hσ11 : wJ _ σ11 := hr4
      exact wk_s (⟨show wJ 0 _ from by assumption, fun u h => by cases h <;> simp⟩)
    · try simp only [wn_le, wn_lt, wn_eq, wn_0, wn_1, wn_m1, wn_9, wn_8, wn_4, wn_2, wn_100] at hc3
      refine wk_i (fun hc5 => ?_) (fun hc5 => ?_)
      · try simp only [wn_le, wn_lt, wn_eq, wn_0, wn_1, wn_m1, wn_9, wn_8, wn_4, wn_2, wn_100] at hc5
        refine wk_b2 (tt_L_changesSoFar (by assumption) (by first | omega | decide)) (fun r10 σ9 hr6 => ?_)
        have hσ9 : wJ _ σ9 := hr6
        exact wk_s (⟨show wJ 0 _ from by assumption, fun u h => by cases h <;> simp⟩)
      · try simp only [wn_le, wn_lt, wn_eq, wn_0, wn_1, wn_m1, wn_9, wn_8, wn_4, wn_2, wn_100] at hc5
        refine wk_b2 (tt_L_movedSoFar (by assumption) (by first | omega | decide)) (fun r8 σ7 hr7 => ?_)
        have hσ7 : wJ _ σ7 := hr7
        exact wk_s (⟨show wJ 0 _ from by assumption, fun u h => by cases h <;> simp⟩)
  · try simp only [wn_le, wn_lt, wn_eq, wn_0, wn_1, wn_m1, wn_9, wn_8, wn_4, wn_2, wn_100] at hc2
    exact wk_s (⟨show wJ 0 _ from by assumption, fun u h => by cases h <;> simp⟩)
theorem tt_W_change {a1 : Int32} {σ : wc_S} (hσ : wJ 0 σ)  : wk (wf_W_change a1 σ) (fun r => wJ 0 (wr_si r) ∧ (∀ u, r = .inl u → u.1 = 0 ∨ u.1 = 1)) := by
  unfold wf_W_change
  refine wk_bx (tt_W_requireOrder (by assumption) ) (fun u hu => ?_) (fun σ1 hu => ?_)
  · exact ⟨hu.1, fun w h => by cases h; have hk := hu.2.1 _ rfl; first | exact Or.inl hk | exact Or.inr hk | exact hk | exact Or.inr (Or.inl hk) | exact Or.inr (Or.inr hk)⟩
  have hσ1 : wJ _ σ1 := hu.1
  have hpσ1 := hu.2.2 _ rfl
  refine wk_bx (tt_W_requirePlace (by assumption) ) (fun u hu => ?_) (fun σ2 hu => ?_)
  · exact ⟨hu.1, fun w h => by cases h; have hk := hu.2.1 _ rfl; first | exact Or.inl hk | exact Or.inr hk | exact hk | exact Or.inr (Or.inl hk) | exact Or.inr (Or.inr hk)⟩
  have hσ2 : wJ _ σ2 := hu.1
  have hpσ2 := hu.2.2 _ rfl
  refine wk_g (wn_in (by first | omega | decide) (by first | omega | decide)) ?_
  refine wk_r (fun v => 0 ≤ v.toInt ∧ v.toInt ≤ 1) (i_b (by assumption) (by omega)) (fun v4 hv4 => ?_)
  refine wk_g (wn_z (by first | assumption | omega)) ?_
  exact wk_s (⟨show wJ 0 _ from by assumption, fun u h => by cases h <;> simp⟩)
theorem tt_W_jump {a1 : Int32} {a2 : Int32} {σ : wc_S} (hσ : wJ 0 σ)  : wk (wf_W_jump a1 a2 σ) (fun r => wJ 0 (wr_si r) ∧ (∀ u, r = .inl u → u.1 = 0)) := by
  unfold wf_W_jump
  refine wk_b2 (tt_W_isNoCoil (by assumption) ) (fun r2 σ1 hr1 => ?_)
  obtain ⟨hσ1, hpσ1⟩ := hr1
  try simp only [wn_0, wn_1, wn_m1, wn_9, wn_8, wn_4, wn_2, wn_100] at hpσ1
  refine wk_i (fun hc2 => ?_) (fun hc2 => ?_)
  · try simp only [wn_le, wn_lt, wn_eq, wn_0, wn_1, wn_m1, wn_9, wn_8, wn_4, wn_2, wn_100] at hc2
    refine wk_b2 (tt_W_isNoCoil (by assumption) ) (fun r5 σ4 hr3 => ?_)
    obtain ⟨hσ4, hpσ4⟩ := hr3
    try simp only [wn_0, wn_1, wn_m1, wn_9, wn_8, wn_4, wn_2, wn_100] at hpσ4
    refine wk_i (fun hc4 => ?_) (fun hc4 => ?_)
    · try simp only [wn_le, wn_lt, wn_eq, wn_0, wn_1, wn_m1, wn_9, wn_8, wn_4, wn_2, wn_100] at hc4
      refine wk_i (fun hc5 => ?_) (fun hc5 => ?_)
      · try simp only [wn_le, wn_lt, wn_eq, wn_0, wn_1, wn_m1, wn_9, wn_8, wn_4, wn_2, wn_100] at hc5
        unfold wf_W_jump_21
        exact wk_s (⟨show wJ 0 _ from by assumption, fun u h => by cases h <;> simp⟩)
      · try simp only [wn_le, wn_lt, wn_eq, wn_0, wn_1, wn_m1, wn_9, wn_8, wn_4, wn_2, wn_100] at hc5
        refine wk_g (wn_in (by first | omega | decide) (by first | omega | decide)) ?_
        refine wk_g (wn_in (by first | omega | decide) (by first | omega | decide)) ?_
        refine wk_v (fun v10 => ?_)
        exact wk_s (⟨show wJ 0 _ from by assumption, fun u h => by cases h <;> simp⟩)
    · try simp only [wn_le, wn_lt, wn_eq, wn_0, wn_1, wn_m1, wn_9, wn_8, wn_4, wn_2, wn_100] at hc4
      unfold wf_W_jump_21
      exact wk_s (⟨show wJ 0 _ from by assumption, fun u h => by cases h <;> simp⟩)
  · try simp only [wn_le, wn_lt, wn_eq, wn_0, wn_1, wn_m1, wn_9, wn_8, wn_4, wn_2, wn_100] at hc2
    unfold wf_W_jump_21
    exact wk_s (⟨show wJ 0 _ from by assumption, fun u h => by cases h <;> simp⟩)
theorem tt_W_bound_6 {c : Nat}   : ∀ (n : Nat) (x1 : Int32) (x2 : Int32) (x3 : Int32) (σ : wc_S), wJ c σ → 0 ≤ x3.toInt → x3.toInt ≤ 9 → 9 < x3.toInt + n → wk (wf_W_bound_6  n x1 x2 x3 σ) (fun r => wJ c r.2) := by
  intro n
  induction n with
  | zero => intro x1 x2 x3 σ hσ c0 c1 c2; omega
  | succ n ih =>
    intro x1 x2 x3 σ hσ c0 c1 c2
    show wk (wf_W_bound_6_b (wf_W_bound_6  n) x1 x2 x3 σ) _
    unfold wf_W_bound_6_b
    refine wk_rn (by assumption) (fun v1 hv1 => ?_)
    refine wk_i (fun hc1 => ?_) (fun hc1 => ?_)
    · try simp only [wn_le, wn_lt, wn_eq, wn_0, wn_1, wn_m1, wn_9, wn_8, wn_4, wn_2, wn_100] at hc1
      refine wk_v (fun v3 => ?_)
      exact wk_s ((show wJ c _ from by assumption))
    · try simp only [wn_le, wn_lt, wn_eq, wn_0, wn_1, wn_m1, wn_9, wn_8, wn_4, wn_2, wn_100] at hc1
      refine wk_b2 (tt_P_leastJumpTo (by assumption) (by first | omega | decide) (by first | omega | decide)) (fun r5 σ4 hr2 => ?_)
      have hσ4 : wJ _ σ4 := hr2
      refine wk_e (fun v6 ev6 => ?_)
      try (have hv6 : v6.toInt = x1.toInt + r5.toInt := by rw [ev6]; exact wn_add (by omega) (by omega))
      refine wk_v (fun v7 => ?_)
      refine wk_e (fun v8 ev8 => ?_)
      try (have hv8 : v8.toInt = x3.toInt + 1 := by rw [ev8]; exact wn_up (by omega) (by omega))
      exact ih _ _ _ _ (by assumption) (by omega) (by omega) (by omega)
theorem tt_W_bound {c : Nat}  {σ : wc_S} (hσ : wJ c σ)  : wk (wf_W_bound σ) (fun r => wJ c r.2) := by
  unfold wf_W_bound
  exact tt_W_bound_6  16 _ _ _ _ (by assumption) (by first | omega | decide) (by first | omega | decide) (by first | omega | decide) 
theorem tt_W_tell {a1 : Int64} {σ : wc_S} (hσ : wJ 0 σ)  : wk (wf_W_tell a1 σ) (fun r => wJ 0 (wr_sv r) ∧ (∀ u, r = .inl u → u.1 = 0 ∨ u.1 = 3)) := by
  unfold wf_W_tell
  refine wk_b2 (tt_W_readIntoScratch (by assumption) ) (fun r2 σ1 hr1 => ?_)
  have hσ1 : wJ _ σ1 := hr1
  refine wk_i (fun hc2 => ?_) (fun hc2 => ?_)
  · try simp only [wn_le, wn_lt, wn_eq, wn_0, wn_1, wn_m1, wn_9, wn_8, wn_4, wn_2, wn_100] at hc2
    exact wk_s (⟨show wJ 0 _ from by assumption, fun u h => by cases h <;> simp⟩)
  · try simp only [wn_le, wn_lt, wn_eq, wn_0, wn_1, wn_m1, wn_9, wn_8, wn_4, wn_2, wn_100] at hc2
    refine wk_b2 (tt_L_layAll (by assumption) (by first | omega | decide) (by first | omega | decide)) (fun r5 σ4 hr3 => ?_)
    have hσ4 : wJ _ σ4 := hr3
    refine wk_i (fun hc4 => ?_) (fun hc4 => ?_)
    · try simp only [wn_le, wn_lt, wn_eq, wn_0, wn_1, wn_m1, wn_9, wn_8, wn_4, wn_2, wn_100] at hc4
      exact wk_s (⟨show wJ 0 _ from by assumption, fun u h => by cases h <;> simp⟩)
    · try simp only [wn_le, wn_lt, wn_eq, wn_0, wn_1, wn_m1, wn_9, wn_8, wn_4, wn_2, wn_100] at hc4
      refine wk_b2 (tt_L_layAll (by assumption) (by first | omega | decide) (by first | omega | decide)) (fun r8 σ7 hr5 => ?_)
      have hσ7 : wJ _ σ7 := hr5
      refine wk_w (u_o (by assumption) (by omega)) (fun σ9 hσ9 => ?_)
      exact wk_s (⟨show wJ 0 _ from by assumption, fun u h => by cases h <;> simp⟩)
theorem tt_W_improve_26   : ∀ (n : Nat) (x1 : Int32) (x2 : Int32) (σ : wc_S), wJ 0 σ → x1.toInt ≤ 100 → 0 ≤ x2.toInt → x2.toInt ≤ 100 → 100 < x2.toInt + n → wk (wf_W_improve_26  n x1 x2 σ) (fun r => wJ 0 (wr_si r) ∧ (∀ u, r = .inl u → u.1 = 1 ∨ u.1 = 2)) := by
  intro n
  induction n with
  | zero => intro x1 x2 σ hσ c0 c1 c2 c3; omega
  | succ n ih =>
    intro x1 x2 σ hσ c0 c1 c2 c3
    show wk (wf_W_improve_26_b (wf_W_improve_26  n) x1 x2 σ) _
    unfold wf_W_improve_26_b
    refine wk_i (fun hc1 => ?_) (fun hc1 => ?_)
    · try simp only [wn_le, wn_lt, wn_eq, wn_0, wn_1, wn_m1, wn_9, wn_8, wn_4, wn_2, wn_100] at hc1
      exact wk_s (⟨show wJ 0 _ from by assumption, fun u h => by cases h <;> simp⟩)
    · try simp only [wn_le, wn_lt, wn_eq, wn_0, wn_1, wn_m1, wn_9, wn_8, wn_4, wn_2, wn_100] at hc1
      refine wk_b2 (tt_W_takeFirstBetterPair (by assumption) ) (fun r7 σ6 hr2 => ?_)
      have hσ6 : wJ _ σ6 := hr2
      refine wk_i (fun hc3 => ?_) (fun hc3 => ?_)
      · try simp only [wn_le, wn_lt, wn_eq, wn_0, wn_1, wn_m1, wn_9, wn_8, wn_4, wn_2, wn_100] at hc3
        exact wk_s (⟨show wJ 0 _ from by assumption, fun u h => by cases h <;> simp⟩)
      · try simp only [wn_le, wn_lt, wn_eq, wn_0, wn_1, wn_m1, wn_9, wn_8, wn_4, wn_2, wn_100] at hc3
        refine wk_e (fun v9 ev9 => ?_)
        try (have hv9 : v9.toInt = x2.toInt + 1 := by rw [ev9]; exact wn_up (by omega) (by omega))
        exact ih _ _ _ (by assumption) (by omega) (by omega) (by omega) (by omega)
theorem tt_W_improve {a1 : Int32} {σ : wc_S} (hσ : wJ 0 σ)  : wk (wf_W_improve a1 σ) (fun r => wJ 0 (wr_si r) ∧ (∀ u, r = .inl u → u.1 = 1 ∨ u.1 = 2)) := by
  unfold wf_W_improve
  refine wk_bx (tt_W_requireOrder (by assumption) ) (fun u hu => ?_) (fun σ1 hu => ?_)
  · exact ⟨hu.1, fun w h => by cases h; have hk := hu.2.1 _ rfl; first | exact Or.inl hk | exact Or.inr hk | exact hk | exact Or.inr (Or.inl hk) | exact Or.inr (Or.inr hk)⟩
  have hσ1 : wJ _ σ1 := hu.1
  have hpσ1 := hu.2.2 _ rfl
  refine wk_b2 (tt_W_isOutside (by assumption) ) (fun r3 σ2 hr1 => ?_)
  obtain ⟨hσ2, hpσ2⟩ := hr1
  try simp only [wn_0, wn_1, wn_m1, wn_9, wn_8, wn_4, wn_2, wn_100] at hpσ2
  refine wk_i (fun hc2 => ?_) (fun hc2 => ?_)
  · try simp only [wn_le, wn_lt, wn_eq, wn_0, wn_1, wn_m1, wn_9, wn_8, wn_4, wn_2, wn_100] at hc2
    exact tt_W_improve_26 128 _ _ _ (by assumption) (by first | omega | decide) (by first | omega | decide) (by first | omega | decide) (by first | omega | decide)
  · try simp only [wn_le, wn_lt, wn_eq, wn_0, wn_1, wn_m1, wn_9, wn_8, wn_4, wn_2, wn_100] at hc2
    exact wk_s (⟨show wJ 0 _ from by assumption, fun u h => by cases h <;> simp⟩)
theorem tt_K_coil {a1 : Int32} {a2 : Int32} {a3 : Int32} {a4 : Int32} {σ : wc_S} (hσ : wJ 0 σ)  : wk (wf_K_coil a1 a2 a3 a4 σ) (fun r => wJ 0 r.2) := by
  unfold wf_K_coil
  refine wk_cti (tt_W_coil (by assumption) ) (fun k9 σ3 hu => ?_) (fun r2 σ1 hu => ?_)
  · have hσ3 : wJ _ σ3 := hu.1
    have hk := hu.2 _ rfl
    simp only at hk
    refine wk_i (fun hc1 => ?_) (fun hc1 => ?_)
    · try simp only [wn_le, wn_lt, wn_eq, wn_0, wn_1, wn_m1, wn_9, wn_8, wn_4, wn_2, wn_100] at hc1
      exact wk_s ((show wJ 0 _ from by assumption))
    · try simp only [wn_le, wn_lt, wn_eq, wn_0, wn_1, wn_m1, wn_9, wn_8, wn_4, wn_2, wn_100] at hc1
      refine wk_i (fun hc2 => ?_) (fun hc2 => ?_)
      · try simp only [wn_le, wn_lt, wn_eq, wn_0, wn_1, wn_m1, wn_9, wn_8, wn_4, wn_2, wn_100] at hc2
        exact wk_s ((show wJ 0 _ from by assumption))
      · try simp only [wn_le, wn_lt, wn_eq, wn_0, wn_1, wn_m1, wn_9, wn_8, wn_4, wn_2, wn_100] at hc2
        omega
  · have hσ1 : wJ _ σ1 := hu.1
    refine wk_g (wn_in (by first | omega | decide) (by first | omega | decide)) ?_
    refine wk_w (u_o (by assumption) (by omega)) (fun σ5 hσ5 => ?_)
    exact wk_s ((show wJ 0 _ from by assumption))
theorem tt_K_table {a1 : Int32} {a2 : Int32} {a3 : Int32} {a4 : Int32} {σ : wc_S} (hσ : wJ 0 σ)  : wk (wf_K_table a1 a2 a3 a4 σ) (fun r => wJ 0 r.2) := by
  unfold wf_K_table
  refine wk_cti (tt_W_table (by assumption) ) (fun k9 σ3 hu => ?_) (fun r2 σ1 hu => ?_)
  · have hσ3 : wJ _ σ3 := hu.1
    have hk := hu.2 _ rfl
    simp only at hk
    refine wk_i (fun hc1 => ?_) (fun hc1 => ?_)
    · try simp only [wn_le, wn_lt, wn_eq, wn_0, wn_1, wn_m1, wn_9, wn_8, wn_4, wn_2, wn_100] at hc1
      exact wk_s ((show wJ 0 _ from by assumption))
    · try simp only [wn_le, wn_lt, wn_eq, wn_0, wn_1, wn_m1, wn_9, wn_8, wn_4, wn_2, wn_100] at hc1
      refine wk_i (fun hc2 => ?_) (fun hc2 => ?_)
      · try simp only [wn_le, wn_lt, wn_eq, wn_0, wn_1, wn_m1, wn_9, wn_8, wn_4, wn_2, wn_100] at hc2
        exact wk_s ((show wJ 0 _ from by assumption))
      · try simp only [wn_le, wn_lt, wn_eq, wn_0, wn_1, wn_m1, wn_9, wn_8, wn_4, wn_2, wn_100] at hc2
        refine wk_i (fun hc3 => ?_) (fun hc3 => ?_)
        · try simp only [wn_le, wn_lt, wn_eq, wn_0, wn_1, wn_m1, wn_9, wn_8, wn_4, wn_2, wn_100] at hc3
          exact wk_s ((show wJ 0 _ from by assumption))
        · try simp only [wn_le, wn_lt, wn_eq, wn_0, wn_1, wn_m1, wn_9, wn_8, wn_4, wn_2, wn_100] at hc3
          omega
  · have hσ1 : wJ _ σ1 := hu.1
    refine wk_g (wn_in (by first | omega | decide) (by first | omega | decide)) ?_
    refine wk_w (u_o (by assumption) (by omega)) (fun σ5 hσ5 => ?_)
    exact wk_s ((show wJ 0 _ from by assumption))
theorem tt_K_group {a1 : Int32} {a2 : Int32} {a3 : Int32} {σ : wc_S} (hσ : wJ 0 σ)  : wk (wf_K_group a1 a2 a3 σ) (fun r => wJ 0 r.2) := by
  unfold wf_K_group
  refine wk_cti (tt_W_group (by assumption) ) (fun k9 σ3 hu => ?_) (fun r2 σ1 hu => ?_)
  · have hσ3 : wJ _ σ3 := hu.1
    have hk := hu.2 _ rfl
    simp only at hk
    refine wk_i (fun hc1 => ?_) (fun hc1 => ?_)
    · try simp only [wn_le, wn_lt, wn_eq, wn_0, wn_1, wn_m1, wn_9, wn_8, wn_4, wn_2, wn_100] at hc1
      exact wk_s ((show wJ 0 _ from by assumption))
    · try simp only [wn_le, wn_lt, wn_eq, wn_0, wn_1, wn_m1, wn_9, wn_8, wn_4, wn_2, wn_100] at hc1
      refine wk_i (fun hc2 => ?_) (fun hc2 => ?_)
      · try simp only [wn_le, wn_lt, wn_eq, wn_0, wn_1, wn_m1, wn_9, wn_8, wn_4, wn_2, wn_100] at hc2
        exact wk_s ((show wJ 0 _ from by assumption))
      · try simp only [wn_le, wn_lt, wn_eq, wn_0, wn_1, wn_m1, wn_9, wn_8, wn_4, wn_2, wn_100] at hc2
        omega
  · have hσ1 : wJ _ σ1 := hu.1
    refine wk_g (wn_in (by first | omega | decide) (by first | omega | decide)) ?_
    refine wk_w (u_o (by assumption) (by omega)) (fun σ5 hσ5 => ?_)
    exact wk_s ((show wJ 0 _ from by assumption))
theorem tt_K_urgent {a1 : Int32} {a2 : Int32} {σ : wc_S} (hσ : wJ 0 σ)  : wk (wf_K_urgent a1 a2 σ) (fun r => wJ 0 r.2) := by
  unfold wf_K_urgent
  refine wk_ctv (tt_W_urgent (by assumption) ) (fun k9 σ2 hu => ?_) (fun σ1 hu => ?_)
  · have hσ2 : wJ _ σ2 := hu.1
    have hk := hu.2 _ rfl
    simp only at hk
    refine wk_i (fun hc1 => ?_) (fun hc1 => ?_)
    · try simp only [wn_le, wn_lt, wn_eq, wn_0, wn_1, wn_m1, wn_9, wn_8, wn_4, wn_2, wn_100] at hc1
      exact wk_s ((show wJ 0 _ from by assumption))
    · try simp only [wn_le, wn_lt, wn_eq, wn_0, wn_1, wn_m1, wn_9, wn_8, wn_4, wn_2, wn_100] at hc1
      refine wk_i (fun hc2 => ?_) (fun hc2 => ?_)
      · try simp only [wn_le, wn_lt, wn_eq, wn_0, wn_1, wn_m1, wn_9, wn_8, wn_4, wn_2, wn_100] at hc2
        exact wk_s ((show wJ 0 _ from by assumption))
      · try simp only [wn_le, wn_lt, wn_eq, wn_0, wn_1, wn_m1, wn_9, wn_8, wn_4, wn_2, wn_100] at hc2
        omega
  · have hσ1 : wJ _ σ1 := hu.1
    exact wk_s ((show wJ 0 _ from by assumption))
theorem tt_K_old {a1 : Int32} {a2 : Int32} {σ : wc_S} (hσ : wJ 0 σ)  : wk (wf_K_old a1 a2 σ) (fun r => wJ 0 r.2) := by
  unfold wf_K_old
  refine wk_ctv (tt_W_old (by assumption) ) (fun k9 σ2 hu => ?_) (fun σ1 hu => ?_)
  · have hσ2 : wJ _ σ2 := hu.1
    have hk := hu.2 _ rfl
    simp only at hk
    refine wk_i (fun hc1 => ?_) (fun hc1 => ?_)
    · try simp only [wn_le, wn_lt, wn_eq, wn_0, wn_1, wn_m1, wn_9, wn_8, wn_4, wn_2, wn_100] at hc1
      exact wk_s ((show wJ 0 _ from by assumption))
    · try simp only [wn_le, wn_lt, wn_eq, wn_0, wn_1, wn_m1, wn_9, wn_8, wn_4, wn_2, wn_100] at hc1
      refine wk_i (fun hc2 => ?_) (fun hc2 => ?_)
      · try simp only [wn_le, wn_lt, wn_eq, wn_0, wn_1, wn_m1, wn_9, wn_8, wn_4, wn_2, wn_100] at hc2
        exact wk_s ((show wJ 0 _ from by assumption))
      · try simp only [wn_le, wn_lt, wn_eq, wn_0, wn_1, wn_m1, wn_9, wn_8, wn_4, wn_2, wn_100] at hc2
        omega
  · have hσ1 : wJ _ σ1 := hu.1
    exact wk_s ((show wJ 0 _ from by assumption))
theorem tt_K_rules {a1 : Int32} {a2 : Int32} {a3 : Int32} {a4 : Int32} {σ : wc_S} (hσ : wJ 0 σ)  : wk (wf_K_rules a1 a2 a3 a4 σ) (fun r => wJ 0 r.2) := by
  unfold wf_K_rules
  refine wk_ctv (tt_W_rules (by assumption) ) (fun k9 σ2 hu => ?_) (fun σ1 hu => ?_)
  · have hσ2 : wJ _ σ2 := hu.1
    have hk := hu.2 _ rfl
    simp only at hk
    refine wk_i (fun hc1 => ?_) (fun hc1 => ?_)
    · try simp only [wn_le, wn_lt, wn_eq, wn_0, wn_1, wn_m1, wn_9, wn_8, wn_4, wn_2, wn_100] at hc1
      exact wk_s ((show wJ 0 _ from by assumption))
    · try simp only [wn_le, wn_lt, wn_eq, wn_0, wn_1, wn_m1, wn_9, wn_8, wn_4, wn_2, wn_100] at hc1
      omega
  · have hσ1 : wJ _ σ1 := hu.1
    exact wk_s ((show wJ 0 _ from by assumption))
theorem tt_K_run {a1 : Int32} {σ : wc_S} (hσ : wJ 0 σ)  : wk (wf_K_run a1 σ) (fun r => wJ 0 r.2) := by
  unfold wf_K_run
  refine wk_cti (tt_W_run (by assumption) ) (fun k9 σ3 hu => ?_) (fun r2 σ1 hu => ?_)
  · have hσ3 : wJ _ σ3 := hu.1
    have hk := hu.2 _ rfl
    simp only at hk
    refine wk_i (fun hc1 => ?_) (fun hc1 => ?_)
    · try simp only [wn_le, wn_lt, wn_eq, wn_0, wn_1, wn_m1, wn_9, wn_8, wn_4, wn_2, wn_100] at hc1
      exact wk_s ((show wJ 0 _ from by assumption))
    · try simp only [wn_le, wn_lt, wn_eq, wn_0, wn_1, wn_m1, wn_9, wn_8, wn_4, wn_2, wn_100] at hc1
      omega
  · have hσ1 : wJ _ σ1 := hu.1
    refine wk_g (wn_in (by first | omega | decide) (by first | omega | decide)) ?_
    refine wk_w (u_o (by assumption) (by omega)) (fun σ5 hσ5 => ?_)
    exact wk_s ((show wJ 0 _ from by assumption))
theorem tt_K_proved  {σ : wc_S} (hσ : wJ 0 σ)  : wk (wf_K_proved σ) (fun r => wJ 0 r.2) := by
  unfold wf_K_proved
  refine wk_cti (tt_W_proved (by assumption) ) (fun k9 σ3 hu => ?_) (fun r2 σ1 hu => ?_)
  · have hσ3 : wJ _ σ3 := hu.1
    have hk := hu.2 _ rfl
    simp only at hk
    refine wk_i (fun hc1 => ?_) (fun hc1 => ?_)
    · try simp only [wn_le, wn_lt, wn_eq, wn_0, wn_1, wn_m1, wn_9, wn_8, wn_4, wn_2, wn_100] at hc1
      exact wk_s ((show wJ 0 _ from by assumption))
    · try simp only [wn_le, wn_lt, wn_eq, wn_0, wn_1, wn_m1, wn_9, wn_8, wn_4, wn_2, wn_100] at hc1
      omega
  · have hσ1 : wJ _ σ1 := hu.1
    refine wk_i (fun hc2 => ?_) (fun hc2 => ?_)
    · try simp only [wn_le, wn_lt, wn_eq, wn_0, wn_1, wn_m1, wn_9, wn_8, wn_4, wn_2, wn_100] at hc2
      refine wk_g (wn_in (by first | omega | decide) (by first | omega | decide)) ?_
      refine wk_w (u_o (by assumption) (by omega)) (fun σ6 hσ6 => ?_)
      exact wk_s ((show wJ 0 _ from by assumption))
    · try simp only [wn_le, wn_lt, wn_eq, wn_0, wn_1, wn_m1, wn_9, wn_8, wn_4, wn_2, wn_100] at hc2
      refine wk_g (wn_in (by first | omega | decide) (by first | omega | decide)) ?_
      refine wk_w (u_o (by assumption) (by omega)) (fun σ8 hσ8 => ?_)
      exact wk_s ((show wJ 0 _ from by assumption))
theorem tt_K_order {a1 : Int32} {σ : wc_S} (hσ : wJ 0 σ)  : wk (wf_K_order a1 σ) (fun r => wJ 0 r.2) := by
  unfold wf_K_order
  refine wk_cti (tt_W_order (by assumption) ) (fun k9 σ3 hu => ?_) (fun r2 σ1 hu => ?_)
  · have hσ3 : wJ _ σ3 := hu.1
    have hk := hu.2 _ rfl
    simp only at hk
    refine wk_i (fun hc1 => ?_) (fun hc1 => ?_)
    · try simp only [wn_le, wn_lt, wn_eq, wn_0, wn_1, wn_m1, wn_9, wn_8, wn_4, wn_2, wn_100] at hc1
      exact wk_s ((show wJ 0 _ from by assumption))
    · try simp only [wn_le, wn_lt, wn_eq, wn_0, wn_1, wn_m1, wn_9, wn_8, wn_4, wn_2, wn_100] at hc1
      refine wk_i (fun hc2 => ?_) (fun hc2 => ?_)
      · try simp only [wn_le, wn_lt, wn_eq, wn_0, wn_1, wn_m1, wn_9, wn_8, wn_4, wn_2, wn_100] at hc2
        exact wk_s ((show wJ 0 _ from by assumption))
      · try simp only [wn_le, wn_lt, wn_eq, wn_0, wn_1, wn_m1, wn_9, wn_8, wn_4, wn_2, wn_100] at hc2
        omega
  · have hσ1 : wJ _ σ1 := hu.1
    refine wk_g (wn_in (by first | omega | decide) (by first | omega | decide)) ?_
    refine wk_w (u_o (by assumption) (by omega)) (fun σ5 hσ5 => ?_)
    exact wk_s ((show wJ 0 _ from by assumption))
theorem tt_K_told {a1 : Int32} {σ : wc_S} (hσ : wJ 0 σ)  : wk (wf_K_told a1 σ) (fun r => wJ 0 r.2) := by
  unfold wf_K_told
  refine wk_cti (tt_W_told (by assumption) ) (fun k9 σ3 hu => ?_) (fun r2 σ1 hu => ?_)
  · have hσ3 : wJ _ σ3 := hu.1
    have hk := hu.2 _ rfl
    simp only at hk
    refine wk_i (fun hc1 => ?_) (fun hc1 => ?_)
    · try simp only [wn_le, wn_lt, wn_eq, wn_0, wn_1, wn_m1, wn_9, wn_8, wn_4, wn_2, wn_100] at hc1
      exact wk_s ((show wJ 0 _ from by assumption))
    · try simp only [wn_le, wn_lt, wn_eq, wn_0, wn_1, wn_m1, wn_9, wn_8, wn_4, wn_2, wn_100] at hc1
      refine wk_i (fun hc2 => ?_) (fun hc2 => ?_)
      · try simp only [wn_le, wn_lt, wn_eq, wn_0, wn_1, wn_m1, wn_9, wn_8, wn_4, wn_2, wn_100] at hc2
        exact wk_s ((show wJ 0 _ from by assumption))
      · try simp only [wn_le, wn_lt, wn_eq, wn_0, wn_1, wn_m1, wn_9, wn_8, wn_4, wn_2, wn_100] at hc2
        omega
  · have hσ1 : wJ _ σ1 := hu.1
    refine wk_g (wn_in (by first | omega | decide) (by first | omega | decide)) ?_
    refine wk_w (u_o (by assumption) (by omega)) (fun σ5 hσ5 => ?_)
    exact wk_s ((show wJ 0 _ from by assumption))
theorem tt_K_change {a1 : Int32} {σ : wc_S} (hσ : wJ 0 σ)  : wk (wf_K_change a1 σ) (fun r => wJ 0 r.2) := by
  unfold wf_K_change
  refine wk_cti (tt_W_change (by assumption) ) (fun k9 σ3 hu => ?_) (fun r2 σ1 hu => ?_)
  · have hσ3 : wJ _ σ3 := hu.1
    have hk := hu.2 _ rfl
    simp only at hk
    refine wk_i (fun hc1 => ?_) (fun hc1 => ?_)
    · try simp only [wn_le, wn_lt, wn_eq, wn_0, wn_1, wn_m1, wn_9, wn_8, wn_4, wn_2, wn_100] at hc1
      exact wk_s ((show wJ 0 _ from by assumption))
    · try simp only [wn_le, wn_lt, wn_eq, wn_0, wn_1, wn_m1, wn_9, wn_8, wn_4, wn_2, wn_100] at hc1
      refine wk_i (fun hc2 => ?_) (fun hc2 => ?_)
      · try simp only [wn_le, wn_lt, wn_eq, wn_0, wn_1, wn_m1, wn_9, wn_8, wn_4, wn_2, wn_100] at hc2
        exact wk_s ((show wJ 0 _ from by assumption))
      · try simp only [wn_le, wn_lt, wn_eq, wn_0, wn_1, wn_m1, wn_9, wn_8, wn_4, wn_2, wn_100] at hc2
        omega
  · have hσ1 : wJ _ σ1 := hu.1
    refine wk_i (fun hc3 => ?_) (fun hc3 => ?_)
    · try simp only [wn_le, wn_lt, wn_eq, wn_0, wn_1, wn_m1, wn_9, wn_8, wn_4, wn_2, wn_100] at hc3
      refine wk_g (wn_in (by first | omega | decide) (by first | omega | decide)) ?_
      refine wk_w (u_o (by assumption) (by omega)) (fun σ6 hσ6 => ?_)
      exact wk_s ((show wJ 0 _ from by assumption))
    · try simp only [wn_le, wn_lt, wn_eq, wn_0, wn_1, wn_m1, wn_9, wn_8, wn_4, wn_2, wn_100] at hc3
      refine wk_g (wn_in (by first | omega | decide) (by first | omega | decide)) ?_
      refine wk_w (u_o (by assumption) (by omega)) (fun σ8 hσ8 => ?_)
      exact wk_s ((show wJ 0 _ from by assumption))
theorem tt_K_jump {a1 : Int32} {a2 : Int32} {σ : wc_S} (hσ : wJ 0 σ)  : wk (wf_K_jump a1 a2 σ) (fun r => wJ 0 r.2) := by
  unfold wf_K_jump
  refine wk_cti (tt_W_jump (by assumption) ) (fun k9 σ3 hu => ?_) (fun r2 σ1 hu => ?_)
  · have hσ3 : wJ _ σ3 := hu.1
    have hk := hu.2 _ rfl
    simp only at hk
    refine wk_i (fun hc1 => ?_) (fun hc1 => ?_)
    · try simp only [wn_le, wn_lt, wn_eq, wn_0, wn_1, wn_m1, wn_9, wn_8, wn_4, wn_2, wn_100] at hc1
      exact wk_s ((show wJ 0 _ from by assumption))
    · try simp only [wn_le, wn_lt, wn_eq, wn_0, wn_1, wn_m1, wn_9, wn_8, wn_4, wn_2, wn_100] at hc1
      omega
  · have hσ1 : wJ _ σ1 := hu.1
    refine wk_g (wn_in (by first | omega | decide) (by first | omega | decide)) ?_
    refine wk_w (u_o (by assumption) (by omega)) (fun σ5 hσ5 => ?_)
    exact wk_s ((show wJ 0 _ from by assumption))
theorem tt_K_tell {a1 : Int64} {σ : wc_S} (hσ : wJ 0 σ)  : wk (wf_K_tell a1 σ) (fun r => wJ 0 r.2) := by
  unfold wf_K_tell
  refine wk_ctv (tt_W_tell (by assumption) ) (fun k9 σ2 hu => ?_) (fun σ1 hu => ?_)
  · have hσ2 : wJ _ σ2 := hu.1
    have hk := hu.2 _ rfl
    simp only at hk
    refine wk_i (fun hc1 => ?_) (fun hc1 => ?_)
    · try simp only [wn_le, wn_lt, wn_eq, wn_0, wn_1, wn_m1, wn_9, wn_8, wn_4, wn_2, wn_100] at hc1
      exact wk_s ((show wJ 0 _ from by assumption))
    · try simp only [wn_le, wn_lt, wn_eq, wn_0, wn_1, wn_m1, wn_9, wn_8, wn_4, wn_2, wn_100] at hc1
      refine wk_i (fun hc2 => ?_) (fun hc2 => ?_)
      · try simp only [wn_le, wn_lt, wn_eq, wn_0, wn_1, wn_m1, wn_9, wn_8, wn_4, wn_2, wn_100] at hc2
        exact wk_s ((show wJ 0 _ from by assumption))
      · try simp only [wn_le, wn_lt, wn_eq, wn_0, wn_1, wn_m1, wn_9, wn_8, wn_4, wn_2, wn_100] at hc2
        omega
  · have hσ1 : wJ _ σ1 := hu.1
    exact wk_s ((show wJ 0 _ from by assumption))
theorem tt_K_improve {a1 : Int32} {σ : wc_S} (hσ : wJ 0 σ)  : wk (wf_K_improve a1 σ) (fun r => wJ 0 r.2) := by
  unfold wf_K_improve
  refine wk_cti (tt_W_improve (by assumption) ) (fun k9 σ3 hu => ?_) (fun r2 σ1 hu => ?_)
  · have hσ3 : wJ _ σ3 := hu.1
    have hk := hu.2 _ rfl
    simp only at hk
    refine wk_i (fun hc1 => ?_) (fun hc1 => ?_)
    · try simp only [wn_le, wn_lt, wn_eq, wn_0, wn_1, wn_m1, wn_9, wn_8, wn_4, wn_2, wn_100] at hc1
      exact wk_s ((show wJ 0 _ from by assumption))
    · try simp only [wn_le, wn_lt, wn_eq, wn_0, wn_1, wn_m1, wn_9, wn_8, wn_4, wn_2, wn_100] at hc1
      refine wk_i (fun hc2 => ?_) (fun hc2 => ?_)
      · try simp only [wn_le, wn_lt, wn_eq, wn_0, wn_1, wn_m1, wn_9, wn_8, wn_4, wn_2, wn_100] at hc2
        exact wk_s ((show wJ 0 _ from by assumption))
      · try simp only [wn_le, wn_lt, wn_eq, wn_0, wn_1, wn_m1, wn_9, wn_8, wn_4, wn_2, wn_100] at hc2
        omega
  · have hσ1 : wJ _ σ1 := hu.1
    refine wk_g (wn_in (by first | omega | decide) (by first | omega | decide)) ?_
    refine wk_w (u_o (by assumption) (by omega)) (fun σ5 hσ5 => ?_)
    exact wk_s ((show wJ 0 _ from by assumption))
