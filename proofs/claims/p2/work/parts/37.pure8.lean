theorem e_goes26 (s : Int32) (σ : wc_S) : wf_M_goes_26 s σ = if s = 0 then some (1, wc_u σ 71 0 s) else some (0, wc_u σ 71 0 s) := by
  show (if (wc_u σ 71 0 s) 71 0 = 0 then some ((1 : Int32), wc_u σ 71 0 s) else some (0, wc_u σ 71 0 s)) = _
  rw [wu_same]
theorem tt_M_goes {c : Nat} {a1 a2 a3 : Int32} {σ : wc_S} (hσ : wJ c σ) : wk (wf_M_goes a1 a2 a3 σ) (fun r => wJ c r.2 ∧ (r.1.toInt ≠ 0 → a1.toInt ≠ 0 ∧ a2.toInt ≠ 0 ∧ a3.toInt ≠ 0)) := by
  unfold wf_M_goes
  refine wk_i (fun h => ?_) (fun h => wk_i (fun h2 => ?_) (fun h2 => wk_i (fun h3 => ?_) (fun h3 => ?_)))
  · rw [e_goes26, if_neg (by decide)]; exact wk_s ⟨u_71 hσ (by decide) (by decide), fun hne => absurd rfl hne⟩
  · rw [e_goes26, if_neg (by decide)]; exact wk_s ⟨u_71 hσ (by decide) (by decide), fun hne => absurd rfl hne⟩
  · rw [e_goes26, if_neg (by decide)]; exact wk_s ⟨u_71 hσ (by decide) (by decide), fun hne => absurd rfl hne⟩
  · rw [e_goes26, if_pos rfl]; exact wk_s ⟨u_71 hσ (by decide) (by decide), fun _ => ⟨fun e => h (wn_eq.2 e), fun e => h2 (wn_eq.2 e), fun e => h3 (wn_eq.2 e)⟩⟩
theorem tt_M_in {c : Nat} {a0 : Int32} {a1 : Int32} {a2 : Int32} {σ : wc_S} (hσ : wJ c σ)  : wk (wf_M_in a0 a1 a2 σ) (fun r => wJ c r.2 ∧ ((0 ≤ r.1.toInt ∧ r.1.toInt ≤ 1) ∧ (r.1.toInt ≠ 0 → a1.toInt ≤ a0.toInt ∧ a0.toInt ≤ a2.toInt))) := by
  unfold wf_M_in
  refine wk_i (fun hc1 => ?_) (fun hc1 => ?_)
  · try simp only [wn_le, wn_lt, wn_eq, wn_0, wn_1, wn_m1, wn_9, wn_8, wn_4, wn_2, wn_100] at hc1
    exact wk_s (⟨show wJ c _ from by assumption, by first | exact (by decide : 0 ≤ (0 : Int32).toInt ∧ (0 : Int32).toInt ≤ 1) | exact (by decide : 0 ≤ (1 : Int32).toInt ∧ (1 : Int32).toInt ≤ 1), fun hne => by first | omega | exact absurd rfl hne⟩)
  · try simp only [wn_le, wn_lt, wn_eq, wn_0, wn_1, wn_m1, wn_9, wn_8, wn_4, wn_2, wn_100] at hc1
    refine wk_i (fun hc2 => ?_) (fun hc2 => ?_)
    · try simp only [wn_le, wn_lt, wn_eq, wn_0, wn_1, wn_m1, wn_9, wn_8, wn_4, wn_2, wn_100] at hc2
      exact wk_s (⟨show wJ c _ from by assumption, by first | exact (by decide : 0 ≤ (0 : Int32).toInt ∧ (0 : Int32).toInt ≤ 1) | exact (by decide : 0 ≤ (1 : Int32).toInt ∧ (1 : Int32).toInt ≤ 1), fun hne => by first | omega | exact absurd rfl hne⟩)
    · try simp only [wn_le, wn_lt, wn_eq, wn_0, wn_1, wn_m1, wn_9, wn_8, wn_4, wn_2, wn_100] at hc2
      exact wk_s (⟨show wJ c _ from by assumption, by first | exact (by decide : 0 ≤ (0 : Int32).toInt ∧ (0 : Int32).toInt ≤ 1) | exact (by decide : 0 ≤ (1 : Int32).toInt ∧ (1 : Int32).toInt ≤ 1), fun hne => by first | omega | exact absurd rfl hne⟩)
theorem tt_M_isCoil {c : Nat} {a1 : Int32} {σ : wc_S} (hσ : wJ c σ)  : wk (wf_M_isCoil a1 σ) (fun r => wJ c r.2 ∧ (r.1.toInt ≠ 0 → 0 ≤ a1.toInt ∧ a1.toInt ≤ 8)) := by
  unfold wf_M_isCoil
  refine wk_rm (by assumption) (fun v1 hv1 => ?_)
  refine wk_e (fun v2 ev2 => ?_)
  try (have hv2 : v2.toInt = v1.toInt - 1 := by rw [ev2]; exact wn_dn (by omega) (by omega))
  refine wk_b2 (tt_M_in (by assumption) ) (fun r4 σ3 hr1 => ?_)
  obtain ⟨hσ3, hpσ3⟩ := hr1
  try simp only [wn_0, wn_1, wn_m1, wn_9, wn_8, wn_4, wn_2, wn_100] at hpσ3
  refine wk_g (wn_z (by first | assumption | omega)) ?_
  exact wk_s (⟨show wJ c _ from by assumption, fun hne => by have hne2 : r4.toInt ≠ 0 := hne; omega⟩)
theorem tt_M_gone {c : Nat}  {σ : wc_S} (hσ : wJ c σ)  : wk (wf_M_gone σ) (wJ c) := by
  unfold wf_M_gone
  refine wk_w (u_71 (by assumption) (by decide) (by decide)) (fun σ1 hσ1 => ?_)
  refine wk_w (u_71 (by assumption) (by decide) (by decide)) (fun σ2 hσ2 => ?_)
  exact wk_s ((show wJ c _ from by assumption))
theorem tt_M_coil_49 {x1 : Int32} {x2 : Int32} {x3 : Int32} {x4 : Int32} {s1 : Int32} {σ : wc_S} (hσ : wJ 0 σ)  : wk (wf_M_coil_49 x1 x2 x3 x4 s1 σ) (fun r => wJ 0 r.2) := by
  unfold wf_M_coil_49
  refine wk_rm (by assumption) (fun v4 hv4 => ?_)
  refine wk_i (fun hc1 => ?_) (fun hc1 => ?_)
  · try simp only [wn_le, wn_lt, wn_eq, wn_0, wn_1, wn_m1, wn_9, wn_8, wn_4, wn_2, wn_100] at hc1
    unfold wf_M_coil_63
    refine wk_b2 (tt_M_goes (by first | exact wJ_m (by assumption) (by omega) | assumption)) (fun r7 σ6 hr2 => ?_)
    obtain ⟨hσ6, hpσ6⟩ := hr2
    try simp only [wn_0, wn_1, wn_m1, wn_9, wn_8, wn_4, wn_2, wn_100] at hpσ6
    refine wk_i (fun hc3 => ?_) (fun hc3 => ?_)
    · try simp only [wn_le, wn_lt, wn_eq, wn_0, wn_1, wn_m1, wn_9, wn_8, wn_4, wn_2, wn_100] at hc3
      exact wk_s ((show wJ 0 _ from wJ_0 (by assumption)))
    · try simp only [wn_le, wn_lt, wn_eq, wn_0, wn_1, wn_m1, wn_9, wn_8, wn_4, wn_2, wn_100] at hc3
      refine wk_rm (by assumption) (fun v9 hv9 => ?_)
      refine wk_g (wn_in (by first | omega | decide) (by first | omega | decide)) ?_
      refine wk_w (u_o (by assumption) (by omega)) (fun σ11 hσ11 => ?_)
      refine wk_rm (by assumption) (fun v12 hv12 => ?_)
      refine wk_g (wn_in (by first | omega | decide) (by first | omega | decide)) ?_
      refine wk_w (u_o (by assumption) (by omega)) (fun σ14 hσ14 => ?_)
      refine wk_rm (by assumption) (fun v15 hv15 => ?_)
      refine wk_g (wn_in (by first | omega | decide) (by first | omega | decide)) ?_
      refine wk_w (u_o (by assumption) (by omega)) (fun σ17 hσ17 => ?_)
      refine wk_rm (by assumption) (fun v18 hv18 => ?_)
      refine wk_g (wn_in (by first | omega | decide) (by first | omega | decide)) ?_
      refine wk_w (u_o (by assumption) (by omega)) (fun σ20 hσ20 => ?_)
      refine wk_rm (by assumption) (fun v21 hv21 => ?_)
      refine wk_g (wn_in (by first | omega | decide) (by first | omega | decide)) ?_
      refine wk_w (u_o (by assumption) (by omega)) (fun σ23 hσ23 => ?_)
      refine wk_rm (by assumption) (fun v24 hv24 => ?_)
      refine wk_g (wn_in (by first | omega | decide) (by first | omega | decide)) ?_
      refine wk_w (u_o (by assumption) (by omega)) (fun σ26 hσ26 => ?_)
      refine wk_rm (by assumption) (fun v27 hv27 => ?_)
      refine wk_e (fun v28 ev28 => ?_)
      try (have hv28 : v28.toInt = v27.toInt + 1 := by rw [ev28]; exact wn_up (by omega) (by omega))
      refine wk_w (u_m (wJ_0 (by assumption)) (by first | omega | decide | (simp only [wn_0]; omega))) (fun σ29 hσ29 => ?_)
      refine wk_b1 (tt_M_gone (by assumption) ) (fun σ30 hr4 => ?_)
      have hσ30 : wJ _ σ30 := hr4
      refine wk_rm (by assumption) (fun v31 hv31 => ?_)
      refine wk_e (fun v32 ev32 => ?_)
      try (have hv32 : v32.toInt = v31.toInt - 1 := by rw [ev32]; exact wn_dn (by omega) (by omega))
      exact wk_s ((show wJ 0 _ from wJ_0 (by assumption)))
  · try simp only [wn_le, wn_lt, wn_eq, wn_0, wn_1, wn_m1, wn_9, wn_8, wn_4, wn_2, wn_100] at hc1
    unfold wf_M_coil_63
    refine wk_b2 (tt_M_goes (by first | exact wJ_m (by assumption) (by omega) | assumption)) (fun r7 σ6 hr5 => ?_)
    obtain ⟨hσ6, hpσ6⟩ := hr5
    try simp only [wn_0, wn_1, wn_m1, wn_9, wn_8, wn_4, wn_2, wn_100] at hpσ6
    refine wk_i (fun hc6 => ?_) (fun hc6 => ?_)
    · try simp only [wn_le, wn_lt, wn_eq, wn_0, wn_1, wn_m1, wn_9, wn_8, wn_4, wn_2, wn_100] at hc6
      exact wk_s ((show wJ 0 _ from wJ_0 (by assumption)))
    · try simp only [wn_le, wn_lt, wn_eq, wn_0, wn_1, wn_m1, wn_9, wn_8, wn_4, wn_2, wn_100] at hc6
      refine wk_rm (by assumption) (fun v9 hv9 => ?_)
      refine wk_g (wn_in (by first | omega | decide) (by first | omega | decide)) ?_
      refine wk_w (u_o (by assumption) (by omega)) (fun σ11 hσ11 => ?_)
      refine wk_rm (by assumption) (fun v12 hv12 => ?_)
      refine wk_g (wn_in (by first | omega | decide) (by first | omega | decide)) ?_
      refine wk_w (u_o (by assumption) (by omega)) (fun σ14 hσ14 => ?_)
      refine wk_rm (by assumption) (fun v15 hv15 => ?_)
      refine wk_g (wn_in (by first | omega | decide) (by first | omega | decide)) ?_
      refine wk_w (u_o (by assumption) (by omega)) (fun σ17 hσ17 => ?_)
      refine wk_rm (by assumption) (fun v18 hv18 => ?_)
      refine wk_g (wn_in (by first | omega | decide) (by first | omega | decide)) ?_
      refine wk_w (u_o (by assumption) (by omega)) (fun σ20 hσ20 => ?_)
      refine wk_rm (by assumption) (fun v21 hv21 => ?_)
      refine wk_g (wn_in (by first | omega | decide) (by first | omega | decide)) ?_
      refine wk_w (u_o (by assumption) (by omega)) (fun σ23 hσ23 => ?_)
      refine wk_rm (by assumption) (fun v24 hv24 => ?_)
      refine wk_g (wn_in (by first | omega | decide) (by first | omega | decide)) ?_
      refine wk_w (u_o (by assumption) (by omega)) (fun σ26 hσ26 => ?_)
      refine wk_rm (by assumption) (fun v27 hv27 => ?_)
      refine wk_e (fun v28 ev28 => ?_)
      try (have hv28 : v28.toInt = v27.toInt + 1 := by rw [ev28]; exact wn_up (by omega) (by omega))
      refine wk_w (u_m (wJ_0 (by assumption)) (by first | omega | decide | (simp only [wn_0]; omega))) (fun σ29 hσ29 => ?_)
      refine wk_b1 (tt_M_gone (by assumption) ) (fun σ30 hr7 => ?_)
      have hσ30 : wJ _ σ30 := hr7
      refine wk_rm (by assumption) (fun v31 hv31 => ?_)
      refine wk_e (fun v32 ev32 => ?_)
      try (have hv32 : v32.toInt = v31.toInt - 1 := by rw [ev32]; exact wn_dn (by omega) (by omega))
      exact wk_s ((show wJ 0 _ from wJ_0 (by assumption)))
theorem tt_M_coil {a1 : Int32} {a2 : Int32} {a3 : Int32} {a4 : Int32} {σ : wc_S} (hσ : wJ 0 σ)  : wk (wf_M_coil a1 a2 a3 a4 σ) (fun r => wJ 0 r.2) := by
  unfold wf_M_coil
  refine wk_b2 (tt_M_in (by assumption) ) (fun r2 σ1 hr1 => ?_)
  obtain ⟨hσ1, hpσ1⟩ := hr1
  try simp only [wn_0, wn_1, wn_m1, wn_9, wn_8, wn_4, wn_2, wn_100] at hpσ1
  refine wk_i (fun hc2 => ?_) (fun hc2 => ?_)
  · try simp only [wn_le, wn_lt, wn_eq, wn_0, wn_1, wn_m1, wn_9, wn_8, wn_4, wn_2, wn_100] at hc2
    unfold wf_M_coil_48
    exact tt_M_coil_49 (by assumption) 
  · try simp only [wn_le, wn_lt, wn_eq, wn_0, wn_1, wn_m1, wn_9, wn_8, wn_4, wn_2, wn_100] at hc2
    refine wk_b2 (tt_M_in (by assumption) ) (fun r34 σ33 hr3 => ?_)
    obtain ⟨hσ33, hpσ33⟩ := hr3
    try simp only [wn_0, wn_1, wn_m1, wn_9, wn_8, wn_4, wn_2, wn_100] at hpσ33
    refine wk_i (fun hc4 => ?_) (fun hc4 => ?_)
    · try simp only [wn_le, wn_lt, wn_eq, wn_0, wn_1, wn_m1, wn_9, wn_8, wn_4, wn_2, wn_100] at hc4
      unfold wf_M_coil_48
      exact tt_M_coil_49 (by assumption) 
    · try simp only [wn_le, wn_lt, wn_eq, wn_0, wn_1, wn_m1, wn_9, wn_8, wn_4, wn_2, wn_100] at hc4
      refine wk_b2 (tt_M_in (by assumption) ) (fun r37 σ36 hr5 => ?_)
      obtain ⟨hσ36, hpσ36⟩ := hr5
      try simp only [wn_0, wn_1, wn_m1, wn_9, wn_8, wn_4, wn_2, wn_100] at hpσ36
      refine wk_i (fun hc6 => ?_) (fun hc6 => ?_)
      · try simp only [wn_le, wn_lt, wn_eq, wn_0, wn_1, wn_m1, wn_9, wn_8, wn_4, wn_2, wn_100] at hc6
        unfold wf_M_coil_48
        exact tt_M_coil_49 (by assumption) 
      · try simp only [wn_le, wn_lt, wn_eq, wn_0, wn_1, wn_m1, wn_9, wn_8, wn_4, wn_2, wn_100] at hc6
        refine wk_b2 (tt_M_in (by assumption) ) (fun r40 σ39 hr7 => ?_)
        obtain ⟨hσ39, hpσ39⟩ := hr7
        try simp only [wn_0, wn_1, wn_m1, wn_9, wn_8, wn_4, wn_2, wn_100] at hpσ39
        refine wk_i (fun hc8 => ?_) (fun hc8 => ?_)
        · try simp only [wn_le, wn_lt, wn_eq, wn_0, wn_1, wn_m1, wn_9, wn_8, wn_4, wn_2, wn_100] at hc8
          unfold wf_M_coil_48
          exact tt_M_coil_49 (by assumption) 
        · try simp only [wn_le, wn_lt, wn_eq, wn_0, wn_1, wn_m1, wn_9, wn_8, wn_4, wn_2, wn_100] at hc8
          exact tt_M_coil_49 (by assumption) 
theorem tt_M_group_39 {x1 : Int32} {x2 : Int32} {x3 : Int32} {s1 : Int32} {σ : wc_S} (hσ : wJ 0 σ)  : wk (wf_M_group_39 x1 x2 x3 s1 σ) (fun r => wJ 0 r.2) := by
  unfold wf_M_group_39
  refine wk_rk (by assumption) (fun v4 hv4 => ?_)
  refine wk_i (fun hc1 => ?_) (fun hc1 => ?_)
  · try simp only [wn_le, wn_lt, wn_eq, wn_0, wn_1, wn_m1, wn_9, wn_8, wn_4, wn_2, wn_100] at hc1
    unfold wf_M_group_52
    refine wk_b2 (tt_M_goes (by first | exact wJ_k (by assumption) (by omega) | assumption)) (fun r7 σ6 hr2 => ?_)
    obtain ⟨hσ6, hpσ6⟩ := hr2
    try simp only [wn_0, wn_1, wn_m1, wn_9, wn_8, wn_4, wn_2, wn_100] at hpσ6
    refine wk_i (fun hc3 => ?_) (fun hc3 => ?_)
    · try simp only [wn_le, wn_lt, wn_eq, wn_0, wn_1, wn_m1, wn_9, wn_8, wn_4, wn_2, wn_100] at hc3
      exact wk_s ((show wJ 0 _ from wJ_0 (by assumption)))
    · try simp only [wn_le, wn_lt, wn_eq, wn_0, wn_1, wn_m1, wn_9, wn_8, wn_4, wn_2, wn_100] at hc3
      refine wk_rk (by assumption) (fun v9 hv9 => ?_)
      refine wk_g (wn_in (by first | omega | decide) (by first | omega | decide)) ?_
      refine wk_w (u_o (by assumption) (by omega)) (fun σ11 hσ11 => ?_)
      refine wk_rk (by assumption) (fun v12 hv12 => ?_)
      refine wk_g (wn_in (by first | omega | decide) (by first | omega | decide)) ?_
      refine wk_w (u_o (by assumption) (by omega)) (fun σ14 hσ14 => ?_)
      refine wk_rk (by assumption) (fun v15 hv15 => ?_)
      refine wk_g (wn_in (by first | omega | decide) (by first | omega | decide)) ?_
      refine wk_w (u_o (by assumption) (by omega)) (fun σ17 hσ17 => ?_)
      refine wk_rk (by assumption) (fun v18 hv18 => ?_)
      refine wk_e (fun v19 ev19 => ?_)
      try (have hv19 : v19.toInt = v18.toInt + 1 := by rw [ev19]; exact wn_up (by omega) (by omega))
      refine wk_w (u_k (wJ_0 (by assumption)) (by first | omega | decide | (simp only [wn_0]; omega))) (fun σ20 hσ20 => ?_)
      refine wk_b1 (tt_M_gone (by assumption) ) (fun σ21 hr4 => ?_)
      have hσ21 : wJ _ σ21 := hr4
      refine wk_rk (by assumption) (fun v22 hv22 => ?_)
      exact wk_s ((show wJ 0 _ from wJ_0 (by assumption)))
  · try simp only [wn_le, wn_lt, wn_eq, wn_0, wn_1, wn_m1, wn_9, wn_8, wn_4, wn_2, wn_100] at hc1
    unfold wf_M_group_52
    refine wk_b2 (tt_M_goes (by first | exact wJ_k (by assumption) (by omega) | assumption)) (fun r7 σ6 hr5 => ?_)
    obtain ⟨hσ6, hpσ6⟩ := hr5
    try simp only [wn_0, wn_1, wn_m1, wn_9, wn_8, wn_4, wn_2, wn_100] at hpσ6
    refine wk_i (fun hc6 => ?_) (fun hc6 => ?_)
    · try simp only [wn_le, wn_lt, wn_eq, wn_0, wn_1, wn_m1, wn_9, wn_8, wn_4, wn_2, wn_100] at hc6
      exact wk_s ((show wJ 0 _ from wJ_0 (by assumption)))
    · try simp only [wn_le, wn_lt, wn_eq, wn_0, wn_1, wn_m1, wn_9, wn_8, wn_4, wn_2, wn_100] at hc6
      refine wk_rk (by assumption) (fun v9 hv9 => ?_)
      refine wk_g (wn_in (by first | omega | decide) (by first | omega | decide)) ?_
      refine wk_w (u_o (by assumption) (by omega)) (fun σ11 hσ11 => ?_)
      refine wk_rk (by assumption) (fun v12 hv12 => ?_)
      refine wk_g (wn_in (by first | omega | decide) (by first | omega | decide)) ?_
      refine wk_w (u_o (by assumption) (by omega)) (fun σ14 hσ14 => ?_)
      refine wk_rk (by assumption) (fun v15 hv15 => ?_)
      refine wk_g (wn_in (by first | omega | decide) (by first | omega | decide)) ?_
      refine wk_w (u_o (by assumption) (by omega)) (fun σ17 hσ17 => ?_)
      refine wk_rk (by assumption) (fun v18 hv18 => ?_)
      refine wk_e (fun v19 ev19 => ?_)
      try (have hv19 : v19.toInt = v18.toInt + 1 := by rw [ev19]; exact wn_up (by omega) (by omega))
      refine wk_w (u_k (wJ_0 (by assumption)) (by first | omega | decide | (simp only [wn_0]; omega))) (fun σ20 hσ20 => ?_)
      refine wk_b1 (tt_M_gone (by assumption) ) (fun σ21 hr7 => ?_)
      have hσ21 : wJ _ σ21 := hr7
      refine wk_rk (by assumption) (fun v22 hv22 => ?_)
      exact wk_s ((show wJ 0 _ from wJ_0 (by assumption)))
theorem tt_M_group {a1 : Int32} {a2 : Int32} {a3 : Int32} {σ : wc_S} (hσ : wJ 0 σ)  : wk (wf_M_group a1 a2 a3 σ) (fun r => wJ 0 r.2) := by
  unfold wf_M_group
  refine wk_b2 (tt_M_in (by assumption) ) (fun r2 σ1 hr1 => ?_)
  obtain ⟨hσ1, hpσ1⟩ := hr1
  try simp only [wn_0, wn_1, wn_m1, wn_9, wn_8, wn_4, wn_2, wn_100] at hpσ1
  refine wk_i (fun hc2 => ?_) (fun hc2 => ?_)
  · try simp only [wn_le, wn_lt, wn_eq, wn_0, wn_1, wn_m1, wn_9, wn_8, wn_4, wn_2, wn_100] at hc2
    unfold wf_M_group_38
    exact tt_M_group_39 (by assumption) 
  · try simp only [wn_le, wn_lt, wn_eq, wn_0, wn_1, wn_m1, wn_9, wn_8, wn_4, wn_2, wn_100] at hc2
    refine wk_b2 (tt_M_in (by assumption) ) (fun r24 σ23 hr3 => ?_)
    obtain ⟨hσ23, hpσ23⟩ := hr3
    try simp only [wn_0, wn_1, wn_m1, wn_9, wn_8, wn_4, wn_2, wn_100] at hpσ23
    refine wk_i (fun hc4 => ?_) (fun hc4 => ?_)
    · try simp only [wn_le, wn_lt, wn_eq, wn_0, wn_1, wn_m1, wn_9, wn_8, wn_4, wn_2, wn_100] at hc4
      unfold wf_M_group_38
      exact tt_M_group_39 (by assumption) 
    · try simp only [wn_le, wn_lt, wn_eq, wn_0, wn_1, wn_m1, wn_9, wn_8, wn_4, wn_2, wn_100] at hc4
      refine wk_b2 (tt_M_in (by assumption) ) (fun r27 σ26 hr5 => ?_)
      obtain ⟨hσ26, hpσ26⟩ := hr5
      try simp only [wn_0, wn_1, wn_m1, wn_9, wn_8, wn_4, wn_2, wn_100] at hpσ26
      refine wk_i (fun hc6 => ?_) (fun hc6 => ?_)
      · try simp only [wn_le, wn_lt, wn_eq, wn_0, wn_1, wn_m1, wn_9, wn_8, wn_4, wn_2, wn_100] at hc6
        unfold wf_M_group_38
        exact tt_M_group_39 (by assumption) 
      · try simp only [wn_le, wn_lt, wn_eq, wn_0, wn_1, wn_m1, wn_9, wn_8, wn_4, wn_2, wn_100] at hc6
        exact tt_M_group_39 (by assumption) 
theorem tt_M_urgent {a1 : Int32} {a2 : Int32} {σ : wc_S} (hσ : wJ 0 σ)  : wk (wf_M_urgent a1 a2 σ) (wJ 0) := by
  unfold wf_M_urgent
  refine wk_b2 (tt_M_isCoil (by assumption) ) (fun r2 σ1 hr1 => ?_)
  obtain ⟨hσ1, hpσ1⟩ := hr1
  try simp only [wn_0, wn_1, wn_m1, wn_9, wn_8, wn_4, wn_2, wn_100] at hpσ1
  refine wk_b2 (tt_M_in (by assumption) ) (fun r4 σ3 hr2 => ?_)
  obtain ⟨hσ3, hpσ3⟩ := hr2
  try simp only [wn_0, wn_1, wn_m1, wn_9, wn_8, wn_4, wn_2, wn_100] at hpσ3
  refine wk_b2 (tt_M_goes (by assumption)) (fun r6 σ5 hr3 => ?_)
  obtain ⟨hσ5, hpσ5⟩ := hr3
  try simp only [wn_0, wn_1, wn_m1, wn_9, wn_8, wn_4, wn_2, wn_100] at hpσ5
  refine wk_i (fun hc4 => ?_) (fun hc4 => ?_)
  · try simp only [wn_le, wn_lt, wn_eq, wn_0, wn_1, wn_m1, wn_9, wn_8, wn_4, wn_2, wn_100] at hc4
    exact wk_s ((show wJ 0 _ from by assumption))
  · try simp only [wn_le, wn_lt, wn_eq, wn_0, wn_1, wn_m1, wn_9, wn_8, wn_4, wn_2, wn_100] at hc4
    refine wk_g (wn_in (by first | omega | decide) (by first | omega | decide)) ?_
    refine wk_w (u_o (by assumption) (by omega)) (fun σ9 hσ9 => ?_)
    refine wk_b1 (tt_M_gone (by assumption) ) (fun σ10 hr5 => ?_)
    have hσ10 : wJ _ σ10 := hr5
    exact wk_s ((show wJ 0 _ from by assumption))
theorem tt_M_old {a1 : Int32} {a2 : Int32} {σ : wc_S} (hσ : wJ 0 σ)  : wk (wf_M_old a1 a2 σ) (wJ 0) := by
  unfold wf_M_old
  refine wk_b2 (tt_M_isCoil (by assumption) ) (fun r2 σ1 hr1 => ?_)
  obtain ⟨hσ1, hpσ1⟩ := hr1
  try simp only [wn_0, wn_1, wn_m1, wn_9, wn_8, wn_4, wn_2, wn_100] at hpσ1
  refine wk_b2 (tt_M_in (by assumption) ) (fun r4 σ3 hr2 => ?_)
  obtain ⟨hσ3, hpσ3⟩ := hr2
  try simp only [wn_0, wn_1, wn_m1, wn_9, wn_8, wn_4, wn_2, wn_100] at hpσ3
  refine wk_b2 (tt_M_goes (by assumption)) (fun r6 σ5 hr3 => ?_)
  obtain ⟨hσ5, hpσ5⟩ := hr3
  try simp only [wn_0, wn_1, wn_m1, wn_9, wn_8, wn_4, wn_2, wn_100] at hpσ5
  refine wk_i (fun hc4 => ?_) (fun hc4 => ?_)
  · try simp only [wn_le, wn_lt, wn_eq, wn_0, wn_1, wn_m1, wn_9, wn_8, wn_4, wn_2, wn_100] at hc4
    exact wk_s ((show wJ 0 _ from by assumption))
  · try simp only [wn_le, wn_lt, wn_eq, wn_0, wn_1, wn_m1, wn_9, wn_8, wn_4, wn_2, wn_100] at hc4
    refine wk_g (wn_in (by first | omega | decide) (by first | omega | decide)) ?_
    refine wk_w (u_o (by assumption) (by omega)) (fun σ9 hσ9 => ?_)
    refine wk_b1 (tt_M_gone (by assumption) ) (fun σ10 hr5 => ?_)
    have hσ10 : wJ _ σ10 := hr5
    exact wk_s ((show wJ 0 _ from by assumption))
theorem tt_M_rules {a1 : Int32} {a2 : Int32} {a3 : Int32} {a4 : Int32} {σ : wc_S} (hσ : wJ 0 σ)  : wk (wf_M_rules a1 a2 a3 a4 σ) (wJ 0) := by
  unfold wf_M_rules
  refine wk_b2 (tt_M_in (by assumption) ) (fun r2 σ1 hr1 => ?_)
  obtain ⟨hσ1, hpσ1⟩ := hr1
  try simp only [wn_0, wn_1, wn_m1, wn_9, wn_8, wn_4, wn_2, wn_100] at hpσ1
  refine wk_i (fun hc2 => ?_) (fun hc2 => ?_)
  · try simp only [wn_le, wn_lt, wn_eq, wn_0, wn_1, wn_m1, wn_9, wn_8, wn_4, wn_2, wn_100] at hc2
    unfold wf_M_rules_49
    unfold wf_M_rules_50
    refine wk_b2 (tt_M_goes (by assumption)) (fun r5 σ4 hr3 => ?_)
    obtain ⟨hσ4, hpσ4⟩ := hr3
    try simp only [wn_0, wn_1, wn_m1, wn_9, wn_8, wn_4, wn_2, wn_100] at hpσ4
    refine wk_i (fun hc4 => ?_) (fun hc4 => ?_)
    · try simp only [wn_le, wn_lt, wn_eq, wn_0, wn_1, wn_m1, wn_9, wn_8, wn_4, wn_2, wn_100] at hc4
      exact wk_s ((show wJ 0 _ from by assumption))
    · try simp only [wn_le, wn_lt, wn_eq, wn_0, wn_1, wn_m1, wn_9, wn_8, wn_4, wn_2, wn_100] at hc4
      refine wk_w (u_71 (by assumption) (by decide) (by decide)) (fun σ7 hσ7 => ?_)
      refine wk_w (u_71 (by assumption) (by decide) (by decide)) (fun σ8 hσ8 => ?_)
      refine wk_w (u_71 (by assumption) (by decide) (by decide)) (fun σ9 hσ9 => ?_)
      refine wk_w (u_71 (by assumption) (by decide) (by decide)) (fun σ10 hσ10 => ?_)
      refine wk_b1 (tt_M_gone (by assumption) ) (fun σ11 hr5 => ?_)
      have hσ11 : wJ _ σ11 := hr5
      exact wk_s ((show wJ 0 _ from by assumption))
  · try simp only [wn_le, wn_lt, wn_eq, wn_0, wn_1, wn_m1, wn_9, wn_8, wn_4, wn_2, wn_100] at hc2
    refine wk_b2 (tt_M_in (by assumption) ) (fun r13 σ12 hr6 => ?_)
    obtain ⟨hσ12, hpσ12⟩ := hr6
    try simp only [wn_0, wn_1, wn_m1, wn_9, wn_8, wn_4, wn_2, wn_100] at hpσ12
    refine wk_i (fun hc7 => ?_) (fun hc7 => ?_)
    · try simp only [wn_le, wn_lt, wn_eq, wn_0, wn_1, wn_m1, wn_9, wn_8, wn_4, wn_2, wn_100] at hc7
      unfold wf_M_rules_49
      unfold wf_M_rules_50
      refine wk_b2 (tt_M_goes (by assumption)) (fun r5 σ4 hr8 => ?_)
      obtain ⟨hσ4, hpσ4⟩ := hr8
      try simp only [wn_0, wn_1, wn_m1, wn_9, wn_8, wn_4, wn_2, wn_100] at hpσ4
      refine wk_i (fun hc9 => ?_) (fun hc9 => ?_)
      · try simp only [wn_le, wn_lt, wn_eq, wn_0, wn_1, wn_m1, wn_9, wn_8, wn_4, wn_2, wn_100] at hc9
        exact wk_s ((show wJ 0 _ from by assumption))
      · try simp only [wn_le, wn_lt, wn_eq, wn_0, wn_1, wn_m1, wn_9, wn_8, wn_4, wn_2, wn_100] at hc9
        refine wk_w (u_71 (by assumption) (by decide) (by decide)) (fun σ7 hσ7 => ?_)
        refine wk_w (u_71 (by assumption) (by decide) (by decide)) (fun σ8 hσ8 => ?_)
        refine wk_w (u_71 (by assumption) (by decide) (by decide)) (fun σ9 hσ9 => ?_)
        refine wk_w (u_71 (by assumption) (by decide) (by decide)) (fun σ10 hσ10 => ?_)
        refine wk_b1 (tt_M_gone (by assumption) ) (fun σ11 hr10 => ?_)
        have hσ11 : wJ _ σ11 := hr10
        exact wk_s ((show wJ 0 _ from by assumption))
    · try simp only [wn_le, wn_lt, wn_eq, wn_0, wn_1, wn_m1, wn_9, wn_8, wn_4, wn_2, wn_100] at hc7
      refine wk_b2 (tt_M_in (by assumption) ) (fun r16 σ15 hr11 => ?_)
      obtain ⟨hσ15, hpσ15⟩ := hr11
      try simp only [wn_0, wn_1, wn_m1, wn_9, wn_8, wn_4, wn_2, wn_100] at hpσ15
      refine wk_i (fun hc12 => ?_) (fun hc12 => ?_)
      · try simp only [wn_le, wn_lt, wn_eq, wn_0, wn_1, wn_m1, wn_9, wn_8, wn_4, wn_2, wn_100] at hc12
        unfold wf_M_rules_49
        unfold wf_M_rules_50
        refine wk_b2 (tt_M_goes (by assumption)) (fun r5 σ4 hr13 => ?_)
        obtain ⟨hσ4, hpσ4⟩ := hr13
        try simp only [wn_0, wn_1, wn_m1, wn_9, wn_8, wn_4, wn_2, wn_100] at hpσ4
        refine wk_i (fun hc14 => ?_) (fun hc14 => ?_)
        · try simp only [wn_le, wn_lt, wn_eq, wn_0, wn_1, wn_m1, wn_9, wn_8, wn_4, wn_2, wn_100] at hc14
          exact wk_s ((show wJ 0 _ from by assumption))
        · try simp only [wn_le, wn_lt, wn_eq, wn_0, wn_1, wn_m1, wn_9, wn_8, wn_4, wn_2, wn_100] at hc14
          refine wk_w (u_71 (by assumption) (by decide) (by decide)) (fun σ7 hσ7 => ?_)
          refine wk_w (u_71 (by assumption) (by decide) (by decide)) (fun σ8 hσ8 => ?_)
          refine wk_w (u_71 (by assumption) (by decide) (by decide)) (fun σ9 hσ9 => ?_)
          refine wk_w (u_71 (by assumption) (by decide) (by decide)) (fun σ10 hσ10 => ?_)
          refine wk_b1 (tt_M_gone (by assumption) ) (fun σ11 hr15 => ?_)
          have hσ11 : wJ _ σ11 := hr15
          exact wk_s ((show wJ 0 _ from by assumption))
      · try simp only [wn_le, wn_lt, wn_eq, wn_0, wn_1, wn_m1, wn_9, wn_8, wn_4, wn_2, wn_100] at hc12
        refine wk_b2 (tt_M_in (by assumption) ) (fun r19 σ18 hr16 => ?_)
        obtain ⟨hσ18, hpσ18⟩ := hr16
        try simp only [wn_0, wn_1, wn_m1, wn_9, wn_8, wn_4, wn_2, wn_100] at hpσ18
        refine wk_i (fun hc17 => ?_) (fun hc17 => ?_)
        · try simp only [wn_le, wn_lt, wn_eq, wn_0, wn_1, wn_m1, wn_9, wn_8, wn_4, wn_2, wn_100] at hc17
          unfold wf_M_rules_49
          unfold wf_M_rules_50
          refine wk_b2 (tt_M_goes (by assumption)) (fun r5 σ4 hr18 => ?_)
          obtain ⟨hσ4, hpσ4⟩ := hr18
          try simp only [wn_0, wn_1, wn_m1, wn_9, wn_8, wn_4, wn_2, wn_100] at hpσ4
          refine wk_i (fun hc19 => ?_) (fun hc19 => ?_)
          · try simp only [wn_le, wn_lt, wn_eq, wn_0, wn_1, wn_m1, wn_9, wn_8, wn_4, wn_2, wn_100] at hc19
            exact wk_s ((show wJ 0 _ from by assumption))
          · try simp only [wn_le, wn_lt, wn_eq, wn_0, wn_1, wn_m1, wn_9, wn_8, wn_4, wn_2, wn_100] at hc19
            refine wk_w (u_71 (by assumption) (by decide) (by decide)) (fun σ7 hσ7 => ?_)
            refine wk_w (u_71 (by assumption) (by decide) (by decide)) (fun σ8 hσ8 => ?_)
            refine wk_w (u_71 (by assumption) (by decide) (by decide)) (fun σ9 hσ9 => ?_)
            refine wk_w (u_71 (by assumption) (by decide) (by decide)) (fun σ10 hσ10 => ?_)
            refine wk_b1 (tt_M_gone (by assumption) ) (fun σ11 hr20 => ?_)
            have hσ11 : wJ _ σ11 := hr20
            exact wk_s ((show wJ 0 _ from by assumption))
        · try simp only [wn_le, wn_lt, wn_eq, wn_0, wn_1, wn_m1, wn_9, wn_8, wn_4, wn_2, wn_100] at hc17
          unfold wf_M_rules_50
          refine wk_b2 (tt_M_goes (by assumption)) (fun r5 σ4 hr21 => ?_)
          obtain ⟨hσ4, hpσ4⟩ := hr21
          try simp only [wn_0, wn_1, wn_m1, wn_9, wn_8, wn_4, wn_2, wn_100] at hpσ4
          refine wk_i (fun hc22 => ?_) (fun hc22 => ?_)
          · try simp only [wn_le, wn_lt, wn_eq, wn_0, wn_1, wn_m1, wn_9, wn_8, wn_4, wn_2, wn_100] at hc22
            exact wk_s ((show wJ 0 _ from by assumption))
          · try simp only [wn_le, wn_lt, wn_eq, wn_0, wn_1, wn_m1, wn_9, wn_8, wn_4, wn_2, wn_100] at hc22
            refine wk_w (u_71 (by assumption) (by decide) (by decide)) (fun σ7 hσ7 => ?_)
            refine wk_w (u_71 (by assumption) (by decide) (by decide)) (fun σ8 hσ8 => ?_)
            refine wk_w (u_71 (by assumption) (by decide) (by decide)) (fun σ9 hσ9 => ?_)
            refine wk_w (u_71 (by assumption) (by decide) (by decide)) (fun σ10 hσ10 => ?_)
            refine wk_b1 (tt_M_gone (by assumption) ) (fun σ11 hr23 => ?_)
            have hσ11 : wJ _ σ11 := hr23
            exact wk_s ((show wJ 0 _ from by assumption))
theorem tt_M_costOf_17 {c : Nat}   : ∀ (n : Nat) (x1 : Int32) (x3 : Int32) (x4 : Int32) (σ : wc_S), wJ c σ → 0 ≤ x1.toInt → x1.toInt ≤ 1 → 8 * x1.toInt ≤ x4.toInt → x4.toInt ≤ 8 * x1.toInt + 8 → 8 * x1.toInt + 8 < x4.toInt + n → wk (wf_M_costOf_17  n x1 x3 x4 σ) (fun r => wJ c r.2) := by
  intro n
  induction n with
  | zero => intro x1 x3 x4 σ hσ c0 c1 c2 c3 c4; omega
  | succ n ih =>
    intro x1 x3 x4 σ hσ c0 c1 c2 c3 c4
    show wk (wf_M_costOf_17_b (wf_M_costOf_17  n) x1 x3 x4 σ) _
    unfold wf_M_costOf_17_b
    refine wk_e (fun v3 ev3 => ?_)
    try (have hv3 : v3.toInt = 8 * x1.toInt := by rw [ev3]; exact wn_m8 (by first | omega | decide) (by first | omega | decide))
    refine wk_g (wn_in (by first | omega | decide) (by first | omega | decide)) ?_
    refine wk_r (fun v => 0 ≤ v.toInt ∧ v.toInt ≤ 8) (i_8 (by assumption) (by omega)) (fun v5 hv5 => ?_)
    refine wk_e (fun v6 ev6 => ?_)
    try (have hv6 : v6.toInt = v3.toInt + v5.toInt := by rw [ev6]; exact wn_add (by omega) (by omega))
    refine wk_i (fun hc1 => ?_) (fun hc1 => ?_)
    · try simp only [wn_le, wn_lt, wn_eq, wn_0, wn_1, wn_m1, wn_9, wn_8, wn_4, wn_2, wn_100] at hc1
      refine wk_g (wn_in (by first | omega | decide) (by first | omega | decide)) ?_
      refine wk_r (fun v => 0 ≤ v.toInt ∧ v.toInt ≤ 8) (i_8 (by assumption) (by omega)) (fun v9 hv9 => ?_)
      refine wk_i (fun hc2 => ?_) (fun hc2 => ?_)
      · try simp only [wn_le, wn_lt, wn_eq, wn_0, wn_1, wn_m1, wn_9, wn_8, wn_4, wn_2, wn_100] at hc2
        exact wk_s ((show wJ c _ from by assumption))
      · try simp only [wn_le, wn_lt, wn_eq, wn_0, wn_1, wn_m1, wn_9, wn_8, wn_4, wn_2, wn_100] at hc2
        exact wk_s ((show wJ c _ from by assumption))
    · try simp only [wn_le, wn_lt, wn_eq, wn_0, wn_1, wn_m1, wn_9, wn_8, wn_4, wn_2, wn_100] at hc1
      refine wk_g (wn_in (by first | omega | decide) (by first | omega | decide)) ?_
      refine wk_v (fun v12 => ?_)
      refine wk_i (fun hc3 => ?_) (fun hc3 => ?_)
      · try simp only [wn_le, wn_lt, wn_eq, wn_0, wn_1, wn_m1, wn_9, wn_8, wn_4, wn_2, wn_100] at hc3
        unfold wf_M_costOf_63
        refine wk_e (fun v14 ev14 => ?_)
        try (have hv14 : v14.toInt = x4.toInt + 1 := by rw [ev14]; exact wn_up (by omega) (by omega))
        exact ih _ _ _ _ (by assumption) (by omega) (by omega) (by omega) (by omega) (by omega)
      · try simp only [wn_le, wn_lt, wn_eq, wn_0, wn_1, wn_m1, wn_9, wn_8, wn_4, wn_2, wn_100] at hc3
        refine wk_g (wn_in (by first | omega | decide) (by first | omega | decide)) ?_
        refine wk_v (fun v16 => ?_)
        refine wk_i (fun hc4 => ?_) (fun hc4 => ?_)
        · try simp only [wn_le, wn_lt, wn_eq, wn_0, wn_1, wn_m1, wn_9, wn_8, wn_4, wn_2, wn_100] at hc4
          unfold wf_M_costOf_63
          refine wk_e (fun v14 ev14 => ?_)
          try (have hv14 : v14.toInt = x4.toInt + 1 := by rw [ev14]; exact wn_up (by omega) (by omega))
          exact ih _ _ _ _ (by assumption) (by omega) (by omega) (by omega) (by omega) (by omega)
        · try simp only [wn_le, wn_lt, wn_eq, wn_0, wn_1, wn_m1, wn_9, wn_8, wn_4, wn_2, wn_100] at hc4
          refine wk_g (wn_in (by first | omega | decide) (by first | omega | decide)) ?_
          refine wk_v (fun v19 => ?_)
          exact wk_s ((show wJ c _ from by assumption))
theorem tt_M_costOf {c : Nat} {a1 : Int32} {a2 : Int32} {σ : wc_S} (hσ : wJ c σ) (q0 : 0 ≤ a1.toInt) (q1 : a1.toInt ≤ 1) : wk (wf_M_costOf a1 a2 σ) (fun r => wJ c r.2) := by
  unfold wf_M_costOf
  refine wk_i (fun hc1 => ?_) (fun hc1 => ?_)
  · try simp only [wn_le, wn_lt, wn_eq, wn_0, wn_1, wn_m1, wn_9, wn_8, wn_4, wn_2, wn_100] at hc1
    unfold wf_M_costOf_10
    refine wk_e (fun v2 ev2 => ?_)
    try (have hv2 : v2.toInt = 8 * a1.toInt := by rw [ev2]; exact wn_m8 (by first | omega | decide) (by first | omega | decide))
    exact tt_M_costOf_17  16 _ _ _ _ (by assumption) (by first | omega | decide) (by first | omega | decide) (by first | omega | decide) (by first | omega | decide) (by first | omega | decide) 
  · try simp only [wn_le, wn_lt, wn_eq, wn_0, wn_1, wn_m1, wn_9, wn_8, wn_4, wn_2, wn_100] at hc1
    refine wk_v (fun v20 => ?_)
    unfold wf_M_costOf_10
    refine wk_e (fun v2 ev2 => ?_)
    try (have hv2 : v2.toInt = 8 * a1.toInt := by rw [ev2]; exact wn_m8 (by first | omega | decide) (by first | omega | decide))
    exact tt_M_costOf_17  16 _ _ _ _ (by assumption) (by first | omega | decide) (by first | omega | decide) (by first | omega | decide) (by first | omega | decide) (by first | omega | decide) 
theorem tt_M_jumpOf {c : Nat} {a1 : Int32} {a2 : Int32} {σ : wc_S} (hσ : wJ c σ) (q0 : 0 ≤ a1.toInt) (q1 : a1.toInt ≤ 8) (q2 : 0 ≤ a2.toInt) (q3 : a2.toInt ≤ 8) : wk (wf_M_jumpOf a1 a2 σ) (fun r => wJ c r.2) := by
  unfold wf_M_jumpOf
  refine wk_g (wn_in (by first | omega | decide) (by first | omega | decide)) ?_
  refine wk_v (fun v2 => ?_)
  refine wk_g (wn_in (by first | omega | decide) (by first | omega | decide)) ?_
  refine wk_v (fun v4 => ?_)
  refine wk_v (fun v5 => ?_)
  refine wk_b2 (tt_M_costOf (by assumption) (by first | omega | decide) (by first | omega | decide)) (fun r7 σ6 hr1 => ?_)
  have hσ6 : wJ _ σ6 := hr1
  refine wk_g (wn_in (by first | omega | decide) (by first | omega | decide)) ?_
  refine wk_v (fun v9 => ?_)
  refine wk_g (wn_in (by first | omega | decide) (by first | omega | decide)) ?_
  refine wk_v (fun v11 => ?_)
  refine wk_v (fun v12 => ?_)
  refine wk_b2 (tt_M_costOf (by assumption) (by first | omega | decide) (by first | omega | decide)) (fun r14 σ13 hr2 => ?_)
  have hσ13 : wJ _ σ13 := hr2
  refine wk_i (fun hc3 => ?_) (fun hc3 => ?_)
  · try simp only [wn_le, wn_lt, wn_eq, wn_0, wn_1, wn_m1, wn_9, wn_8, wn_4, wn_2, wn_100] at hc3
    exact wk_s ((show wJ c _ from by assumption))
  · try simp only [wn_le, wn_lt, wn_eq, wn_0, wn_1, wn_m1, wn_9, wn_8, wn_4, wn_2, wn_100] at hc3
    refine wk_i (fun hc4 => ?_) (fun hc4 => ?_)
    · try simp only [wn_le, wn_lt, wn_eq, wn_0, wn_1, wn_m1, wn_9, wn_8, wn_4, wn_2, wn_100] at hc4
      refine wk_e (fun v17 ev17 => ?_)
      try (have hv17 : v17.toInt = r7.toInt + r14.toInt := by rw [ev17]; exact wn_add (by omega) (by omega))
      exact wk_s ((show wJ c _ from by assumption))
    · try simp only [wn_le, wn_lt, wn_eq, wn_0, wn_1, wn_m1, wn_9, wn_8, wn_4, wn_2, wn_100] at hc4
      exact wk_s ((show wJ c _ from by assumption))
theorem tt_M_jump {c : Nat} {a1 : Int32} {a2 : Int32} {σ : wc_S} (hσ : wJ c σ)  : wk (wf_M_jump a1 a2 σ) (fun r => wJ c r.2) := by
  unfold wf_M_jump
  refine wk_b2 (tt_M_isCoil (by assumption) ) (fun r2 σ1 hr1 => ?_)
  obtain ⟨hσ1, hpσ1⟩ := hr1
  try simp only [wn_0, wn_1, wn_m1, wn_9, wn_8, wn_4, wn_2, wn_100] at hpσ1
  refine wk_i (fun hc2 => ?_) (fun hc2 => ?_)
  · try simp only [wn_le, wn_lt, wn_eq, wn_0, wn_1, wn_m1, wn_9, wn_8, wn_4, wn_2, wn_100] at hc2
    unfold wf_M_jump_26
    unfold wf_M_jump_27
    refine wk_b2 (tt_M_goes (by assumption)) (fun r5 σ4 hr3 => ?_)
    obtain ⟨hσ4, hpσ4⟩ := hr3
    try simp only [wn_0, wn_1, wn_m1, wn_9, wn_8, wn_4, wn_2, wn_100] at hpσ4
    refine wk_i (fun hc4 => ?_) (fun hc4 => ?_)
    · try simp only [wn_le, wn_lt, wn_eq, wn_0, wn_1, wn_m1, wn_9, wn_8, wn_4, wn_2, wn_100] at hc4
      exact wk_s ((show wJ c _ from by assumption))
    · try simp only [wn_le, wn_lt, wn_eq, wn_0, wn_1, wn_m1, wn_9, wn_8, wn_4, wn_2, wn_100] at hc4
      refine wk_b2 (tt_M_jumpOf (by assumption) (by first | omega | decide) (by first | omega | decide) (by first | omega | decide) (by first | omega | decide)) (fun r8 σ7 hr5 => ?_)
      have hσ7 : wJ _ σ7 := hr5
      exact wk_s ((show wJ c _ from by assumption))
  · try simp only [wn_le, wn_lt, wn_eq, wn_0, wn_1, wn_m1, wn_9, wn_8, wn_4, wn_2, wn_100] at hc2
    refine wk_b2 (tt_M_isCoil (by assumption) ) (fun r10 σ9 hr6 => ?_)
    obtain ⟨hσ9, hpσ9⟩ := hr6
    try simp only [wn_0, wn_1, wn_m1, wn_9, wn_8, wn_4, wn_2, wn_100] at hpσ9
    refine wk_i (fun hc7 => ?_) (fun hc7 => ?_)
    · try simp only [wn_le, wn_lt, wn_eq, wn_0, wn_1, wn_m1, wn_9, wn_8, wn_4, wn_2, wn_100] at hc7
      unfold wf_M_jump_26
      unfold wf_M_jump_27
      refine wk_b2 (tt_M_goes (by assumption)) (fun r5 σ4 hr8 => ?_)
      obtain ⟨hσ4, hpσ4⟩ := hr8
      try simp only [wn_0, wn_1, wn_m1, wn_9, wn_8, wn_4, wn_2, wn_100] at hpσ4
      refine wk_i (fun hc9 => ?_) (fun hc9 => ?_)
      · try simp only [wn_le, wn_lt, wn_eq, wn_0, wn_1, wn_m1, wn_9, wn_8, wn_4, wn_2, wn_100] at hc9
        exact wk_s ((show wJ c _ from by assumption))
      · try simp only [wn_le, wn_lt, wn_eq, wn_0, wn_1, wn_m1, wn_9, wn_8, wn_4, wn_2, wn_100] at hc9
        refine wk_b2 (tt_M_jumpOf (by assumption) (by first | omega | decide) (by first | omega | decide) (by first | omega | decide) (by first | omega | decide)) (fun r8 σ7 hr10 => ?_)
        have hσ7 : wJ _ σ7 := hr10
        exact wk_s ((show wJ c _ from by assumption))
    · try simp only [wn_le, wn_lt, wn_eq, wn_0, wn_1, wn_m1, wn_9, wn_8, wn_4, wn_2, wn_100] at hc7
      refine wk_i (fun hc11 => ?_) (fun hc11 => ?_)
      · try simp only [wn_le, wn_lt, wn_eq, wn_0, wn_1, wn_m1, wn_9, wn_8, wn_4, wn_2, wn_100] at hc11
        unfold wf_M_jump_26
        unfold wf_M_jump_27
        refine wk_b2 (tt_M_goes (by assumption)) (fun r5 σ4 hr12 => ?_)
        obtain ⟨hσ4, hpσ4⟩ := hr12
        try simp only [wn_0, wn_1, wn_m1, wn_9, wn_8, wn_4, wn_2, wn_100] at hpσ4
        refine wk_i (fun hc13 => ?_) (fun hc13 => ?_)
        · try simp only [wn_le, wn_lt, wn_eq, wn_0, wn_1, wn_m1, wn_9, wn_8, wn_4, wn_2, wn_100] at hc13
          exact wk_s ((show wJ c _ from by assumption))
        · try simp only [wn_le, wn_lt, wn_eq, wn_0, wn_1, wn_m1, wn_9, wn_8, wn_4, wn_2, wn_100] at hc13
          refine wk_b2 (tt_M_jumpOf (by assumption) (by first | omega | decide) (by first | omega | decide) (by first | omega | decide) (by first | omega | decide)) (fun r8 σ7 hr14 => ?_)
          have hσ7 : wJ _ σ7 := hr14
          exact wk_s ((show wJ c _ from by assumption))
      · try simp only [wn_le, wn_lt, wn_eq, wn_0, wn_1, wn_m1, wn_9, wn_8, wn_4, wn_2, wn_100] at hc11
        unfold wf_M_jump_27
        refine wk_b2 (tt_M_goes (by assumption)) (fun r5 σ4 hr15 => ?_)
        obtain ⟨hσ4, hpσ4⟩ := hr15
        try simp only [wn_0, wn_1, wn_m1, wn_9, wn_8, wn_4, wn_2, wn_100] at hpσ4
        refine wk_i (fun hc16 => ?_) (fun hc16 => ?_)
        · try simp only [wn_le, wn_lt, wn_eq, wn_0, wn_1, wn_m1, wn_9, wn_8, wn_4, wn_2, wn_100] at hc16
          exact wk_s ((show wJ c _ from by assumption))
        · try simp only [wn_le, wn_lt, wn_eq, wn_0, wn_1, wn_m1, wn_9, wn_8, wn_4, wn_2, wn_100] at hc16
          refine wk_b2 (tt_M_jumpOf (by assumption) (by first | omega | decide) (by first | omega | decide) (by first | omega | decide) (by first | omega | decide)) (fun r8 σ7 hr17 => ?_)
          have hσ7 : wJ _ σ7 := hr17
          exact wk_s ((show wJ c _ from by assumption))
theorem tt_M_proved {c : Nat}  {σ : wc_S} (hσ : wJ c σ)  : wk (wf_M_proved σ) (fun r => wJ c r.2) := by
  unfold wf_M_proved
  refine wk_v (fun v1 => ?_)
  refine wk_b2 (tt_M_goes (by assumption)) (fun r3 σ2 hr1 => ?_)
  obtain ⟨hσ2, hpσ2⟩ := hr1
  try simp only [wn_0, wn_1, wn_m1, wn_9, wn_8, wn_4, wn_2, wn_100] at hpσ2
  refine wk_i (fun hc2 => ?_) (fun hc2 => ?_)
  · try simp only [wn_le, wn_lt, wn_eq, wn_0, wn_1, wn_m1, wn_9, wn_8, wn_4, wn_2, wn_100] at hc2
    exact wk_s ((show wJ c _ from by assumption))
  · try simp only [wn_le, wn_lt, wn_eq, wn_0, wn_1, wn_m1, wn_9, wn_8, wn_4, wn_2, wn_100] at hc2
    refine wk_v (fun v5 => ?_)
    refine wk_i (fun hc3 => ?_) (fun hc3 => ?_)
    · try simp only [wn_le, wn_lt, wn_eq, wn_0, wn_1, wn_m1, wn_9, wn_8, wn_4, wn_2, wn_100] at hc3
      exact wk_s ((show wJ c _ from by assumption))
    · try simp only [wn_le, wn_lt, wn_eq, wn_0, wn_1, wn_m1, wn_9, wn_8, wn_4, wn_2, wn_100] at hc3
      exact wk_s ((show wJ c _ from by assumption))
theorem tt_M_bound_25 {c : Nat} {k11 : Int32 → Int32 → Int32 → wc_S → Option (Int32 × wc_S)}  : ∀ (n : Nat) (x1 : Int32) (x2 : Int32) (x3 : Int32) (x4 : Int32) (x5 : Int32) (σ : wc_S), wJ c σ → 0 ≤ x3.toInt → x3.toInt ≤ 8 → 0 ≤ x5.toInt → x5.toInt ≤ 9 → 9 < x5.toInt + n → (∀ u v w σ, wJ c σ → w.toInt = x3.toInt + 1 → wk (k11 u v w σ) (fun r => wJ c r.2)) → wk (wf_M_bound_25 k11 n x1 x2 x3 x4 x5 σ) (fun r => wJ c r.2) := by
  intro n
  induction n with
  | zero => intro x1 x2 x3 x4 x5 σ hσ c0 c1 c2 c3 c4 hk11; omega
  | succ n ih =>
    intro x1 x2 x3 x4 x5 σ hσ c0 c1 c2 c3 c4 hk11
    show wk (wf_M_bound_25_b k11 (wf_M_bound_25 k11 n) x1 x2 x3 x4 x5 σ) _
    unfold wf_M_bound_25_b
    refine wk_rm (by assumption) (fun v5 hv5 => ?_)
    refine wk_i (fun hc1 => ?_) (fun hc1 => ?_)
    · try simp only [wn_le, wn_lt, wn_eq, wn_0, wn_1, wn_m1, wn_9, wn_8, wn_4, wn_2, wn_100] at hc1
      refine wk_i (fun hc2 => ?_) (fun hc2 => ?_)
      · try simp only [wn_le, wn_lt, wn_eq, wn_0, wn_1, wn_m1, wn_9, wn_8, wn_4, wn_2, wn_100] at hc2
        unfold wf_M_bound_87
        refine wk_e (fun v8 ev8 => ?_)
        try (have hv8 : v8.toInt = x1.toInt + x4.toInt := by rw [ev8]; exact wn_add (by omega) (by omega))
        refine wk_i (fun hc3 => ?_) (fun hc3 => ?_)
        · try simp only [wn_le, wn_lt, wn_eq, wn_0, wn_1, wn_m1, wn_9, wn_8, wn_4, wn_2, wn_100] at hc3
          unfold wf_M_bound_101
          refine wk_e (fun v10 ev10 => ?_)
          try (have hv10 : v10.toInt = x3.toInt + 1 := by rw [ev10]; exact wn_up (by omega) (by omega))
          exact hk11 _ _ _ _ (by assumption) (by omega)
        · try simp only [wn_le, wn_lt, wn_eq, wn_0, wn_1, wn_m1, wn_9, wn_8, wn_4, wn_2, wn_100] at hc3
          unfold wf_M_bound_101
          refine wk_e (fun v10 ev10 => ?_)
          try (have hv10 : v10.toInt = x3.toInt + 1 := by rw [ev10]; exact wn_up (by omega) (by omega))
          exact hk11 _ _ _ _ (by assumption) (by omega)
      · try simp only [wn_le, wn_lt, wn_eq, wn_0, wn_1, wn_m1, wn_9, wn_8, wn_4, wn_2, wn_100] at hc2
        unfold wf_M_bound_87
        refine wk_v (fun v8 => ?_)
        refine wk_i (fun hc4 => ?_) (fun hc4 => ?_)
        · try simp only [wn_le, wn_lt, wn_eq, wn_0, wn_1, wn_m1, wn_9, wn_8, wn_4, wn_2, wn_100] at hc4
          unfold wf_M_bound_101
          refine wk_e (fun v10 ev10 => ?_)
          try (have hv10 : v10.toInt = x3.toInt + 1 := by rw [ev10]; exact wn_up (by omega) (by omega))
          exact hk11 _ _ _ _ (by assumption) (by omega)
        · try simp only [wn_le, wn_lt, wn_eq, wn_0, wn_1, wn_m1, wn_9, wn_8, wn_4, wn_2, wn_100] at hc4
          unfold wf_M_bound_101
          refine wk_e (fun v10 ev10 => ?_)
          try (have hv10 : v10.toInt = x3.toInt + 1 := by rw [ev10]; exact wn_up (by omega) (by omega))
          exact hk11 _ _ _ _ (by assumption) (by omega)
    · try simp only [wn_le, wn_lt, wn_eq, wn_0, wn_1, wn_m1, wn_9, wn_8, wn_4, wn_2, wn_100] at hc1
      refine wk_i (fun hc5 => ?_) (fun hc5 => ?_)
      · try simp only [wn_le, wn_lt, wn_eq, wn_0, wn_1, wn_m1, wn_9, wn_8, wn_4, wn_2, wn_100] at hc5
        unfold wf_M_bound_73
        refine wk_e (fun v15 ev15 => ?_)
        try (have hv15 : v15.toInt = x5.toInt + 1 := by rw [ev15]; exact wn_up (by omega) (by omega))
        exact ih _ _ _ _ _ _ (by assumption) (by omega) (by omega) (by omega) (by omega) (by omega) (by assumption)
      · try simp only [wn_le, wn_lt, wn_eq, wn_0, wn_1, wn_m1, wn_9, wn_8, wn_4, wn_2, wn_100] at hc5
        refine wk_b2 (tt_M_jumpOf (by assumption) (by first | omega | decide) (by first | omega | decide) (by first | omega | decide) (by first | omega | decide)) (fun r13 σ12 hr6 => ?_)
        have hσ12 : wJ _ σ12 := hr6
        refine wk_i (fun hc7 => ?_) (fun hc7 => ?_)
        · try simp only [wn_le, wn_lt, wn_eq, wn_0, wn_1, wn_m1, wn_9, wn_8, wn_4, wn_2, wn_100] at hc7
          unfold wf_M_bound_73
          refine wk_e (fun v15 ev15 => ?_)
          try (have hv15 : v15.toInt = x5.toInt + 1 := by rw [ev15]; exact wn_up (by omega) (by omega))
          exact ih _ _ _ _ _ _ (by assumption) (by omega) (by omega) (by omega) (by omega) (by omega) (by assumption)
        · try simp only [wn_le, wn_lt, wn_eq, wn_0, wn_1, wn_m1, wn_9, wn_8, wn_4, wn_2, wn_100] at hc7
          refine wk_i (fun hc8 => ?_) (fun hc8 => ?_)
          · try simp only [wn_le, wn_lt, wn_eq, wn_0, wn_1, wn_m1, wn_9, wn_8, wn_4, wn_2, wn_100] at hc8
            unfold wf_M_bound_69
            unfold wf_M_bound_73
            refine wk_e (fun v15 ev15 => ?_)
            try (have hv15 : v15.toInt = x5.toInt + 1 := by rw [ev15]; exact wn_up (by omega) (by omega))
            exact ih _ _ _ _ _ _ (by assumption) (by omega) (by omega) (by omega) (by omega) (by omega) (by assumption)
          · try simp only [wn_le, wn_lt, wn_eq, wn_0, wn_1, wn_m1, wn_9, wn_8, wn_4, wn_2, wn_100] at hc8
            refine wk_i (fun hc9 => ?_) (fun hc9 => ?_)
            · try simp only [wn_le, wn_lt, wn_eq, wn_0, wn_1, wn_m1, wn_9, wn_8, wn_4, wn_2, wn_100] at hc9
              unfold wf_M_bound_73
              refine wk_e (fun v15 ev15 => ?_)
              try (have hv15 : v15.toInt = x5.toInt + 1 := by rw [ev15]; exact wn_up (by omega) (by omega))
              exact ih _ _ _ _ _ _ (by assumption) (by omega) (by omega) (by omega) (by omega) (by omega) (by assumption)
            · try simp only [wn_le, wn_lt, wn_eq, wn_0, wn_1, wn_m1, wn_9, wn_8, wn_4, wn_2, wn_100] at hc9
              unfold wf_M_bound_69
              unfold wf_M_bound_73
              refine wk_e (fun v15 ev15 => ?_)
              try (have hv15 : v15.toInt = x5.toInt + 1 := by rw [ev15]; exact wn_up (by omega) (by omega))
              exact ih _ _ _ _ _ _ (by assumption) (by omega) (by omega) (by omega) (by omega) (by omega) (by assumption)
theorem tt_M_bound_11 {c : Nat}   : ∀ (n : Nat) (x1 : Int32) (x2 : Int32) (x3 : Int32) (σ : wc_S), wJ c σ → 0 ≤ x3.toInt → x3.toInt ≤ 9 → 9 < x3.toInt + n → wk (wf_M_bound_11  n x1 x2 x3 σ) (fun r => wJ c r.2) := by
  intro n
  induction n with
  | zero => intro x1 x2 x3 σ hσ c0 c1 c2; omega
  | succ n ih =>
    intro x1 x2 x3 σ hσ c0 c1 c2
    show wk (wf_M_bound_11_b (wf_M_bound_11  n) x1 x2 x3 σ) _
    unfold wf_M_bound_11_b
    refine wk_rm (by assumption) (fun v2 hv2 => ?_)
    refine wk_i (fun hc1 => ?_) (fun hc1 => ?_)
    · try simp only [wn_le, wn_lt, wn_eq, wn_0, wn_1, wn_m1, wn_9, wn_8, wn_4, wn_2, wn_100] at hc1
      refine wk_v (fun v4 => ?_)
      exact wk_s ((show wJ c _ from by assumption))
    · try simp only [wn_le, wn_lt, wn_eq, wn_0, wn_1, wn_m1, wn_9, wn_8, wn_4, wn_2, wn_100] at hc1
      exact tt_M_bound_25  16 _ _ _ _ _ _ (by assumption) (by first | omega | decide) (by first | omega | decide) (by first | omega | decide) (by first | omega | decide) (by first | omega | decide) (fun u v w σ hσ e => ih _ _ _ _ hσ (by omega) (by omega) (by omega))
theorem tt_M_bound {c : Nat}  {σ : wc_S} (hσ : wJ c σ)  : wk (wf_M_bound σ) (fun r => wJ c r.2) := by
  unfold wf_M_bound
  refine wk_w (u_71 (by assumption) (by decide) (by decide)) (fun σ1 hσ1 => ?_)
  exact tt_M_bound_11  16 _ _ _ _ (by assumption) (by first | omega | decide) (by first | omega | decide) (by first | omega | decide) 
theorem tt_M_thrown {c : Nat}  {σ : wc_S} (hσ : wJ c σ)  : wk (wf_M_thrown σ) (fun r => wJ c r.2) := by
  unfold wf_M_thrown
  refine wk_v (fun v1 => ?_)
  exact wk_s ((show wJ c _ from by assumption))
