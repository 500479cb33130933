theorem e_goes26 (s : Int32) (σ : wc_S) : wf_M_goes_26 s σ = if s = 0 then some (1, wc_u σ 71 0 s) else some (0, wc_u σ 71 0 s) := by
  show (if (wc_u σ 71 0 s) 71 0 = 0 then some ((1 : Int32), wc_u σ 71 0 s) else some (0, wc_u σ 71 0 s)) = _
  rw [wu_same]
theorem tt_M_goes {c : Nat} {a1 a2 a3 : Int32} {σ : wc_S} (hσ : wJ c σ) : wk (wf_M_goes a1 a2 a3 σ) (fun r => wJ c r.2 ∧ (r.1.toInt ≠ 0 → a1.toInt ≠ 0 ∧ a2.toInt ≠ 0 ∧ a3.toInt ≠ 0)) := by
  unfold wf_M_goes
  refine wk_i (fun h => ?_) (fun h => wk_i (fun h2 => ?_) (fun h2 => wk_i (fun h3 => ?_) (fun h3 => ?_)))
  · rw [e_goes26, if_neg (by decide)]; exact wk_s ⟨u_71 hσ (by decide) (by decide), fun hne => absurd rfl hne⟩
  · rw [e_goes26, if_neg (by decide)]; exact wk_s ⟨u_71 hσ (by decide) (by decide), fun hne => absurd rfl hne⟩
  · rw [e_goes26, if_neg (by decide)]; exact wk_s ⟨u_71 hσ (by decide) (by decide), fun hne => absurd rfl hne⟩
  · rw [e_goes26, if_pos rfl]; exact wk_s ⟨u_71 hσ (by decide) (by decide), fun _ => ⟨fun e => h (wn_eq.2 e), fun e => h2 (wn_eq.2 e), fun e => h3 (wn_eq.2 e)⟩⟩
theorem tt_M_in {c : Nat} {a0 : Int32} {a1 : Int32} {a2 : Int32} {σ : wc_S} (hσ : wJ c σ)  : wk (wf_M_in a0 a1 a2 σ) (fun r => wJ c r.2 ∧ ((0 ≤ r.1.toInt ∧ r.1.toInt ≤ 1) ∧ (r.1.toInt ≠ 0 → a1.toInt ≤ a0.toInt ∧ a0.toInt ≤ a2.toInt))) := by
  unfold wf_M_in
  refine wk_i (fun hc1 => ?_) (fun hc1 => ?_)
  · try simp only [wn_le, wn_lt, wn_eq, wn_0, wn_1, wn_m1, wn_9, wn_8, wn_4, wn_2, wn_100] at hc1
    exact wk_s (⟨show wJ c _ from by assumption, by first | exact (by decide : 0 ≤ (0 : Int32).toInt ∧ (0 : Int32).toInt ≤ 1) | exact (by decide : 0 ≤ (1 : Int32).toInt ∧ (1 : Int32).toInt ≤ 1), fun hne => by first | omega | exact absurd rfl hne⟩)
  · try simp only [wn_le, wn_lt, wn_eq, wn_0, wn_1, wn_m1, wn_9, wn_8, wn_4, wn_2, wn_100] at hc1
    refine wk_i (fun hc2 => ?_) (fun hc2 => ?_)
    · try simp only [wn_le, wn_lt, wn_eq, wn_0, wn_1, wn_m1, wn_9, wn_8, wn_4, wn_2, wn_100] at hc2
      exact wk_s (⟨show wJ c _ from by assumption, by first | exact (by decide : 0 ≤ (0 : Int32).toInt ∧ (0 : Int32).toInt ≤ 1) | exact (by decide : 0 ≤ (1 : Int32).toInt ∧ (1 : Int32).toInt ≤ 1), fun hne => by first | omega | exact absurd rfl hne⟩)
    · try simp only [wn_le, wn_lt, wn_eq, wn_0, wn_1, wn_m1, wn_9, wn_8, wn_4, wn_2, wn_100] at hc2
      exact wk_s (⟨show wJ c _ from by assumption, by first | exact (by decide : 0 ≤ (0 : Int32).toInt ∧ (0 : Int32).toInt ≤ 1) | exact (by decide : 0 ≤ (1 : Int32).toInt ∧ (1 : Int32).toInt ≤ 1), fun hne => by first | omega | exact absurd rfl hne⟩)
theorem tt_M_isCoil {c : Nat} {a1 : Int32} {σ : wc_S} (hσ : wJ c σ)  : wk (wf_M_isCoil a1 σ) (fun r => wJ c r.2 ∧ (r.1.toInt ≠ 0 → 0 ≤ a1.toInt ∧ a1.toInt ≤ 8)) := by
  unfold wf_M_isCoil
  refine wk_rm (by assumption) (fun v1 hv1 => ?_)
  refine wk_e (fun v2 ev2 => ?_)
  try (have hv2 : v2.toInt = v1.toInt - 1 := by rw [ev2]; exact wn_dn (by omega) (by omega))
  refine wk_b2 (tt_M_in (by assumption) ) (fun r4 σ3 hr1 => ?_)
  obtain ⟨hσ3, hpσ3⟩ := hr1
  try simp only [wn_0, wn_1, wn_m1, wn_9, wn_8, wn_4, wn_2, wn_100] at hpσ3
  refine wk_g (wn_z (by first | assumption | omega)) ?_
  exact wk_s (⟨show wJ c _ from by assumption, fun hne => by have hne2 : r4.toInt ≠ 0 := hne; omega⟩)
theorem tt_M_gone {c : Nat}  {σ : wc_S} (hσ : wJ c σ)  : wk (wf_M_gone σ) (wJ c) := by
  unfold wf_M_gone
  refine wk_w (u_71 (by assumption) (by decide) (by decide)) (fun σ1 hσ1 => ?_)
  refine wk_w (u_71 (by assumption) (by decide) (by decide)) (fun σ2 hσ2 => ?_)
  exact wk_s ((show wJ c _ from by assumption))
theorem tt_M_coil_49 {x1 : Int32} {x2 : Int32} {x3 : Int32} {x4 : Int32} {s1 : Int32} {σ : wc_S} (hσ : wJ 0 σ)  : wk (wf_M_coil_49 x1 x2 x3 x4 s1 σ) (fun r => wJ 0 r.2) := by
  unfold wf_M_coil_49
  refine wk_rm (by assumption) (fun v4 hv4 => ?_)
  refine wk_i (fun hc1 => ?_) (fun hc1 => ?_)
  · try simp only [wn_le, wn_lt, wn_eq, wn_0, wn_1, wn_m1, wn_9, wn_8, wn_4, wn_2, wn_100] at hc1
    unfold wf_M_coil_63
    refine wk_b2 (tt_M_goes (by first | exact wJ_m (by assumption) (by omega) | assumption)) (fun r7 σ6 hr2 => ?_)
    obtain ⟨hσ6, hpσ6⟩ := hr2
    try simp only [wn_0, wn_1, wn_m1, wn_9, wn_8, wn_4, wn_2, wn_100] at hpσ6
    refine wk_i (fun hc3 => ?_) (fun hc3 => ?_)
    · try simp only [wn_le, wn_lt, wn_eq, wn_0, wn_1, wn_m1, wn_9, wn_8, wn_4, wn_2, wn_100] at hc3
      exact wk_s ((show wJ 0 _ from wJ_0 (by assumption)))
    · try simp only [wn_le, wn_lt, wn_eq, wn_0, wn_1, wn_m1, wn_9, wn_8, wn_4, wn_2, wn_100] at hc3
      refine wk_rm (by assumption) (fun v9 hv9 => ?_)
      refine wk_g (wn_in (by first | omega | decide) (by first | omega | decide)) ?_
      refine wk_w (u_o (by assumption) (by omega)) (fun σ11 hσ11 => ?_)
      refine wk_rm (by assumption) (fun v12 hv12 => ?_)
      refine wk_g (wn_in (by first | omega | decide) (by first | omega | decide)) ?_
      refine wk_w (u_o (by assumption) (by omega)) (fun σ14 hσ14 => ?_)
      refine wk_rm (by assumption) (fun v15 hv15 => ?_)
      refine wk_g (wn_in (by first | omega | decide) (by first | omega | decide)) ?_
      refine wk_w (u_o (by assumption) (by omega)) (fun σ17 hσ17 => ?_)
      refine wk_rm (by assumption) (fun v18 hv18 => ?_)
      refine wk_g (wn_in (by first | omega | decide) (by first | omega | decide)) ?_
      refine wk_w (u_o (by assumption) (by omega)) (fun σ20 hσ20 => ?_)
      refine wk_rm (by assumption) (fun v21 hv21 => ?_)
      refine wk_g (wn_in (by first | omega | decide) (by first | omega | decide)) ?_
      refine wk_w (u_o (by assumption) (by omega)) (fun σ23 hσ23 => ?_)
      refine wk_rm (by assumption) (fun v24 hv24 => ?_)
      refine wk_g (wn_in (by first | omega | decide) (by first | omega | decide)) ?_
      refine wk_w (u_o (by assumption) (by omega)) (fun σ26 hσ26 => ?_)
      refine wk_rm (by assumption) (fun v27 hv27 => ?_)
      refine wk_e (fun v28 ev28 => ?_)
      try (have hv28 : v28.toInt = v27.toInt + 1 := by rw [ev28]; exact wn_up (by omega) (by omega))
      refine wk_w (u_m (wJ_0 (by assumption)) (by first | omega | decide | (simp only [wn_0]; omega))) (fun σ29 hσ29 => ?_)
      refine wk_b1 (tt_M_gone (by assumption) ) (fun σ30 hr4 => ?_)
      have hσ30 : wJ _ σ30 := hr4
      refine wk_rm (by assumption) (fun v31 hv31 => ?_)
      refine wk_e (fun v32 ev32 => ?_)
      try (have hv32 : v32.toInt = v31.toInt - 1 := by rw [ev32]; exact wn_dn (by omega) (by omega))
      exact wk_s ((show wJ 0 _ from wJ_0 (by assumption)))
  · try simp only [wn_le, wn_lt, wn_eq, wn_0, wn_1, wn_m1, wn_9, wn_8, wn_4, wn_2, wn_100] at hc1
    unfold wf_M_coil_63
    refine wk_b2 (tt_M_goes (by first | exact wJ_m (by assumption) (by omega) | assumption)) (fun r7 σ6 hr5 => ?_)
    obtain ⟨hσ6, hpσ6⟩ := hr5
    try simp only [wn_0, wn_1, wn_m1, wn_9, wn_8, wn_4, wn_2, wn_100] at hpσ6
    refine wk_i (fun hc6 => ?_) (fun hc6 => ?_)
    · try simp only [wn_le, wn_lt, wn_eq, wn_0, wn_1, wn_m1, wn_9, wn_8, wn_4, wn_2, wn_100] at hc6
      exact wk_s ((show wJ 0 _ from wJ_0 (by assumption)))
    · try simp only [wn_le, wn_lt, wn_eq, wn_0, wn_1, wn_m1, wn_9, wn_8, wn_4, wn_2, wn_100] at hc6
      refine wk_rm (by assumption) (fun v9 hv9 => ?_)
      refine wk_g (wn_in (by first | omega | decide) (by first | omega | decide)) ?_
      refine wk_w (u_o (by assumption) (by omega)) (fun σ11 hσ11 => ?_)
      refine wk_rm (by assumption) (fun v12 hv12 => ?_)
      refine wk_g (wn_in (by first | omega | decide) (by first | omega | decide)) ?_
      refine wk_w (u_o (by assumption) (by omega)) (fun σ14 hσ14 => ?_)
      refine wk_rm (by assumption) (fun v15 hv15 => ?_)
      refine wk_g (wn_in (by first | omega | decide) (by first | omega | decide)) ?_
      refine wk_w (u_o (by assumption) (by omega)) (fun σ17 hσ17 => ?_)
      refine wk_rm (by assumption) (fun v18 hv18 => ?_)
      refine wk_g (wn_in (by first | omega | decide) (by first | omega | decide)) ?_
      refine wk_w (u_o (by assumption) (by omega)) (fun σ20 hσ20 => ?_)
      refine wk_rm (by assumption) (fun v21 hv21 => ?_)
      refine wk_g (wn_in (by first | omega | decide) (by first | omega | decide)) ?_
      refine wk_w (u_o (by assumption) (by omega)) (fun σ23 hσ23 => ?_)
      refine wk_rm (by assumption) (fun v24 hv24 => ?_)
      refine wk_g (wn_in (by first | omega | decide) (by first | omega | decide)) ?_
      refine wk_w (u_o (by assumption) (by omega)) (fun σ26 hσ26 => ?_)
      refine wk_rm (by assumption) (fun v27 hv27 => ?_)
      refine wk_e (fun v28 ev28 => ?_)
      try (have hv28 : v28.toInt = v27.toInt + 1 := by rw [ev28]; exact wn_up (by omega) (by omega))
      refine wk_w (u_m (wJ_0 (by assumption)) (by first | omega | decide | (simp only [wn_0]; omega))) (fun σ29 hσ29 => ?_)
      refine wk_b1 (tt_M_gone (by assumption) ) (fun σ30 hr7 => ?_)
      have hσ30 : wJ _ σ30 := hr7
      refine wk_rm (by assumption) (fun v31 hv31 => ?_)
      refine wk_e (fun v32 ev32 => ?_)
      try (have hv32 : v32.toInt = v31.toInt - 1 := by rw [ev32]; exact wn_dn (by omega) (by omega))
      exact wk_s ((show wJ 0 _ from wJ_0 (by assumption)))
theorem tt_M_coil {a1 : Int32} {a2 : Int32} {a3 : Int32} {a4 : Int32} {σ : wc_S} (hσ : wJ 0 σ)  : wk (wf_M_coil a1 a2 a3 a4 σ) (fun r => wJ 0 r.2) := by
  unfold wf_M_coil
  refine wk_b2 (tt_M_in (by assumption) ) (fun r2 σ1 hr1 => ?_)
  obtain ⟨hσ1, hpσ1⟩ := hr1
  try simp only [wn_0, wn_1, wn_m1, wn_9, wn_8, wn_4, wn_2, wn_100] at hpσ1
  refine wk_i (fun hc2 => ?_) (fun hc2 => ?_)
  · try simp only [wn_le, wn_lt, wn_eq, wn_0, wn_1, wn_m1, wn_9, wn_8, wn_4, wn_2, wn_100] at hc2
    unfold wf_M_coil_48
    exact tt_M_coil_49 (by assumption) 
  · try simp only [wn_le, wn_lt, wn_eq, wn_0, wn_1, wn_m1, wn_9, wn_8, wn_4, wn_2, wn_100] at hc2
    refine wk_b2 (tt_M_in (by assumption) ) (fun r34 σ33 hr3 => ?_)
    obtain ⟨hσ33, hpσ33⟩ := hr3
    try simp only [wn_0, wn_1, wn_m1, wn_9, wn_8, wn_4, wn_2, wn_100] at hpσ33
    refine wk_i (fun hc4 => ?_) (fun hc4 => ?_)
    · try simp only [wn_le, wn_lt, wn_eq, wn_0, wn_1, wn_m1, wn_9, wn_8, wn_4, wn_2, wn_100] at hc4
      unfold wf_M_coil_48
      exact tt_M_coil_49 (by assumption) 
    · try simp only [wn_le, wn_lt, wn_eq, wn_0, wn_1, wn_m1, wn_9, wn_8, wn_4, wn_2, wn_100] at hc4
      refine wk_b2 (tt_M_in (by assumption) ) (fun r37 σ36 hr5 => ?_)
      obtain ⟨hσ36, hpσ36⟩ := hr5
      try simp only [wn_0, wn_1, wn_m1, wn_9, wn_8, wn_4, wn_2, wn_100] at hpσ36
      refine wk_i (fun hc6 => ?_) (fun hc6 => ?_)
      · try simp only [wn_le, wn_lt, wn_eq, wn_0, wn_1, wn_m1, wn_9, wn_8, wn_4, wn_2, wn_100] at hc6
        unfold wf_M_coil_48
        exact tt_M_coil_49 (by assumption) 
      · try simp only [wn_le, wn_lt, wn_eq, wn_0, wn_1, wn_m1, wn_9, wn_8, wn_4, wn_2, wn_100] at hc6
        refine wk_b2 (tt_M_in (by assumption) ) (fun r40 σ39 hr7 => ?_)
        obtain ⟨hσ39, hpσ39⟩ := hr7
        try simp only [wn_0, wn_1, wn_m1, wn_9, wn_8, wn_4, wn_2, wn_100] at hpσ39
        refine wk_i (fun hc8 => ?_) (fun hc8 => ?_)
        · try simp only [wn_le, wn_lt, wn_eq, wn_0, wn_1, wn_m1, wn_9, wn_8, wn_4, wn_2, wn_100] at hc8
          unfold wf_M_coil_48
          exact tt_M_coil_49 (by assumption) 
        · try simp only [wn_le, wn_lt, wn_eq, wn_0, wn_1, wn_m1, wn_9, wn_8, wn_4, wn_2, wn_100] at hc8
          exact tt_M_coil_49 (by assumption) 
theorem tt_M_group_39 {x1 : Int32} {x2 : Int32} {x3 : Int32} {s1 : Int32} {σ : wc_S} (hσ : wJ 0 σ)  : wk (wf_M_group_39 x1 x2 x3 s1 σ) (fun r => wJ 0 r.2) := by
  unfold wf_M_group_39
  refine wk_rk (by assumption) (fun v4 hv4 => ?_)
  refine wk_i (fun hc1 => ?_) (fun hc1 => ?_)
  · try simp only [wn_le, wn_lt, wn_eq, wn_0, wn_1, wn_m1, wn_9, wn_8, wn_4, wn_2, wn_100] at hc1
    unfold wf_M_group_52
    refine wk_b2 (tt_M_goes (by first | exact wJ_k (by assumption) (by omega) | assumption)) (fun r7 σ6 hr2 => ?_)
    obtain ⟨hσ6, hpσ6⟩ := hr2
    try simp only [wn_0, wn_1, wn_m1, wn_9, wn_8, wn_4, wn_2, wn_100] at hpσ6
    refine wk_i (fun hc3 => ?_) (fun hc3 => ?_)
    · try simp only [wn_le, wn_lt, wn_eq, wn_0, wn_1, wn_m1, wn_9, wn_8, wn_4, wn_2, wn_100] at hc3
      exact wk_s ((show wJ 0 _ from wJ_0 (by assumption)))
    · try simp only [wn_le, wn_lt, wn_eq, wn_0, wn_1, wn_m1, wn_9, wn_8, wn_4, wn_2, wn_100] at hc3
      refine wk_rk (by assumption) (fun v9 hv9 => ?_)
      refine wk_g (wn_in (by first | omega | decide) (by first | omega | decide)) ?_
      refine wk_w (u_o (by assumption) (by omega)) (fun σ11 hσ11 => ?_)
      refine wk_rk (by assumption) (fun v12 hv12 => ?_)
      refine wk_g (wn_in (by first | omega | decide) (by first | omega | decide)) ?_
      refine wk_w (u_o (by assumption) (by omega)) (fun σ14 hσ14 => ?_)
      refine wk_rk (by assumption) (fun v15 hv15 => ?_)
      refine wk_g (wn_in (by first | omega | decide) (by first | omega | decide)) ?_
      refine wk_w (u_o (by assumption) (by omega)) (fun σ17 hσ17 => ?_)
      refine wk_rk (by assumption) (fun v18 hv18 => ?_)
      refine wk_e (fun v19 ev19 => ?_)
      try (have hv19 : v19.toInt = v18.toInt + 1 := by rw [ev19]; exact wn_up (by omega) (by omega))
      refine wk_w (u_k (wJ_0 (by assumption)) (by first | omega | decide | (simp only [wn_0]; omega))) (fun σ20 hσ20 => ?_)
      refine wk_b1 (tt_M_gone (by assumption) ) (fun σ21 hr4 => ?_)
      have hσ21 : wJ _ σ21 := hr4
      refine wk_rk (by assumption) (fun v22 hv22 => ?_)
      exact wk_s ((show wJ 0 _ from wJ_0 (by assumption)))
  · try simp only [wn_le, wn_lt, wn_eq, wn_0, wn_1, wn_m1, wn_9, wn_8, wn_4, wn_2, wn_100] at hc1
    unfold wf_M_group_52
    refine wk_b2 (tt_M_goes (by first | exact wJ_k (by assumption) (by omega) | assumption)) (fun r7 σ6 hr5 => ?_)
    obtain ⟨hσ6, hpσ6⟩ := hr5
    try simp only [wn_0, wn_1, wn_m1, wn_9, wn_8, wn_4, wn_2, wn_100] at hpσ6
    refine wk_i (fun hc6 => ?_) (fun hc6 => ?_)
    · try simp only [wn_le, wn_lt, wn_eq, wn_0, wn_1, wn_m1, wn_9, wn_8, wn_4, wn_2, wn_100] at hc6
      exact wk_s ((show wJ 0 _ from wJ_0 (by assumption)))
    · try simp only [wn_le, wn_lt, wn_eq, wn_0, wn_1, wn_m1, wn_9, wn_8, wn_4, wn_2, wn_100] at hc6
      refine wk_rk (by assumption) (fun v9 hv9 => ?_)
      refine wk_g (wn_in (by first | omega | decide) (by first | omega | decide)) ?_
      refine wk_w (u_o (by assumption) (by omega)) (fun σ11 hσ11 => ?_)
      refine wk_rk (by assumption) (fun v12 hv12 => ?_)
      refine wk_g (wn_in (by first | omega | decide) (by first | omega | decide)) ?_
      refine wk_w (u_o (by assumption) (by omega)) (fun σ14 hσ14 => ?_)
      refine wk_rk (by assumption) (fun v15 hv15 => ?_)
      refine wk_g (wn_in (by first | omega | decide) (by first | omega | decide)) ?_
      refine wk_w (u_o (by assumption) (by omega)) (fun σ17 hσ17 => ?_)
      refine wk_rk (by assumption) (fun v18 hv18 => ?_)
      refine wk_e (fun v19 ev19 => ?_)
      try (have hv19 : v19.toInt = v18.toInt + 1 := by rw [ev19]; exact wn_up (by omega) (by omega))
      refine wk_w (u_k (wJ_0 (by assumption)) (by first | omega | decide | (simp only [wn_0]; omega))) (fun σ20 hσ20 => ?_)
      refine wk_b1 (tt_M_gone (by assumption) ) (fun σ21 hr7 => ?_)
      have hσ21 : wJ _ σ21 := hr7
      refine wk_rk (by assumption) (fun v22 hv22 => ?_)
      exact wk_s ((show wJ 0 _ from wJ_0 (by assumption)))
theorem tt_M_group {a1 : Int32} {a2 : Int32} {a3 : Int32} {σ : wc_S} (hσ : wJ 0 σ)  : wk (wf_M_group a1 a2 a3 σ) (fun r => wJ 0 r.2) := by
  unfold wf_M_group
  refine wk_b2 (tt_M_in (by assumption) ) (fun r2 σ1 hr1 => ?_)
  obtain ⟨hσ1, hpσ1⟩ := hr1
  try simp only [wn_0, wn_1, wn_m1, wn_9, wn_8, wn_4, wn_2, wn_100] at hpσ1
  refine wk_i (fun hc2 => ?_) (fun hc2 => ?_)
  · try simp only [wn_le, wn_lt, wn_eq, wn_0, wn_1, wn_m1, wn_9, wn_8, wn_4, wn_2, wn_100] at hc2
    unfold wf_M_group_38
    exact tt_M_group_39 (by assumption) 
  · try simp only [wn_le, wn_lt, wn_eq, wn_0, wn_1, wn_m1, wn_9, wn_8, wn_4, wn_2, wn_100] at hc2
    refine wk_b2 (tt_M_in (by assumption) ) (fun r24 σ23 hr3 => ?_)
    obtain ⟨hσ23, hpσ23⟩ := hr3
    try simp only [wn_0, wn_1, wn_m1, wn_9, wn_8, wn_4, wn_2, wn_100] at hpσ23
    refine wk_i (fun hc4 => ?_) (fun hc4 => ?_)
    · try simp only [wn_le, wn_lt, wn_eq, wn_0, wn_1, wn_m1, wn_9, wn_8, wn_4, wn_2, wn_100] at hc4
      unfold wf_M_group_38
      exact tt_M_group_39 (by assumption) 
    · try simp only [wn_le, wn_lt, wn_eq, wn_0, wn_1, wn_m1, wn_9, wn_8, wn_4, wn_2, wn_100] at hc4
      refine wk_b2 (tt_M_in (by assumption) ) (fun r27 σ26 hr5 => ?_)
      obtain ⟨hσ26, hpσ26⟩ := hr5
      try simp only [wn_0, wn_1, wn_m1, wn_9, wn_8, wn_4, wn_2, wn_100] at hpσ26
      refine wk_i (fun hc6 => ?_) (fun hc6 => ?_)
      · try simp only [wn_le, wn_lt, wn_eq, wn_0, wn_1, wn_m1, wn_9, wn_8, wn_4, wn_2, wn_100] at hc6
        unfold wf_M_group_38
        exact tt_M_group_39 (by assumption) 
      · try simp only [wn_le, wn_lt, wn_eq, wn_0, wn_1, wn_m1, wn_9, wn_8, wn_4, wn_2, wn_100] at hc6
        exact tt_M_group_39 (by assumption) 
theorem tt_M_urgent {a1 : Int32} {a2 : Int32} {σ : wc_S} (hσ : wJ 0 σ)  : wk (wf_M_urgent a1 a2 σ) (wJ 0) := by
  unfold wf_M_urgent
  refine wk_b2 (tt_M_isCoil (by assumption) ) (fun r2 σ1 hr1 => ?_)
  obtain ⟨hσ1, hpσ1⟩ := hr1
  try simp only [wn_0, wn_1, wn_m1, wn_9, wn_8, wn_4, wn_2, wn_100] at hpσ1
  refine wk_b2 (tt_M_in (by assumption) ) (fun r4 σ3 hr2 => ?_)
  obtain ⟨hσ3, hpσ3⟩ := hr2
  try simp only [wn_0, wn_1, wn_m1, wn_9, wn_8, wn_4, wn_2, wn_100] at hpσ3
  refine wk_b2 (tt_M_goes (by assumption)) (fun r6 σ5 hr3 => ?_)
  obtain ⟨hσ5, hpσ5⟩ := hr3
  try simp only [wn_0, wn_1, wn_m1, wn_9, wn_8, wn_4, wn_2, wn_100] at hpσ5
  refine wk_i (fun hc4 => ?_) (fun hc4 => ?_)
  · try simp only [wn_le, wn_lt, wn_eq, wn_0, wn_1, wn_m1, wn_9, wn_8, wn_4, wn_2, wn_100] at hc4
    exact wk_s ((show wJ 0 _ from by assumption))
  · try simp only [wn_le, wn_lt, wn_eq, wn_0, wn_1, wn_m1, wn_9, wn_8, wn_4, wn_2, wn_100] at hc4
    refine wk_g (wn_in (by first | omega | decide) (by first | omega | decide)) ?_
    refine wk_w (u_o (by assumption) (by omega)) (fun σ9 hσ9 => ?_)
    refine wk_b1 (tt_M_gone (by assumption) ) (fun σ10 hr5 => ?_)
    have hσ10 : wJ _ σ10 := hr5
    exact wk_s ((show wJ 0 _ from by assumption))
theorem tt_M_old {a1 : Int32} {a2 : Int32} {σ : wc_S} (hσ : wJ 0 σ)  : wk (wf_M_old a1 a2 σ) (wJ 0) := by
  unfold wf_M_old
  refine wk_b2 (tt_M_isCoil (by assumption) ) (fun r2 σ1 hr1 => ?_)
  obtain ⟨hσ1, hpσ1⟩ := hr1
  try simp only [wn_0, wn_1, wn_m1, wn_9, wn_8, wn_4, wn_2, wn_100] at hpσ1
  refine wk_b2 (tt_M_in (by assumption) ) (fun r4 σ3 hr2 => ?_)
  obtain ⟨hσ3, hpσ3⟩ := hr2
  try simp only [wn_0, wn_1, wn_m1, wn_9, wn_8, wn_4, wn_2, wn_100] at hpσ3
  refine wk_b2 (tt_M_goes (by assumption)) (fun r6 σ5 hr3 => ?_)
  obtain ⟨hσ5, hpσ5⟩ := hr3
  try simp only [wn_0, wn_1, wn_m1, wn_9, wn_8, wn_4, wn_2, wn_100] at hpσ5
  refine wk_i (fun hc4 => ?_) (fun hc4 => ?_)
  · try simp only [wn_le, wn_lt, wn_eq, wn_0, wn_1, wn_m1, wn_9, wn_8, wn_4, wn_2, wn_100] at hc4
    exact wk_s ((show wJ 0 _ from by assumption))
  · try simp only [wn_le, wn_lt, wn_eq, wn_0, wn_1, wn_m1, wn_9, wn_8, wn_4, wn_2, wn_100] at hc4
    refine wk_g (wn_in (by first | omega | decide) (by first | omega | decide)) ?_
    refine wk_w (u_o (by assumption) (by omega)) (fun σ9 hσ9 => ?_)
    refine wk_b1 (tt_M_gone (by assumption) ) (fun σ10 hr5 => ?_)
    have hσ10 : wJ _ σ10 := hr5
    exact wk_s ((show wJ 0 _ from by assumption))
theorem tt_M_rules {a1 : Int32} {a2 : Int32} {a3 : Int32} {a4 : Int32} {σ : wc_S} (hσ : wJ 0 σ)  : wk (wf_M_rules a1 a2 a3 a4 σ) (wJ 0) := by
  unfold wf_M_rules
  refine wk_b2 (tt_M_in (by assumption) ) (fun r2 σ1 hr1 => ?_)
  obtain ⟨hσ1, hpσ1⟩ := hr1
  try simp only [wn_0, wn_1, wn_m1, wn_9, wn_8, wn_4, wn_2, wn_100] at hpσ1
  refine wk_i (fun hc2 => ?_) (fun hc2 => ?_)
  · try simp only [wn_le, wn_lt, wn_eq, wn_0, wn_1, wn_m1, wn_9, wn_8, wn_4, wn_2, wn_100] at hc2
    unfold wf_M_rules_49
    unfold wf_M_rules_50
    refine wk_b2 (tt_M_goes (by assumption)) (fun r5 σ4 hr3 => ?_)
    obtain ⟨hσ4, hpσ4⟩ := hr3
    try simp only [wn_0, wn_1, wn_m1, wn_9, wn_8, wn_4, wn_2, wn_100] at hpσ4
    refine wk_i (fun hc4 => ?_) (fun hc4 => ?_)
    · try simp only [wn_le, wn_lt, wn_eq, wn_0, wn_1, wn_m1, wn_9, wn_8, wn_4, wn_2, wn_100] at hc4
      exact wk_s ((show wJ 0 _ from by assumption))
    · try simp only [wn_le, wn_lt, wn_eq, wn_0, wn_1, wn_m1, wn_9, wn_8, wn_4, wn_2, wn_100] at hc4
      refine wk_w (u_71 (by assumption) (by decide) (by decide)) (fun σ7 hσ7 => ?_)
      refine wk_w (u_71 (by assumption) (by decide) (by decide)) (fun σ8 hσ8 => ?_)
      refine wk_w (u_71 (by assumption) (by decide) (by decide)) (fun σ9 hσ9 => ?_)
      refine wk_w (u_71 (by assumption) (by decide) (by decide)) (fun σ10 hσ10 => ?_)
      refine wk_b1 (tt_M_gone (by assumption) ) (fun σ11 hr5 => ?_)
      have hσ11 : wJ _ σ11 := hr5
      exact wk_s ((show wJ 0 _ from by assumption))
  · try simp only [wn_le, wn_lt, wn_eq, wn_0, wn_1, wn_m1, wn_9, wn_8, wn_4, wn_2, wn_100] at hc2
    refine wk_b2 (tt_M_in (by assumption) ) (fun r13 σ12 hr6 => ?_)
    obtain ⟨hσ12, hpσ12⟩ := hr6
    try simp only [wn_0, wn_1, wn_m1, wn_9, wn_8, wn_4, wn_2, wn_100] at hpσ12
    refine wk_i (fun hc7 => ?_) (fun hc7 => ?_)
    · try simp only [wn_le, wn_lt, wn_eq, wn_0, wn_1, wn_m1, wn_9, wn_8, wn_4, wn_2, wn_100] at hc7
      unfold wf_M_rules_49
      unfold wf_M_rules_50
      refine wk_b2 (tt_M_goes (by assumption)) (fun r5 σ4 hr8 => ?_)
      obtain ⟨hσ4, hpσ4⟩ := hr8
      try simp only [wn_0, wn_1, wn_m1, wn_9, wn_8, wn_4, wn_2, wn_100] at hpσ4
      refine wk_i (fun hc9 => ?_) (fun hc9 => ?_)
      · try simp only [wn_le, wn_lt, wn_eq, wn_0, wn_1, wn_m1, wn_9, wn_8, wn_4, wn_2, wn_100] at hc9
        exact wk_s ((show wJ 0 _ from by assumption))
      · try simp only [wn_le, wn_lt, wn_eq, wn_0, wn_1, wn_m1, wn_9, wn_8, wn_4, wn_2, wn_100] at hc9
        refine wk_w (u_71 (by assumption) (by decide) (by decide)) (fun σ7 hσ7 => ?_)
        refine wk_w (u_71 (by assumption) (by decide) (by decide)) (fun σ8 hσ8 => ?_)
        refine wk_w (u_71 (by assumption) (by decide) (by decide)) (fun σ9 hσ9 => ?_)
        refine wk_w (u_71 (by assumption) (by decide) (by decide)) (fun σ10 hσ10 => ?_)
        refine wk_b1 (tt_M_gone (by assumption) ) (fun σ11 hr10 => ?_)
        have hσ11 : wJ _ σ11 := hr10
        exact wk_s ((show wJ 0 _ from by assumption))
    · try simp only [wn_le, wn_lt, wn_eq, wn_0, wn_1, wn_m1, wn_9, wn_8, wn_4, wn_2, wn_100] at hc7
      refine wk_b2 (tt_M_in (by assumption) ) (fun r16 σ15 hr11 => ?_)
      obtain ⟨hσ15, hpσ15⟩ := hr11
      try simp only [wn_0, wn_1, wn_m1, wn_9, wn_8, wn_4, wn_2, wn_100] at hpσ15
      refine wk_i (fun hc12 => ?_) (fun hc12 => ?_)
      · try simp only [wn_le, wn_lt, wn_eq, wn_0, wn_1, wn_m1, wn_9, wn_8, wn_4, wn_2, wn_100] at hc12
        unfold wf_M_rules_49
        unfold wf_M_rules_50
        refine wk_b2 (tt_M_goes (by assumption)) (fun r5 σ4 hr13 => ?_)
        obtain ⟨hσ4, hpσ4⟩ := hr13
        try simp only [wn_0, wn_1, wn_m1, wn_9, wn_8, wn_4, wn_2, wn_100] at hpσ4
        refine wk_i (fun hc14 => ?_) (fun hc14 => ?_)
        · try simp only [wn_le, wn_lt, wn_eq, wn_0, wn_1, wn_m1, wn_9, wn_8, wn_4, wn_2, wn_100] at hc14
          exact wk_s ((show wJ 0 _ from by assumption))
        · try simp only [wn_le, wn_lt, wn_eq, wn_0, wn_1, wn_m1, wn_9, wn_8, wn_4, wn_2, wn_100] at hc14
          refine wk_w (u_71 (by assumption) (by decide) (by decide)) (fun σ7 hσ7 => ?_)
          refine wk_w (u_71 (by assumption) (by decide) (by decide)) (fun σ8 hσ8 => ?_)
          refine wk_w (u_71 (by assumption) (by decide) (by decide)) (fun σ9 hσ9 => ?_)
          refine wk_w (u_71 (by assumption) (by decide) (by decide)) (fun σ10 hσ10 => ?_)
          refine wk_b1 (tt_M_gone (by assumption) ) (fun σ11 hr15 => ?_)
          have hσ11 : wJ _ σ11 := hr15
          exact wk_s ((show wJ 0 _ from by assumption))
      · try simp only [wn_le, wn_lt, wn_eq, wn_0, wn_1, wn_m1, wn_9, wn_8, wn_4, wn_2, wn_100] at hc12
        refine wk_b2 (tt_M_in (by assumption) ) (fun r19 σ18 hr16 => ?_)
        obtain ⟨hσ18, hpσ18⟩ := hr16
        try simp only [wn_0, wn_1, wn_m1, wn_9, wn_8, wn_4, wn_2, wn_100] at hpσ18
        refine wk_i (fun hc17 => ?_) (fun hc17 => ?_)
        · try simp only [wn_le, wn_lt, wn_eq, wn_0, wn_1, wn_m1, wn_9, wn_8, wn_4, wn_2, wn_100] at hc17
          unfold wf_M_rules_49
          unfold wf_M_rules_50
          refine wk_b2 (tt_M_goes (by assumption)) (fun r5 σ4 hr18 => ?_)
          obtain ⟨hσ4, hpσ4⟩ := hr18
          try simp only [wn_0, wn_1, wn_m1, wn_9, wn_8, wn_4, wn_2, wn_100] at hpσ4
          refine wk_i (fun hc19 => ?_) (fun hc19 => ?_)
          · try simp only [wn_le, wn_lt, wn_eq, wn_0, wn_1, wn_m1, wn_9, wn_8, wn_4, wn_2, wn_100] at hc19
            exact wk_s ((show wJ 0 _ from by assumption))
          · try simp only [wn_le, wn_lt, wn_eq, wn_0, wn_1, wn_m1, wn_9, wn_8, wn_4, wn_2, wn_100] at hc19
            refine wk_w (u_71 (by assumption) (by decide) (by decide)) (fun σ7 hσ7 => ?_)
            refine wk_w (u_71 (by assumption) (by decide) (by decide)) (fun σ8 hσ8 => ?_)
            refine wk_w (u_71 (by assumption) (by decide) (by decide)) (fun σ9 hσ9 => ?_)
            refine wk_w (u_71 (by assumption) (by decide) (by decide)) (fun σ10 hσ10 => ?_)
            refine wk_b1 (tt_M_gone (by assumption) ) (fun σ11 hr20 => ?_)
            have hσ11 : wJ _ σ11 := hr20
            exact wk_s ((show wJ 0 _ from by assumption))
        · try simp only [wn_le, wn_lt, wn_eq, wn_0, wn_1, wn_m1, wn_9, wn_8, wn_4, wn_2, wn_100] at hc17
          unfold wf_M_rules_50
          refine wk_b2 (tt_M_goes (by assumption)) (fun r5 σ4 hr21 => ?_)
          obtain ⟨hσ4, hpσ4⟩ := hr21
          try simp only [wn_0, wn_1, wn_m1, wn_9, wn_8, wn_4, wn_2, wn_100] at hpσ4
          refine wk_i (fun hc22 => ?_) (fun hc22 => ?_)
          · try simp only [wn_le, wn_lt, wn_eq, wn_0, wn_1, wn_m1, wn_9, wn_8, wn_4, wn_2, wn_100] at hc22
            exact wk_s ((show wJ 0 _ from by assumption))
          · try simp only [wn_le, wn_lt, wn_eq, wn_0, wn_1, wn_m1, wn_9, wn_8, wn_4, wn_2, wn_100] at hc22
            refine wk_w (u_71 (by assumption) (by decide) (by decide)) (fun σ7 hσ7 => ?_)
            refine wk_w (u_71 (by assumption) (by decide) (by decide)) (fun σ8 hσ8 => ?_)
            refine wk_w (u_71 (by assumption) (by decide) (by decide)) (fun σ9 hσ9 => ?_)
            refine wk_w (u_71 (by assumption) (by decide) (by decide)) (fun σ10 hσ10 => ?_)
            refine wk_b1 (tt_M_gone (by assumption) ) (fun σ11 hr23 => ?_)
            have hσ11 : wJ _ σ11 := hr23
            exact wk_s ((show wJ 0 _ from by assumption))
theorem tt_M_costOf_17 {c : Nat}   : ∀ (n : Nat) (x1 : Int32) (x3 : Int32) (x4 : Int32) (σ : wc_S), wJ c σ → 0 ≤ x1.toInt → x1.toInt ≤ 1 → 8 * x1.toInt ≤ x4.toInt → x4.toInt ≤ 8 * x1.toInt + 8 → 8 * x1.toInt + 8 < x4.toInt + n → wk (wf_M_costOf_17  n x1 x3 x4 σ) (fun r => wJ c r.2) := by
  intro n
  induction n with
  | zero => intro x1 x3 x4 σ hσ c0 c1 c2 c3 c4; omega
  | succ n ih =>
    intro x1 x3 x4 σ hσ c0 c1 c2 c3 c4
    show wk (wf_M_costOf_17_b (wf_M_costOf_17  n) x1 x3 x4 σ) _
    unfold wf_M_costOf_17_b
    refine wk_e (fun v3 ev3 => ?_)
    try (have hv3 : v3.toInt = 8 * x1.toInt := by rw [ev3]; exact wn_m8 (by first | omega | decide) (by first | omega | decide))
    refine wk_g (wn_in (by first | omega | decide) (by first | omega | decide)) ?_
    refine wk_r (fun v => 0 ≤ v.toInt ∧ v.toInt ≤ 8) (i_8 (by assumption) (by omega)) (fun v5 hv5 => ?_)
    refine wk_e (fun v6 ev6 => ?_)
    try (have hv6 : v6.toInt = v3.toInt + v5.toInt := by rw [ev6]; exact wn_add (by omega) (by omega))
    refine wk_i (fun hc1 => ?_) (fun hc1 => ?_)
    · try simp only [wn_le, wn_lt, wn_eq, wn_0, wn_1, wn_m1, wn_9, wn_8, wn_4, wn_2, wn_100] at hc1
      refine wk_g (wn_in (by first | omega | decide) (by first | omega | decide)) ?_
      refine wk_r (fun v => 0 ≤ v.toInt ∧ v.toInt ≤ 8) (i_8 (by assumption) (by omega)) (fun v9 hv9 => ?_)
      refine wk_i (fun hc2 => ?_) (fun hc2 => ?_)
      · try simp only [wn_le, wn_lt, wn_eq, wn_0, wn_1, wn_m1, wn_9, wn_8, wn_4, wn_2, wn_100] at hc2
        exact wk_s ((show wJ c _ from by assumption))
      · try simp only [wn_le, wn_lt, wn_eq, wn_0, wn_1, wn_m1, wn_9, wn_8, wn_4, wn_2, wn_100] at hc2
        exact wk_s ((show wJ c _ from by assumption))
    · try simp only [wn_le, wn_lt, wn_eq, wn_0, wn_1, wn_m1, wn_9, wn_8, wn_4, wn_2, wn_100] at hc1
      refine wk_g (wn_in (by first | omega | decide) (by first | omega | decide)) ?_
      refine wk_v (fun v12 => ?_)
      refine wk_i (fun hc3 => ?_) (fun hc3 => ?_)
      · try simp only [wn_le, wn_lt, wn_eq, wn_0, wn_1, wn_m1, wn_9, wn_8, wn_4, wn_2, wn_100] at hc3
        unfold wf_M_costOf_63
        refine wk_e (fun v14 ev14 => ?_)
        try (have hv14 : v14.toInt = x4.toInt + 1 := by rw [ev14]; exact wn_up (by omega) (by omega))
        exact ih _ _ _ _ (by assumption) (by omega) (by omega) (by omega) (by omega) (by omega)
      · try simp only [wn_le, wn_lt, wn_eq, wn_0, wn_1, wn_m1, wn_9, wn_8, wn_4, wn_2, wn_100] at hc3
        refine wk_g (wn_in (by first | omega | decide) (by first | omega | decide)) ?_
        refine wk_v (fun v16 => ?_)
        refine wk_i (fun hc4 => ?_) (fun hc4 => ?_)
        · try simp only [wn_le, wn_lt, wn_eq, wn_0, wn_1, wn_m1, wn_9, wn_8, wn_4, wn_2, wn_100] at hc4
          unfold wf_M_costOf_63
          refine wk_e (fun v14 ev14 => ?_)
          try (have hv14 : v14.toInt = x4.toInt + 1 := by rw [ev14]; exact wn_up (by omega) (by omega))
          exact ih _ _ _ _ (by assumption) (by omega) (by omega) (by omega) (by omega) (by omega)
        · try simp only [wn_le, wn_lt, wn_eq, wn_0, wn_1, wn_m1, wn_9, wn_8, wn_4, wn_2, wn_100] at hc4
          refine wk_g (wn_in (by first | omega | decide) (by first | omega | decide)) ?_
          refine wk_v (fun v19 => ?_)
          exact wk_s ((show wJ c _ from by assumption))
theorem tt_M_costOf {c : Nat} {a1 : Int32} {a2 : Int32} {σ : wc_S} (hσ : wJ c σ) (q0 : 0 ≤ a1.toInt) (q1 : a1.toInt ≤ 1) : wk (wf_M_costOf a1 a2 σ) (fun r => wJ c r.2) := by
  unfold wf_M_costOf
  refine wk_i (fun hc1 => ?_) (fun hc1 => ?_)
  · try simp only [wn_le, wn_lt, wn_eq, wn_0, wn_1, wn_m1, wn_9, wn_8, wn_4, wn_2, wn_100] at hc1
    unfold wf_M_costOf_10
    refine wk_e (fun v2 ev2 => ?_)
    try (have hv2 : v2.toInt = 8 * a1.toInt := by rw [ev2]; exact wn_m8 (by first | omega | decide) (by first | omega | decide))
    exact tt_M_costOf_17  16 _ _ _ _ (by assumption) (by first | omega | decide) (by first | omega | decide) (by first | omega | decide) (by first | omega | decide) (by first | omega | decide) 
  · try simp only [wn_le, wn_lt, wn_eq, wn_0, wn_1, wn_m1, wn_9, wn_8, wn_4, wn_2, wn_100] at hc1
    refine wk_v (fun v20 => ?_)
    unfold wf_M_costOf_10
    refine wk_e (fun v2 ev2 => ?_)
    try (have hv2 : v2.toInt = 8 * a1.toInt := by rw [ev2]; exact wn_m8 (by first | omega | decide) (by first | omega | decide))
    exact tt_M_costOf_17  16 _ _ _ _ (by assumption) (by first | omega | decide) (by first | omega | decide) (by first | omega | decide) (by first | omega | decide) (by first | omega | decide) 
theorem tt_M_jumpOf {c : Nat} {a1 : Int32} {a2 : Int32} {σ : wc_S} (hσ : wJ c σ) (q0 : 0 ≤ a1.toInt) (q1 : a1.toInt ≤ 8) (q2 : 0 ≤ a2.toInt) (q3 : a2.toInt ≤ 8) : wk (wf_M_jumpOf a1 a2 σ) (fun r => wJ c r.2) := by
  unfold wf_M_jumpOf
  refine wk_g (wn_in (by first | omega | decide) (by first | omega | decide)) ?_
  refine wk_v (fun v2 => ?_)
  refine wk_g (wn_in (by first | omega | decide) (by first | omega | decide)) ?_
  refine wk_v (fun v4 => ?_)
  refine wk_v (fun v5 => ?_)
  refine wk_b2 (tt_M_costOf (by assumption) (by first | omega | decide) (by first | omega | decide)) (fun r7 σ6 hr1 => ?_)
  have hσ6 : wJ _ σ6 := hr1
  refine wk_g (wn_in (by first | omega | decide) (by first | omega | decide)) ?_
  refine wk_v (fun v9 => ?_)
  refine wk_g (wn_in (by first | omega | decide) (by first | omega | decide)) ?_
  refine wk_v (fun v11 => ?_)
  refine wk_v (fun v12 => ?_)
  refine wk_b2 (tt_M_costOf (by assumption) (by first | omega | decide) (by first | omega | decide)) (fun r14 σ13 hr2 => ?_)
  have hσ13 : wJ _ σ13 := hr2
  refine wk_i (fun hc3 => ?_) (fun hc3 => ?_)
  · try simp only [wn_le, wn_lt, wn_eq, wn_0, wn_1, wn_m1, wn_9, wn_8, wn_4, wn_2, wn_100] at hc3
    exact wk_s ((show wJ c _ from by assumption))
  · try simp only [wn_le, wn_lt, wn_eq, wn_0, wn_1, wn_m1, wn_9, wn_8, wn_4, wn_2, wn_100] at hc3
    refine wk_i (fun hc4 => ?_) (fun hc4 => ?_)
    · try simp only [wn_le, wn_lt, wn_eq, wn_0, wn_1, wn_m1, wn_9, wn_8, wn_4, wn_2, wn_100] at hc4
      refine wk_e (fun v17 ev17 => ?_)
      try (have hv17 : v17.toInt = r7.toInt + r14.toInt := by rw [ev17]; exact wn_add (by omega) (by omega))
      exact wk_s ((show wJ c _ from by assumption))
    · try simp only [wn_le, wn_lt, wn_eq, wn_0, wn_1, wn_m1, wn_9, wn_8, wn_4, wn_2, wn_100] at hc4
      exact wk_s ((show wJ c _ from by assumption))
theorem tt_M_jump {c : Nat} {a1 : Int32} {a2 : Int32} {σ : wc_S} (hσ : wJ c σ)  : wk (wf_M_jump a1 a2 σ) (fun r => wJ c r.2) := by
  unfold wf_M_jump
  refine wk_b2 (tt_M_isCoil (by assumption) ) (fun r2 σ1 hr1 => ?_)
  obtain ⟨hσ1, hpσ1⟩ := hr1
  try simp only [wn_0, wn_1, wn_m1, wn_9, wn_8, wn_4, wn_2, wn_100] at hpσ1
  refine wk_i (fun hc2 => ?_) (fun hc2 => ?_)
  · try simp only [wn_le, wn_lt, wn_eq, wn_0, wn_1, wn_m1, wn_9, wn_8, wn_4, wn_2, wn_100] at hc2
    unfold wf_M_jump_26
    unfold wf_M_jump_27
    refine wk_b2 (tt_M_goes (by assumption)) (fun r5 σ4 hr3 => ?_)
    obtain ⟨hσ4, hpσ4⟩ := hr3
    try simp only [wn_0, wn_1, wn_m1, wn_9, wn_8, wn_4, wn_2, wn_100] at hpσ4
    refine wk_i (fun hc4 => ?_) (fun hc4 => ?_)
    · try simp only [wn_le, wn_lt, wn_eq, wn_0, wn_1, wn_m1, wn_9, wn_8, wn_4, wn_2, wn_100] at hc4
      exact wk_s ((show wJ c _ from by assumption))
    · try simp only [wn_le, wn_lt, wn_eq, wn_0, wn_1, wn_m1, wn_9, wn_8, wn_4, wn_2, wn_100] at hc4
      refine wk_b2 (tt_M_jumpOf (by assumption) (by first | omega | decide) (by first | omega | decide) (by first | omega | decide) (by first | omega | decide)) (fun r8 σ7 hr5 => ?_)
      have hσ7 : wJ _ σ7 := hr5
      exact wk_s ((show wJ c _ from by assumption))
  · try simp only [wn_le, wn_lt, wn_eq, wn_0, wn_1, wn_m1, wn_9, wn_8, wn_4, wn_2, wn_100] at hc2
    refine wk_b2 (tt_M_isCoil (by assumption) ) (fun r10 σ9 hr6 => ?_)
    obtain ⟨hσ9, hpσ9⟩ := hr6
    try simp only [wn_0, wn_1, wn_m1, wn_9, wn_8, wn_4, wn_2, wn_100] at hpσ9
    refine wk_i (fun hc7 => ?_) (fun hc7 => ?_)
    · try simp only [wn_le, wn_lt, wn_eq, wn_0, wn_1, wn_m1, wn_9, wn_8, wn_4, wn_2, wn_100] at hc7
      unfold wf_M_jump_26
      unfold wf_M_jump_27
      refine wk_b2 (tt_M_goes (by assumption)) (fun r5 σ4 hr8 => ?_)
      obtain ⟨hσ4, hpσ4⟩ := hr8
      try simp only [wn_0, wn_1, wn_m1, wn_9, wn_8, wn_4, wn_2, wn_100] at hpσ4
      refine wk_i (fun hc9 => ?_) (fun hc9 => ?_)
      · try simp only [wn_le, wn_lt, wn_eq, wn_0, wn_1, wn_m1, wn_9, wn_8, wn_4, wn_2, wn_100] at hc9
        exact wk_s ((show wJ c _ from by assumption))
      · try simp only [wn_le, wn_lt, wn_eq, wn_0, wn_1, wn_m1, wn_9, wn_8, wn_4, wn_2, wn_100] at hc9
        refine wk_b2 (tt_M_jumpOf (by assumption) (by first | omega | decide) (by first | omega | decide) (by first | omega | decide) (by first | omega | decide)) (fun r8 σ7 hr10 => ?_)
        have hσ7 : wJ _ σ7 := hr10
        exact wk_s ((show wJ c _ from by assumption))
    · try simp only [wn_le, wn_lt, wn_eq, wn_0, wn_1, wn_m1, wn_9, wn_8, wn_4, wn_2, wn_100] at hc7
      refine wk_i (fun hc11 => ?_) (fun hc11 => ?_)
      · try simp only [wn_le, wn_lt, wn_eq, wn_0, wn_1, wn_m1, wn_9, wn_8, wn_4, wn_2, wn_100] at hc11
        unfold wf_M_jump_26
        unfold wf_M_jump_27
        refine wk_b2 (tt_M_goes (by assumption)) (fun r5 σ4 hr12 => ?_)
        obtain ⟨hσ4, hpσ4⟩ := hr12
        try simp only [wn_0, wn_1, wn_m1, wn_9, wn_8, wn_4, wn_2, wn_100] at hpσ4
        refine wk_i (fun hc13 => ?_) (fun hc13 => ?_)
        · try simp only [wn_le, wn_lt, wn_eq, wn_0, wn_1, wn_m1, wn_9, wn_8, wn_4, wn_2, wn_100] at hc13
          exact wk_s ((show wJ c _ from by assumption))
        · try simp only [wn_le, wn_lt, wn_eq, wn_0, wn_1, wn_m1, wn_9, wn_8, wn_4, wn_2, wn_100] at hc13
          refine wk_b2 (tt_M_jumpOf (by assumption) (by first | omega | decide) (by first | omega | decide) (by first | omega | decide) (by first | omega | decide)) (fun r8 σ7 hr14 => ?_)
          have hσ7 : wJ _ σ7 := hr14
          exact wk_s ((show wJ c _ from by assumption))
      · try simp only [wn_le, wn_lt, wn_eq, wn_0, wn_1, wn_m1, wn_9, wn_8, wn_4, wn_2, wn_100] at hc11
        unfold wf_M_jump_27
        refine wk_b2 (tt_M_goes (by assumption)) (fun r5 σ4 hr15 => ?_)
        obtain ⟨hσ4, hpσ4⟩ := hr15
        try simp only [wn_0, wn_1, wn_m1, wn_9, wn_8, wn_4, wn_2, wn_100] at hpσ4
        refine wk_i (fun hc16 => ?_) (fun hc16 => ?_)
        · try simp only [wn_le, wn_lt, wn_eq, wn_0, wn_1, wn_m1, wn_9, wn_8, wn_4, wn_2, wn_100] at hc16
          exact wk_s ((show wJ c _ from by assumption))
        · try simp only [wn_le, wn_lt, wn_eq, wn_0, wn_1, wn_m1, wn_9, wn_8, wn_4, wn_2, wn_100] at hc16
          refine wk_b2 (tt_M_jumpOf (by assumption) (by first | omega | decide) (by first | omega | decide) (by first | omega | decide) (by first | omega | decide)) (fun r8 σ7 hr17 => ?_)
          have hσ7 : wJ _ σ7 := hr17
          exact wk_s ((show wJ c _ from by assumption))
theorem tt_M_proved {c : Nat}  {σ : wc_S} (hσ : wJ c σ)  : wk (wf_M_proved σ) (fun r => wJ c r.2) := by
  unfold wf_M_proved
  refine wk_v (fun v1 => ?_)
  refine wk_b2 (tt_M_goes (by assumption)) (fun r3 σ2 hr1 => ?_)
  obtain ⟨hσ2, hpσ2⟩ := hr1
  try simp only [wn_0, wn_1, wn_m1, wn_9, wn_8, wn_4, wn_2, wn_100] at hpσ2
  refine wk_i (fun hc2 => ?_) (fun hc2 => ?_)
  · try simp only [wn_le, wn_lt, wn_eq, wn_0, wn_1, wn_m1, wn_9, wn_8, wn_4, wn_2, wn_100] at hc2
    exact wk_s ((show wJ c _ from by assumption))
  · try simp only [wn_le, wn_lt, wn_eq, wn_0, wn_1, wn_m1, wn_9, wn_8, wn_4, wn_2, wn_100] at hc2
    refine wk_v (fun v5 => ?_)
    refine wk_i (fun hc3 => ?_) (fun hc3 => ?_)
    · try simp only [wn_le, wn_lt, wn_eq, wn_0, wn_1, wn_m1, wn_9, wn_8, wn_4, wn_2, wn_100] at hc3
      exact wk_s ((show wJ c _ from by assumption))
    · try simp only [wn_le, wn_lt, wn_eq, wn_0, wn_1, wn_m1, wn_9, wn_8, wn_4, wn_2, wn_100] at hc3
      exact wk_s ((show wJ c _ from by assumption))
theorem tt_M_bound_25 {c : Nat} {k11 : Int32 → Int32 → Int32 → wc_S → Option (Int32 × wc_S)}  : ∀ (n : Nat) (x1 : Int32) (x2 : Int32) (x3 : Int32) (x4 : Int32) (x5 : Int32) (σ : wc_S), wJ c σ → 0 ≤ x3.toInt → x3.toInt ≤ 8 → 0 ≤ x5.toInt → x5.toInt ≤ 9 → 9 < x5.toInt + n → (∀ u v w σ, wJ c σ → w.toInt = x3.toInt + 1 → wk (k11 u v w σ) (fun r => wJ c r.2)) → wk (wf_M_bound_25 k11 n x1 x2 x3 x4 x5 σ) (fun r => wJ c r.2) := by
  intro n
  induction n with
  | zero => intro x1 x2 x3 x4 x5 σ hσ c0 c1 c2 c3 c4 hk11; omega
  | succ n ih =>
    intro x1 x2 x3 x4 x5 σ hσ c0 c1 c2 c3 c4 hk11
    show wk (wf_M_bound_25_b k11 (wf_M_bound_25 k11 n) x1 x2 x3 x4 x5 σ) _
    unfold wf_M_bound_25_b
    refine wk_rm (by assumption) (fun v5 hv5 => ?_)
    refine wk_i (fun hc1 => ?_) (fun hc1 => ?_)
    · try simp only [wn_le, wn_lt, wn_eq, wn_0, wn_1, wn_m1, wn_9, wn_8, wn_4, wn_2, wn_100] at hc1
      refine wk_i (fun hc2 => ?_) (fun hc2 => ?_)
      · try simp only [wn_le, wn_lt, wn_eq, wn_0, wn_1, wn_m1, wn_9, wn_8, wn_4, wn_2, wn_100] at hc2
        unfold wf_M_bound_87
        refine wk_e (fun v8 ev8 => ?_)
        try (have hv8 : v8.toInt = x1.toInt + x4.toInt := by rw [ev8]; exact wn_add (by omega) (by omega))
        refine wk_i (fun hc3 => ?_) (fun hc3 => ?_)
        · try simp only [wn_le, wn_lt, wn_eq, wn_0, wn_1, wn_m1, wn_9, wn_8, wn_4, wn_2, wn_100] at hc3
          unfold wf_M_bound_101
          refine wk_e (fun v10 ev10 => ?_)
          try (have hv10 : v10.toInt = x3.toInt + 1 := by rw [ev10]; exact wn_up (by omega) (by omega))
          exact hk11 _ _ _ _ (by assumption) (by omega)
        · try simp only [wn_le, wn_lt, wn_eq, wn_0, wn_1, wn_m1, wn_9, wn_8, wn_4, wn_2, wn_100] at hc3
          unfold wf_M_bound_101
          refine wk_e (fun v10 ev10 => ?_)
          try (have hv10 : v10.toInt = x3.toInt + 1 := by rw [ev10]; exact wn_up (by omega) (by omega))
          exact hk11 _ _ _ _ (by assumption) (by omega)
      · try simp only [wn_le, wn_lt, wn_eq, wn_0, wn_1, wn_m1, wn_9, wn_8, wn_4, wn_2, wn_100] at hc2
        unfold wf_M_bound_87
        refine wk_v (fun v8 => ?_)
        refine wk_i (fun hc4 => ?_) (fun hc4 => ?_)
        · try simp only [wn_le, wn_lt, wn_eq, wn_0, wn_1, wn_m1, wn_9, wn_8, wn_4, wn_2, wn_100] at hc4
          unfold wf_M_bound_101
          refine wk_e (fun v10 ev10 => ?_)
          try (have hv10 : v10.toInt = x3.toInt + 1 := by rw [ev10]; exact wn_up (by omega) (by omega))
          exact hk11 _ _ _ _ (by assumption) (by omega)
        · try simp only [wn_le, wn_lt, wn_eq, wn_0, wn_1, wn_m1, wn_9, wn_8, wn_4, wn_2, wn_100] at hc4
          unfold wf_M_bound_101
          refine wk_e (fun v10 ev10 => ?_)
          try (have hv10 : v10.toInt = x3.toInt + 1 := by rw [ev10]; exact wn_up (by omega) (by omega))
          exact hk11 _ _ _ _ (by assumption) (by omega)
    · try simp only [wn_le, wn_lt, wn_eq, wn_0, wn_1, wn_m1, wn_9, wn_8, wn_4, wn_2, wn_100] at hc1
      refine wk_i (fun hc5 => ?_) (fun hc5 => ?_)
      · try simp only [wn_le, wn_lt, wn_eq, wn_0, wn_1, wn_m1, wn_9, wn_8, wn_4, wn_2, wn_100] at hc5
        unfold wf_M_bound_73
        refine wk_e (fun v15 ev15 => ?_)
        try (have hv15 : v15.toInt = x5.toInt + 1 := by rw [ev15]; exact wn_up (by omega) (by omega))
        exact ih _ _ _ _ _ _ (by assumption) (by omega) (by omega) (by omega) (by omega) (by omega) (by assumption)
      · try simp only [wn_le, wn_lt, wn_eq, wn_0, wn_1, wn_m1, wn_9, wn_8, wn_4, wn_2, wn_100] at hc5
        refine wk_b2 (tt_M_jumpOf (by assumption) (by first | omega | decide) (by first | omega | decide) (by first | omega | decide) (by first | omega | decide)) (fun r13 σ12 hr6 => ?_)
        have hσ12 : wJ _ σ12 := hr6
        refine wk_i (fun hc7 => ?_) (fun hc7 => ?_)
        · try simp only [wn_le, wn_lt, wn_eq, wn_0, wn_1, wn_m1, wn_9, wn_8, wn_4, wn_2, wn_100] at hc7
          unfold wf_M_bound_73
          refine wk_e (fun v15 ev15 => ?_)
          try (have hv15 : v15.toInt = x5.toInt + 1 := by rw [ev15]; exact wn_up (by omega) (by omega))
          exact ih _ _ _ _ _ _ (by assumption) (by omega) (by omega) (by omega) (by omega) (by omega) (by assumption)
        · try simp only [wn_le, wn_lt, wn_eq, wn_0, wn_1, wn_m1, wn_9, wn_8, wn_4, wn_2, wn_100] at hc7
          refine wk_i (fun hc8 => ?_) (fun hc8 => ?_)
          · try simp only [wn_le, wn_lt, wn_eq, wn_0, wn_1, wn_m1, wn_9, wn_8, wn_4, wn_2, wn_100] at hc8
            unfold wf_M_bound_69
            unfold wf_M_bound_73
            refine wk_e (fun v15 ev15 => ?_)
            try (have hv15 : v15.toInt = x5.toInt + 1 := by rw [ev15]; exact wn_up (by omega) (by omega))
            exact ih _ _ _ _ _ _ (by assumption) (by omega) (by omega) (by omega) (by omega) (by omega) (by assumption)
          · try simp only [wn_le, wn_lt, wn_eq, wn_0, wn_1, wn_m1, wn_9, wn_8, wn_4, wn_2, wn_100] at hc8
            refine wk_i (fun hc9 => ?_) (fun hc9 => ?_)
            · try simp only [wn_le, wn_lt, wn_eq, wn_0, wn_1, wn_m1, wn_9, wn_8, wn_4, wn_2, wn_100] at hc9
              unfold wf_M_bound_73
              refine wk_e (fun v15 ev15 => ?_)
              try (have hv15 : v15.toInt = x5.toInt + 1 := by rw [ev15]; exact wn_up (by omega) (by omega))
              exact ih _ _ _ _ _ _ (by assumption) (by omega) (by omega) (by omega) (by omega) (by omega) (by assumption)
            · try simp only [wn_le, wn_lt, wn_eq, wn_0, wn_1, wn_m1, wn_9, wn_8, wn_4, wn_2, wn_100] at hc9
              unfold wf_M_bound_69
              unfold wf_M_bound_73
              refine wk_e (fun v15 ev15 => ?_)
              try (have hv15 : v15.toInt = x5.toInt + 1 := by rw [ev15]; exact wn_up (by omega) (by omega))
              exact ih _ _ _ _ _ _ (by assumption) (by omega) (by omega) (by omega) (by omega) (by omega) (by assumption)
theorem tt_M_bound_11 {c : Nat}   : ∀ (n : Nat) (x1 : Int32) (x2 : Int32) (x3 : Int32) (σ : wc_S), wJ c σ → 0 ≤ x3.toInt → x3.toInt ≤ 9 → 9 < x3.toInt + n → wk (wf_M_bound_11  n x1 x2 x3 σ) (fun r => wJ c r.2) := by
  intro n
  induction n with
  | zero => intro x1 x2 x3 σ hσ c0 c1 c2; omega
  | succ n ih =>
    intro x1 x2 x3 σ hσ c0 c1 c2
    show wk (wf_M_bound_11_b (wf_M_bound_11  n) x1 x2 x3 σ) _
    unfold wf_M_bound_11_b
    refine wk_rm (by assumption) (fun v2 hv2 => ?_)
    refine wk_i (fun hc1 => ?_) (fun hc1 => ?_)
    · try simp only [wn_le, wn_lt, wn_eq, wn_0, wn_1, wn_m1, wn_9, wn_8, wn_4, wn_2, wn_100] at hc1
      refine wk_v (fun v4 => ?_)
      exact wk_s ((show wJ c _ from by assumption))
    · try simp only [wn_le, wn_lt, wn_eq, wn_0, wn_1, wn_m1, wn_9, wn_8, wn_4, wn_2, wn_100] at hc1
      exact tt_M_bound_25  16 _ _ _ _ _ _ (by assumption) (by first | omega | decide) (by first | omega | decide) (by first | omega | decide) (by first | omega | decide) (by first | omega | decide) (fun u v w σ hσ e => ih _ _ _ _ hσ (by omega) (by omega) (by omega))
theorem tt_M_bound {c : Nat}  {σ : wc_S} (hσ : wJ c σ)  : wk (wf_M_bound σ) (fun r => wJ c r.2) := by
  unfold wf_M_bound
  refine wk_w (u_71 (by assumption) (by decide) (by decide)) (fun σ1 hσ1 => ?_)
  exact tt_M_bound_11  16 _ _ _ _ (by assumption) (by first | omega | decide) (by first | omega | decide) (by first | omega | decide) 
theorem tt_M_thrown {c : Nat}  {σ : wc_S} (hσ : wJ c σ)  : wk (wf_M_thrown σ) (fun r => wJ c r.2) := by
  unfold wf_M_thrown
  refine wk_v (fun v1 => ?_)
  exact wk_s ((show wJ c _ from by assumption))
/-! the model's rows of coils -/
def wB (k1 : Nat) (m : Int) (σ : wc_S) : Prop := wJ 0 σ ∧ ∀ i : Nat, (i : Int) < m → 0 ≤ (σ k1 i).toInt ∧ (σ k1 i).toInt ≤ 8
theorem wB_1 {k1 : Nat} {m : Int} {σ : wc_S} (h : wB k1 m σ) : wJ 0 σ := h.1
theorem wB_r {k1 : Nat} {m : Int} {σ : wc_S} {x : Int32} (h : wB k1 m σ) (h1 : 0 ≤ x.toInt) (h2 : x.toInt < m) : 0 ≤ (σ k1 x.toNatClampNeg).toInt ∧ (σ k1 x.toNatClampNeg).toInt ≤ 8 := h.2 _ (by rw [wn_tn]; omega)
theorem wB_u {k1 k i : Nat} {m : Int} {σ : wc_S} {x : Int32} (h : wB k1 m σ) (hk : k ≠ k1) (hu : wJ 0 σ → wJ 0 (wc_u σ k i x)) : wB k1 m (wc_u σ k i x) := ⟨hu h.1, fun j hj => by rw [wu_other (Or.inl (Ne.symm hk))]; exact h.2 j hj⟩
theorem wk_wB {α : Type} {k1 : Nat} {m : Int} {σ : wc_S} {f : wc_S → Option α} {P : α → Prop} (hx : wB k1 m σ) (h : ∀ τ, wB k1 m τ → wk (f τ) P) : wk (wc_st σ f) P := h σ hx
theorem wB_85 {m : Int} {σ : wc_S} (h : wJ 0 σ) : wB 85 m σ := ⟨h, fun i _ => i_8 h (by omega)⟩
theorem tB_M_jumpOf {k1 : Nat} {m : Int} {a1 a2 : Int32} {σ : wc_S} (hσ : wB k1 m σ) (q0 : 0 ≤ a1.toInt) (q1 : a1.toInt ≤ 8) (q2 : 0 ≤ a2.toInt) (q3 : a2.toInt ≤ 8) : wk (wf_M_jumpOf a1 a2 σ) (fun r => wB k1 m r.2) := by
  obtain ⟨x, h1, h2⟩ := tt_M_jumpOf hσ.1 q0 q1 q2 q3
  have e : x.2 = σ := wr_same (wr_M_jumpOf a1 a2 σ x h1) (fun _ _ h => h)
  exact ⟨x, h1, by show wB k1 m x.2; rw [e]; exact hσ⟩
theorem tt_M_mayBe {m : Int} {k1 : Nat} {a2 : Int32} {σ : wc_S} (hσ : wB k1 m σ) (q0 : k1 = 85 ∨ k1 = 86) (q1 : 0 ≤ a2.toInt) (q2 : a2.toInt ≤ 8) (q3 : a2.toInt < m) : wk (wf_M_mayBe k1 a2 σ) (fun r => wB k1 m r.2) := by
  unfold wf_M_mayBe
  refine wk_g (wn_in (by first | omega | decide) (by first | omega | decide)) ?_
  refine wk_r (fun v => 0 ≤ v.toInt ∧ v.toInt ≤ 8) (wB_r (by assumption) (by omega) (by omega)) (fun v2 hv2 => ?_)
  refine wk_g (wn_in (by first | omega | decide) (by first | omega | decide)) ?_
  refine wk_v (fun v4 => ?_)
  refine wk_i (fun hc1 => ?_) (fun hc1 => ?_)
  · try simp only [wn_le, wn_lt, wn_eq, wn_0, wn_1, wn_m1, wn_9, wn_8, wn_4, wn_2, wn_100] at hc1
    refine wk_i (fun hc2 => ?_) (fun hc2 => ?_)
    · try simp only [wn_le, wn_lt, wn_eq, wn_0, wn_1, wn_m1, wn_9, wn_8, wn_4, wn_2, wn_100] at hc2
      exact wk_s ((show wB k1 m _ from by assumption))
    · try simp only [wn_le, wn_lt, wn_eq, wn_0, wn_1, wn_m1, wn_9, wn_8, wn_4, wn_2, wn_100] at hc2
      refine wk_e (fun v7 ev7 => ?_)
      try (have hv7 : v7.toInt = a2.toInt - 1 := by rw [ev7]; exact wn_dn (by omega) (by omega))
      refine wk_g (wn_in (by first | omega | decide) (by first | omega | decide)) ?_
      refine wk_r (fun v => 0 ≤ v.toInt ∧ v.toInt ≤ 8) (wB_r (by assumption) (by omega) (by omega)) (fun v9 hv9 => ?_)
      refine wk_b2 (tB_M_jumpOf (by assumption) (by omega) (by omega) (by omega) (by omega)) (fun r11 σ10 hr3 => ?_)
      have hσ10 : wB _ _ σ10 := hr3
      refine wk_i (fun hc4 => ?_) (fun hc4 => ?_)
      · try simp only [wn_le, wn_lt, wn_eq, wn_0, wn_1, wn_m1, wn_9, wn_8, wn_4, wn_2, wn_100] at hc4
        refine wk_v (fun v13 => ?_)
        refine wk_i (fun hc5 => ?_) (fun hc5 => ?_)
        · try simp only [wn_le, wn_lt, wn_eq, wn_0, wn_1, wn_m1, wn_9, wn_8, wn_4, wn_2, wn_100] at hc5
          refine wk_g (wn_in (by first | omega | decide) (by first | omega | decide)) ?_
          refine wk_v (fun v16 => ?_)
          refine wk_g (wn_in (by first | omega | decide) (by first | omega | decide)) ?_
          refine wk_v (fun v18 => ?_)
          refine wk_i (fun hc6 => ?_) (fun hc6 => ?_)
          · try simp only [wn_le, wn_lt, wn_eq, wn_0, wn_1, wn_m1, wn_9, wn_8, wn_4, wn_2, wn_100] at hc6
            exact wk_s ((show wB k1 m _ from by assumption))
          · try simp only [wn_le, wn_lt, wn_eq, wn_0, wn_1, wn_m1, wn_9, wn_8, wn_4, wn_2, wn_100] at hc6
            exact wk_s ((show wB k1 m _ from by assumption))
        · try simp only [wn_le, wn_lt, wn_eq, wn_0, wn_1, wn_m1, wn_9, wn_8, wn_4, wn_2, wn_100] at hc5
          refine wk_g (wn_in (by first | omega | decide) (by first | omega | decide)) ?_
          refine wk_v (fun v21 => ?_)
          refine wk_g (wn_in (by first | omega | decide) (by first | omega | decide)) ?_
          refine wk_v (fun v23 => ?_)
          refine wk_i (fun hc7 => ?_) (fun hc7 => ?_)
          · try simp only [wn_le, wn_lt, wn_eq, wn_0, wn_1, wn_m1, wn_9, wn_8, wn_4, wn_2, wn_100] at hc7
            exact wk_s ((show wB k1 m _ from by assumption))
          · try simp only [wn_le, wn_lt, wn_eq, wn_0, wn_1, wn_m1, wn_9, wn_8, wn_4, wn_2, wn_100] at hc7
            exact wk_s ((show wB k1 m _ from by assumption))
      · try simp only [wn_le, wn_lt, wn_eq, wn_0, wn_1, wn_m1, wn_9, wn_8, wn_4, wn_2, wn_100] at hc4
        exact wk_s ((show wB k1 m _ from by assumption))
  · try simp only [wn_le, wn_lt, wn_eq, wn_0, wn_1, wn_m1, wn_9, wn_8, wn_4, wn_2, wn_100] at hc1
    exact wk_s ((show wB k1 m _ from by assumption))
theorem tt_M_isWorn_104 {m : Int} {k1 : Nat} {k46 : Int32 → Int32 → Int32 → wc_S → Option (Int32 × wc_S)} (q0 : k1 = 85 ∨ k1 = 86) : ∀ (n : Nat) (x2 : Int32) (x3 : Int32) (x5 : Int32) (x6 : Int32) (x7 : Int32) (x8 : Int32) (σ : wc_S), wB k1 m σ → 0 ≤ x2.toInt → x2.toInt ≤ x3.toInt + 1 → x3.toInt ≤ 8 → x3.toInt < m → 0 ≤ x5.toInt → x5.toInt ≤ 3 → 0 ≤ x8.toInt → x8.toInt ≤ x3.toInt + 1 → 9 < x8.toInt + n → (∀ u v w σ, wB k1 m σ → u.toInt = x2.toInt → v.toInt = x3.toInt → w.toInt = x5.toInt + 1 → wk (k46 u v w σ) (fun r => wB k1 m r.2)) → wk (wf_M_isWorn_104 k1 k46 n x2 x3 x5 x6 x7 x8 σ) (fun r => wB k1 m r.2) := by
  intro n
  induction n with
  | zero => intro x2 x3 x5 x6 x7 x8 σ hσ c0 c1 c2 c3 c4 c5 c6 c7 c8 hk46; omega
  | succ n ih =>
    intro x2 x3 x5 x6 x7 x8 σ hσ c0 c1 c2 c3 c4 c5 c6 c7 c8 hk46
    show wk (wf_M_isWorn_104_b k1 k46 (wf_M_isWorn_104 k1 k46 n) x2 x3 x5 x6 x7 x8 σ) _
    unfold wf_M_isWorn_104_b
    refine wk_i (fun hc1 => ?_) (fun hc1 => ?_)
    · try simp only [wn_le, wn_lt, wn_eq, wn_0, wn_1, wn_m1, wn_9, wn_8, wn_4, wn_2, wn_100] at hc1
      refine wk_i (fun hc2 => ?_) (fun hc2 => ?_)
      · try simp only [wn_le, wn_lt, wn_eq, wn_0, wn_1, wn_m1, wn_9, wn_8, wn_4, wn_2, wn_100] at hc2
        unfold wf_M_isWorn_187
        refine wk_e (fun v15 ev15 => ?_)
        try (have hv15 : v15.toInt = x5.toInt + 1 := by rw [ev15]; exact wn_up (by omega) (by omega))
        exact hk46 _ _ _ _ (by assumption) (by omega) (by omega) (by omega)
      · try simp only [wn_le, wn_lt, wn_eq, wn_0, wn_1, wn_m1, wn_9, wn_8, wn_4, wn_2, wn_100] at hc2
        refine wk_g (wn_in (by first | omega | decide) (by first | omega | decide)) ?_
        refine wk_v (fun v17 => ?_)
        refine wk_i (fun hc3 => ?_) (fun hc3 => ?_)
        · try simp only [wn_le, wn_lt, wn_eq, wn_0, wn_1, wn_m1, wn_9, wn_8, wn_4, wn_2, wn_100] at hc3
          unfold wf_M_isWorn_187
          refine wk_e (fun v15 ev15 => ?_)
          try (have hv15 : v15.toInt = x5.toInt + 1 := by rw [ev15]; exact wn_up (by omega) (by omega))
          exact hk46 _ _ _ _ (by assumption) (by omega) (by omega) (by omega)
        · try simp only [wn_le, wn_lt, wn_eq, wn_0, wn_1, wn_m1, wn_9, wn_8, wn_4, wn_2, wn_100] at hc3
          exact wk_s ((show wB k1 m _ from by assumption))
    · try simp only [wn_le, wn_lt, wn_eq, wn_0, wn_1, wn_m1, wn_9, wn_8, wn_4, wn_2, wn_100] at hc1
      refine wk_g (wn_in (by first | omega | decide) (by first | omega | decide)) ?_
      refine wk_r (fun v => 0 ≤ v.toInt ∧ v.toInt ≤ 8) (wB_r (by assumption) (by omega) (by omega)) (fun v20 hv20 => ?_)
      refine wk_g (wn_in (by first | omega | decide) (by first | omega | decide)) ?_
      refine wk_v (fun v22 => ?_)
      refine wk_g (wn_in (by first | omega | decide) (by first | omega | decide)) ?_
      refine wk_v (fun v24 => ?_)
      refine wk_i (fun hc4 => ?_) (fun hc4 => ?_)
      · try simp only [wn_le, wn_lt, wn_eq, wn_0, wn_1, wn_m1, wn_9, wn_8, wn_4, wn_2, wn_100] at hc4
        unfold wf_M_isWorn_162
        refine wk_e (fun v26 ev26 => ?_)
        try (have hv26 : v26.toInt = x8.toInt + 1 := by rw [ev26]; exact wn_up (by omega) (by omega))
        exact ih _ _ _ _ _ _ _ (by assumption) (by omega) (by omega) (by omega) (by omega) (by omega) (by omega) (by omega) (by omega) (by omega) (by assumption)
      · try simp only [wn_le, wn_lt, wn_eq, wn_0, wn_1, wn_m1, wn_9, wn_8, wn_4, wn_2, wn_100] at hc4
        refine wk_g (wn_in (by first | omega | decide) (by first | omega | decide)) ?_
        refine wk_r (fun v => 0 ≤ v.toInt ∧ v.toInt ≤ 8) (wB_r (by assumption) (by omega) (by omega)) (fun v28 hv28 => ?_)
        refine wk_g (wn_in (by first | omega | decide) (by first | omega | decide)) ?_
        refine wk_v (fun v30 => ?_)
        refine wk_g (wn_in (by first | omega | decide) (by first | omega | decide)) ?_
        refine wk_v (fun v32 => ?_)
        refine wk_i (fun hc5 => ?_) (fun hc5 => ?_)
        · try simp only [wn_le, wn_lt, wn_eq, wn_0, wn_1, wn_m1, wn_9, wn_8, wn_4, wn_2, wn_100] at hc5
          unfold wf_M_isWorn_162
          refine wk_e (fun v26 ev26 => ?_)
          try (have hv26 : v26.toInt = x8.toInt + 1 := by rw [ev26]; exact wn_up (by omega) (by omega))
          exact ih _ _ _ _ _ _ _ (by assumption) (by omega) (by omega) (by omega) (by omega) (by omega) (by omega) (by omega) (by omega) (by omega) (by assumption)
        · try simp only [wn_le, wn_lt, wn_eq, wn_0, wn_1, wn_m1, wn_9, wn_8, wn_4, wn_2, wn_100] at hc5
          refine wk_g (wn_in (by first | omega | decide) (by first | omega | decide)) ?_
          refine wk_r (fun v => 0 ≤ v.toInt ∧ v.toInt ≤ 8) (wB_r (by assumption) (by omega) (by omega)) (fun v35 hv35 => ?_)
          refine wk_g (wn_in (by first | omega | decide) (by first | omega | decide)) ?_
          refine wk_v (fun v37 => ?_)
          refine wk_e (fun v38 ev38 => ?_)
          try (have hv38 : v38.toInt = x7.toInt + v37.toInt := by rw [ev38]; exact wn_add (by omega) (by omega))
          unfold wf_M_isWorn_162
          refine wk_e (fun v26 ev26 => ?_)
          try (have hv26 : v26.toInt = x8.toInt + 1 := by rw [ev26]; exact wn_up (by omega) (by omega))
          exact ih _ _ _ _ _ _ _ (by assumption) (by omega) (by omega) (by omega) (by omega) (by omega) (by omega) (by omega) (by omega) (by omega) (by assumption)
theorem tt_M_isWorn_46 {m : Int} {k1 : Nat} (q0 : k1 = 85 ∨ k1 = 86) : ∀ (n : Nat) (x2 : Int32) (x3 : Int32) (x5 : Int32) (σ : wc_S), wB k1 m σ → 0 ≤ x2.toInt → x2.toInt ≤ x3.toInt + 1 → x3.toInt ≤ 8 → x3.toInt < m → 0 ≤ x3.toInt → 0 ≤ x5.toInt → x5.toInt ≤ 4 → 4 < x5.toInt + n → wk (wf_M_isWorn_46 k1 n x2 x3 x5 σ) (fun r => wB k1 m r.2) := by
  intro n
  induction n with
  | zero => intro x2 x3 x5 σ hσ c0 c1 c2 c3 c4 c5 c6 c7; omega
  | succ n ih =>
    intro x2 x3 x5 σ hσ c0 c1 c2 c3 c4 c5 c6 c7
    show wk (wf_M_isWorn_46_b k1 (wf_M_isWorn_46 k1 n) x2 x3 x5 σ) _
    unfold wf_M_isWorn_46_b
    refine wk_rk (wB_1 (by assumption)) (fun v4 hv4 => ?_)
    refine wk_i (fun hc1 => ?_) (fun hc1 => ?_)
    · try simp only [wn_le, wn_lt, wn_eq, wn_0, wn_1, wn_m1, wn_9, wn_8, wn_4, wn_2, wn_100] at hc1
      exact wk_s ((show wB k1 m _ from by assumption))
    · try simp only [wn_le, wn_lt, wn_eq, wn_0, wn_1, wn_m1, wn_9, wn_8, wn_4, wn_2, wn_100] at hc1
      refine wk_g (wn_in (by first | omega | decide) (by first | omega | decide)) ?_
      refine wk_r (fun v => 0 ≤ v.toInt ∧ v.toInt ≤ 8) (wB_r (by assumption) (by omega) (by omega)) (fun v7 hv7 => ?_)
      refine wk_g (wn_in (by first | omega | decide) (by first | omega | decide)) ?_
      refine wk_v (fun v9 => ?_)
      refine wk_g (wn_in (by first | omega | decide) (by first | omega | decide)) ?_
      refine wk_v (fun v11 => ?_)
      refine wk_i (fun hc2 => ?_) (fun hc2 => ?_)
      · try simp only [wn_le, wn_lt, wn_eq, wn_0, wn_1, wn_m1, wn_9, wn_8, wn_4, wn_2, wn_100] at hc2
        unfold wf_M_isWorn_95
        unfold wf_M_isWorn_96
        exact tt_M_isWorn_104 (by omega) 16 _ _ _ _ _ _ _ (by assumption) (by first | omega | decide) (by first | omega | decide) (by first | omega | decide) (by first | omega | decide) (by first | omega | decide) (by first | omega | decide) (by first | omega | decide) (by first | omega | decide) (by first | omega | decide) (fun u v w σ hσ e1 e2 e3 => ih _ _ _ _ hσ (by omega) (by omega) (by omega) (by omega) (by omega) (by omega) (by omega) (by omega))
      · try simp only [wn_le, wn_lt, wn_eq, wn_0, wn_1, wn_m1, wn_9, wn_8, wn_4, wn_2, wn_100] at hc2
        refine wk_g (wn_in (by first | omega | decide) (by first | omega | decide)) ?_
        refine wk_r (fun v => 0 ≤ v.toInt ∧ v.toInt ≤ 8) (wB_r (by assumption) (by omega) (by omega)) (fun v40 hv40 => ?_)
        refine wk_g (wn_in (by first | omega | decide) (by first | omega | decide)) ?_
        refine wk_v (fun v42 => ?_)
        refine wk_g (wn_in (by first | omega | decide) (by first | omega | decide)) ?_
        refine wk_v (fun v44 => ?_)
        refine wk_i (fun hc3 => ?_) (fun hc3 => ?_)
        · try simp only [wn_le, wn_lt, wn_eq, wn_0, wn_1, wn_m1, wn_9, wn_8, wn_4, wn_2, wn_100] at hc3
          unfold wf_M_isWorn_95
          unfold wf_M_isWorn_96
          exact tt_M_isWorn_104 (by omega) 16 _ _ _ _ _ _ _ (by assumption) (by first | omega | decide) (by first | omega | decide) (by first | omega | decide) (by first | omega | decide) (by first | omega | decide) (by first | omega | decide) (by first | omega | decide) (by first | omega | decide) (by first | omega | decide) (fun u v w σ hσ e1 e2 e3 => ih _ _ _ _ hσ (by omega) (by omega) (by omega) (by omega) (by omega) (by omega) (by omega) (by omega))
        · try simp only [wn_le, wn_lt, wn_eq, wn_0, wn_1, wn_m1, wn_9, wn_8, wn_4, wn_2, wn_100] at hc3
          unfold wf_M_isWorn_96
          exact tt_M_isWorn_104 (by omega) 16 _ _ _ _ _ _ _ (by assumption) (by first | omega | decide) (by first | omega | decide) (by first | omega | decide) (by first | omega | decide) (by first | omega | decide) (by first | omega | decide) (by first | omega | decide) (by first | omega | decide) (by first | omega | decide) (fun u v w σ hσ e1 e2 e3 => ih _ _ _ _ hσ (by omega) (by omega) (by omega) (by omega) (by omega) (by omega) (by omega) (by omega))
theorem tt_M_isWorn_6 {m : Int} {k1 : Nat} (q0 : k1 = 85 ∨ k1 = 86) : ∀ (n : Nat) (x2 : Int32) (x3 : Int32) (x4 : Int32) (x5 : Int32) (σ : wc_S), wB k1 m σ → 0 ≤ x2.toInt → x2.toInt ≤ x3.toInt + 1 → x3.toInt ≤ 8 → x3.toInt < m → 0 ≤ x3.toInt → 0 ≤ x5.toInt → x5.toInt ≤ x3.toInt + 1 → 9 < x5.toInt + n → wk (wf_M_isWorn_6 k1 n x2 x3 x4 x5 σ) (fun r => wB k1 m r.2) := by
  intro n
  induction n with
  | zero => intro x2 x3 x4 x5 σ hσ c0 c1 c2 c3 c4 c5 c6 c7; omega
  | succ n ih =>
    intro x2 x3 x4 x5 σ hσ c0 c1 c2 c3 c4 c5 c6 c7
    show wk (wf_M_isWorn_6_b k1 (wf_M_isWorn_6 k1 n) x2 x3 x4 x5 σ) _
    unfold wf_M_isWorn_6_b
    refine wk_i (fun hc1 => ?_) (fun hc1 => ?_)
    · try simp only [wn_le, wn_lt, wn_eq, wn_0, wn_1, wn_m1, wn_9, wn_8, wn_4, wn_2, wn_100] at hc1
      refine wk_v (fun v2 => ?_)
      refine wk_i (fun hc2 => ?_) (fun hc2 => ?_)
      · try simp only [wn_le, wn_lt, wn_eq, wn_0, wn_1, wn_m1, wn_9, wn_8, wn_4, wn_2, wn_100] at hc2
        exact tt_M_isWorn_46 (by omega) 16 _ _ _ _ (by assumption) (by first | omega | decide) (by first | omega | decide) (by first | omega | decide) (by first | omega | decide) (by first | omega | decide) (by first | omega | decide) (by first | omega | decide) (by first | omega | decide) 
      · try simp only [wn_le, wn_lt, wn_eq, wn_0, wn_1, wn_m1, wn_9, wn_8, wn_4, wn_2, wn_100] at hc2
        exact wk_s ((show wB k1 m _ from by assumption))
    · try simp only [wn_le, wn_lt, wn_eq, wn_0, wn_1, wn_m1, wn_9, wn_8, wn_4, wn_2, wn_100] at hc1
      refine wk_g (wn_in (by first | omega | decide) (by first | omega | decide)) ?_
      refine wk_r (fun v => 0 ≤ v.toInt ∧ v.toInt ≤ 8) (wB_r (by assumption) (by omega) (by omega)) (fun v47 hv47 => ?_)
      refine wk_g (wn_in (by first | omega | decide) (by first | omega | decide)) ?_
      refine wk_v (fun v49 => ?_)
      refine wk_e (fun v50 ev50 => ?_)
      try (have hv50 : v50.toInt = x4.toInt + v49.toInt := by rw [ev50]; exact wn_add (by omega) (by omega))
      refine wk_e (fun v51 ev51 => ?_)
      try (have hv51 : v51.toInt = x5.toInt + 1 := by rw [ev51]; exact wn_up (by omega) (by omega))
      exact ih _ _ _ _ _ (by assumption) (by omega) (by omega) (by omega) (by omega) (by omega) (by omega) (by omega) (by omega)
theorem tt_M_isWorn {m : Int} {k1 : Nat} {a2 : Int32} {a3 : Int32} {σ : wc_S} (hσ : wB k1 m σ) (q0 : k1 = 85 ∨ k1 = 86) (q1 : 0 ≤ a2.toInt) (q2 : a2.toInt ≤ a3.toInt) (q3 : a3.toInt ≤ 8) (q4 : a3.toInt < m) : wk (wf_M_isWorn k1 a2 a3 σ) (fun r => wB k1 m r.2) := by
  unfold wf_M_isWorn
  exact tt_M_isWorn_6 (by omega) 16 _ _ _ _ _ (by assumption) (by first | omega | decide) (by first | omega | decide) (by first | omega | decide) (by first | omega | decide) (by first | omega | decide) (by first | omega | decide) (by first | omega | decide) (by first | omega | decide) 
theorem tt_M_reckon_20 {m : Int} {k1 : Nat} (q0 : k1 = 85 ∨ k1 = 86) : ∀ (n : Nat) (x2 : Int32) (x3 : Int32) (x4 : Int32) (σ : wc_S), wB k1 m σ → x2.toInt ≤ 9 → x2.toInt ≤ m → 0 ≤ x3.toInt → x3.toInt ≤ x4.toInt → 0 ≤ x4.toInt → x4.toInt ≤ 9 → 9 < x4.toInt + n → wk (wf_M_reckon_20 k1 n x2 x3 x4 σ) (wB k1 m) := by
  intro n
  induction n with
  | zero => intro x2 x3 x4 σ hσ c0 c1 c2 c3 c4 c5 c6; omega
  | succ n ih =>
    intro x2 x3 x4 σ hσ c0 c1 c2 c3 c4 c5 c6
    show wk (wf_M_reckon_20_b k1 (wf_M_reckon_20 k1 n) x2 x3 x4 σ) _
    unfold wf_M_reckon_20_b
    refine wk_i (fun hc1 => ?_) (fun hc1 => ?_)
    · try simp only [wn_le, wn_lt, wn_eq, wn_0, wn_1, wn_m1, wn_9, wn_8, wn_4, wn_2, wn_100] at hc1
      exact wk_s ((show wB k1 m _ from by assumption))
    · try simp only [wn_le, wn_lt, wn_eq, wn_0, wn_1, wn_m1, wn_9, wn_8, wn_4, wn_2, wn_100] at hc1
      refine wk_i (fun hc2 => ?_) (fun hc2 => ?_)
      · try simp only [wn_le, wn_lt, wn_eq, wn_0, wn_1, wn_m1, wn_9, wn_8, wn_4, wn_2, wn_100] at hc2
        unfold wf_M_reckon_52
        unfold wf_M_reckon_53
        refine wk_g (wn_in (by first | omega | decide) (by first | omega | decide)) ?_
        refine wk_wB (wB_u (by assumption) (by omega) (fun hh => u_b hh (by omega) (wn_bb _))) (fun σ7 hσ7 => ?_)
        refine wk_g (wn_in (by first | omega | decide) (by first | omega | decide)) ?_
        refine wk_r (fun v => 0 ≤ v.toInt ∧ v.toInt ≤ 1) (i_b (wB_1 (by assumption)) (by omega)) (fun v9 hv9 => ?_)
        refine wk_i (fun hc3 => ?_) (fun hc3 => ?_)
        · try simp only [wn_le, wn_lt, wn_eq, wn_0, wn_1, wn_m1, wn_9, wn_8, wn_4, wn_2, wn_100] at hc3
          unfold wf_M_reckon_90
          refine wk_i (fun hc4 => ?_) (fun hc4 => ?_)
          · try simp only [wn_le, wn_lt, wn_eq, wn_0, wn_1, wn_m1, wn_9, wn_8, wn_4, wn_2, wn_100] at hc4
            unfold wf_M_reckon_118
            refine wk_g (wn_in (by first | omega | decide) (by first | omega | decide)) ?_
            refine wk_r (fun v => 0 ≤ v.toInt ∧ v.toInt ≤ 8) (wB_r (by assumption) (by omega) (by omega)) (fun v13 hv13 => ?_)
            refine wk_g (wn_in (by first | omega | decide) (by first | omega | decide)) ?_
            refine wk_v (fun v15 => ?_)
            refine wk_i (fun hc5 => ?_) (fun hc5 => ?_)
            · try simp only [wn_le, wn_lt, wn_eq, wn_0, wn_1, wn_m1, wn_9, wn_8, wn_4, wn_2, wn_100] at hc5
              unfold wf_M_reckon_167
              refine wk_e (fun v17 ev17 => ?_)
              try (have hv17 : v17.toInt = x4.toInt + 1 := by rw [ev17]; exact wn_up (by omega) (by omega))
              exact ih _ _ _ _ (by assumption) (by omega) (by omega) (by omega) (by omega) (by omega) (by omega) (by omega)
            · try simp only [wn_le, wn_lt, wn_eq, wn_0, wn_1, wn_m1, wn_9, wn_8, wn_4, wn_2, wn_100] at hc5
              refine wk_g (wn_in (by first | omega | decide) (by first | omega | decide)) ?_
              refine wk_r (fun v => 0 ≤ v.toInt ∧ v.toInt ≤ 8) (wB_r (by assumption) (by omega) (by omega)) (fun v19 hv19 => ?_)
              refine wk_g (wn_in (by first | omega | decide) (by first | omega | decide)) ?_
              refine wk_v (fun v21 => ?_)
              refine wk_i (fun hc6 => ?_) (fun hc6 => ?_)
              · try simp only [wn_le, wn_lt, wn_eq, wn_0, wn_1, wn_m1, wn_9, wn_8, wn_4, wn_2, wn_100] at hc6
                unfold wf_M_reckon_167
                refine wk_e (fun v17 ev17 => ?_)
                try (have hv17 : v17.toInt = x4.toInt + 1 := by rw [ev17]; exact wn_up (by omega) (by omega))
                exact ih _ _ _ _ (by assumption) (by omega) (by omega) (by omega) (by omega) (by omega) (by omega) (by omega)
              · try simp only [wn_le, wn_lt, wn_eq, wn_0, wn_1, wn_m1, wn_9, wn_8, wn_4, wn_2, wn_100] at hc6
                refine wk_v (fun v23 => ?_)
                refine wk_e (fun v24 ev24 => ?_)
                try (have hv24 : v24.toInt = v23.toInt + 1 := by rw [ev24]; exact wn_up (by omega) (by omega))
                refine wk_wB (wB_u (by assumption) (by omega) (fun hh => u_71 hh (by decide) (by decide))) (fun σ25 hσ25 => ?_)
                refine wk_v (fun v26 => ?_)
                refine wk_v (fun v27 => ?_)
                refine wk_e (fun v28 ev28 => ?_)
                try (have hv28 : v28.toInt = v26.toInt + v27.toInt := by rw [ev28]; exact wn_add (by omega) (by omega))
                refine wk_wB (wB_u (by assumption) (by omega) (fun hh => u_71 hh (by decide) (by decide))) (fun σ29 hσ29 => ?_)
                unfold wf_M_reckon_167
                refine wk_e (fun v17 ev17 => ?_)
                try (have hv17 : v17.toInt = x4.toInt + 1 := by rw [ev17]; exact wn_up (by omega) (by omega))
                exact ih _ _ _ _ (by assumption) (by omega) (by omega) (by omega) (by omega) (by omega) (by omega) (by omega)
          · try simp only [wn_le, wn_lt, wn_eq, wn_0, wn_1, wn_m1, wn_9, wn_8, wn_4, wn_2, wn_100] at hc4
            refine wk_v (fun v30 => ?_)
            refine wk_e (fun v31 ev31 => ?_)
            try (have hv31 : v31.toInt = x4.toInt - 1 := by rw [ev31]; exact wn_dn (by omega) (by omega))
            refine wk_g (wn_in (by first | omega | decide) (by first | omega | decide)) ?_
            refine wk_r (fun v => 0 ≤ v.toInt ∧ v.toInt ≤ 8) (wB_r (by assumption) (by omega) (by omega)) (fun v33 hv33 => ?_)
            refine wk_g (wn_in (by first | omega | decide) (by first | omega | decide)) ?_
            refine wk_r (fun v => 0 ≤ v.toInt ∧ v.toInt ≤ 8) (wB_r (by assumption) (by omega) (by omega)) (fun v35 hv35 => ?_)
            refine wk_b2 (tB_M_jumpOf (by assumption) (by omega) (by omega) (by omega) (by omega)) (fun r37 σ36 hr7 => ?_)
            have hσ36 : wB _ _ σ36 := hr7
            refine wk_e (fun v38 ev38 => ?_)
            try (have hv38 : v38.toInt = v30.toInt + r37.toInt := by rw [ev38]; exact wn_add (by omega) (by omega))
            refine wk_wB (wB_u (by assumption) (by omega) (fun hh => u_71 hh (by decide) (by decide))) (fun σ39 hσ39 => ?_)
            unfold wf_M_reckon_118
            refine wk_g (wn_in (by first | omega | decide) (by first | omega | decide)) ?_
            refine wk_r (fun v => 0 ≤ v.toInt ∧ v.toInt ≤ 8) (wB_r (by assumption) (by omega) (by omega)) (fun v13 hv13 => ?_)
            refine wk_g (wn_in (by first | omega | decide) (by first | omega | decide)) ?_
            refine wk_v (fun v15 => ?_)
            refine wk_i (fun hc8 => ?_) (fun hc8 => ?_)
            · try simp only [wn_le, wn_lt, wn_eq, wn_0, wn_1, wn_m1, wn_9, wn_8, wn_4, wn_2, wn_100] at hc8
              unfold wf_M_reckon_167
              refine wk_e (fun v17 ev17 => ?_)
              try (have hv17 : v17.toInt = x4.toInt + 1 := by rw [ev17]; exact wn_up (by omega) (by omega))
              exact ih _ _ _ _ (by assumption) (by omega) (by omega) (by omega) (by omega) (by omega) (by omega) (by omega)
            · try simp only [wn_le, wn_lt, wn_eq, wn_0, wn_1, wn_m1, wn_9, wn_8, wn_4, wn_2, wn_100] at hc8
              refine wk_g (wn_in (by first | omega | decide) (by first | omega | decide)) ?_
              refine wk_r (fun v => 0 ≤ v.toInt ∧ v.toInt ≤ 8) (wB_r (by assumption) (by omega) (by omega)) (fun v19 hv19 => ?_)
              refine wk_g (wn_in (by first | omega | decide) (by first | omega | decide)) ?_
              refine wk_v (fun v21 => ?_)
              refine wk_i (fun hc9 => ?_) (fun hc9 => ?_)
              · try simp only [wn_le, wn_lt, wn_eq, wn_0, wn_1, wn_m1, wn_9, wn_8, wn_4, wn_2, wn_100] at hc9
                unfold wf_M_reckon_167
                refine wk_e (fun v17 ev17 => ?_)
                try (have hv17 : v17.toInt = x4.toInt + 1 := by rw [ev17]; exact wn_up (by omega) (by omega))
                exact ih _ _ _ _ (by assumption) (by omega) (by omega) (by omega) (by omega) (by omega) (by omega) (by omega)
              · try simp only [wn_le, wn_lt, wn_eq, wn_0, wn_1, wn_m1, wn_9, wn_8, wn_4, wn_2, wn_100] at hc9
                refine wk_v (fun v23 => ?_)
                refine wk_e (fun v24 ev24 => ?_)
                try (have hv24 : v24.toInt = v23.toInt + 1 := by rw [ev24]; exact wn_up (by omega) (by omega))
                refine wk_wB (wB_u (by assumption) (by omega) (fun hh => u_71 hh (by decide) (by decide))) (fun σ25 hσ25 => ?_)
                refine wk_v (fun v26 => ?_)
                refine wk_v (fun v27 => ?_)
                refine wk_e (fun v28 ev28 => ?_)
                try (have hv28 : v28.toInt = v26.toInt + v27.toInt := by rw [ev28]; exact wn_add (by omega) (by omega))
                refine wk_wB (wB_u (by assumption) (by omega) (fun hh => u_71 hh (by decide) (by decide))) (fun σ29 hσ29 => ?_)
                unfold wf_M_reckon_167
                refine wk_e (fun v17 ev17 => ?_)
                try (have hv17 : v17.toInt = x4.toInt + 1 := by rw [ev17]; exact wn_up (by omega) (by omega))
                exact ih _ _ _ _ (by assumption) (by omega) (by omega) (by omega) (by omega) (by omega) (by omega) (by omega)
        · try simp only [wn_le, wn_lt, wn_eq, wn_0, wn_1, wn_m1, wn_9, wn_8, wn_4, wn_2, wn_100] at hc3
          refine wk_v (fun v40 => ?_)
          refine wk_e (fun v41 ev41 => ?_)
          try (have hv41 : v41.toInt = v40.toInt + 1 := by rw [ev41]; exact wn_up (by omega) (by omega))
          refine wk_wB (wB_u (by assumption) (by omega) (fun hh => u_71 hh (by decide) (by decide))) (fun σ42 hσ42 => ?_)
          refine wk_v (fun v43 => ?_)
          refine wk_v (fun v44 => ?_)
          refine wk_e (fun v45 ev45 => ?_)
          try (have hv45 : v45.toInt = v43.toInt + v44.toInt := by rw [ev45]; exact wn_add (by omega) (by omega))
          refine wk_wB (wB_u (by assumption) (by omega) (fun hh => u_71 hh (by decide) (by decide))) (fun σ46 hσ46 => ?_)
          unfold wf_M_reckon_90
          refine wk_i (fun hc10 => ?_) (fun hc10 => ?_)
          · try simp only [wn_le, wn_lt, wn_eq, wn_0, wn_1, wn_m1, wn_9, wn_8, wn_4, wn_2, wn_100] at hc10
            unfold wf_M_reckon_118
            refine wk_g (wn_in (by first | omega | decide) (by first | omega | decide)) ?_
            refine wk_r (fun v => 0 ≤ v.toInt ∧ v.toInt ≤ 8) (wB_r (by assumption) (by omega) (by omega)) (fun v13 hv13 => ?_)
            refine wk_g (wn_in (by first | omega | decide) (by first | omega | decide)) ?_
            refine wk_v (fun v15 => ?_)
            refine wk_i (fun hc11 => ?_) (fun hc11 => ?_)
            · try simp only [wn_le, wn_lt, wn_eq, wn_0, wn_1, wn_m1, wn_9, wn_8, wn_4, wn_2, wn_100] at hc11
              unfold wf_M_reckon_167
              refine wk_e (fun v17 ev17 => ?_)
              try (have hv17 : v17.toInt = x4.toInt + 1 := by rw [ev17]; exact wn_up (by omega) (by omega))
              exact ih _ _ _ _ (by assumption) (by omega) (by omega) (by omega) (by omega) (by omega) (by omega) (by omega)
            · try simp only [wn_le, wn_lt, wn_eq, wn_0, wn_1, wn_m1, wn_9, wn_8, wn_4, wn_2, wn_100] at hc11
              refine wk_g (wn_in (by first | omega | decide) (by first | omega | decide)) ?_
              refine wk_r (fun v => 0 ≤ v.toInt ∧ v.toInt ≤ 8) (wB_r (by assumption) (by omega) (by omega)) (fun v19 hv19 => ?_)
              refine wk_g (wn_in (by first | omega | decide) (by first | omega | decide)) ?_
              refine wk_v (fun v21 => ?_)
              refine wk_i (fun hc12 => ?_) (fun hc12 => ?_)
              · try simp only [wn_le, wn_lt, wn_eq, wn_0, wn_1, wn_m1, wn_9, wn_8, wn_4, wn_2, wn_100] at hc12
                unfold wf_M_reckon_167
                refine wk_e (fun v17 ev17 => ?_)
                try (have hv17 : v17.toInt = x4.toInt + 1 := by rw [ev17]; exact wn_up (by omega) (by omega))
                exact ih _ _ _ _ (by assumption) (by omega) (by omega) (by omega) (by omega) (by omega) (by omega) (by omega)
              · try simp only [wn_le, wn_lt, wn_eq, wn_0, wn_1, wn_m1, wn_9, wn_8, wn_4, wn_2, wn_100] at hc12
                refine wk_v (fun v23 => ?_)
                refine wk_e (fun v24 ev24 => ?_)
                try (have hv24 : v24.toInt = v23.toInt + 1 := by rw [ev24]; exact wn_up (by omega) (by omega))
                refine wk_wB (wB_u (by assumption) (by omega) (fun hh => u_71 hh (by decide) (by decide))) (fun σ25 hσ25 => ?_)
                refine wk_v (fun v26 => ?_)
                refine wk_v (fun v27 => ?_)
                refine wk_e (fun v28 ev28 => ?_)
                try (have hv28 : v28.toInt = v26.toInt + v27.toInt := by rw [ev28]; exact wn_add (by omega) (by omega))
                refine wk_wB (wB_u (by assumption) (by omega) (fun hh => u_71 hh (by decide) (by decide))) (fun σ29 hσ29 => ?_)
                unfold wf_M_reckon_167
                refine wk_e (fun v17 ev17 => ?_)
                try (have hv17 : v17.toInt = x4.toInt + 1 := by rw [ev17]; exact wn_up (by omega) (by omega))
                exact ih _ _ _ _ (by assumption) (by omega) (by omega) (by omega) (by omega) (by omega) (by omega) (by omega)
          · try simp only [wn_le, wn_lt, wn_eq, wn_0, wn_1, wn_m1, wn_9, wn_8, wn_4, wn_2, wn_100] at hc10
            refine wk_v (fun v30 => ?_)
            refine wk_e (fun v31 ev31 => ?_)
            try (have hv31 : v31.toInt = x4.toInt - 1 := by rw [ev31]; exact wn_dn (by omega) (by omega))
            refine wk_g (wn_in (by first | omega | decide) (by first | omega | decide)) ?_
            refine wk_r (fun v => 0 ≤ v.toInt ∧ v.toInt ≤ 8) (wB_r (by assumption) (by omega) (by omega)) (fun v33 hv33 => ?_)
            refine wk_g (wn_in (by first | omega | decide) (by first | omega | decide)) ?_
            refine wk_r (fun v => 0 ≤ v.toInt ∧ v.toInt ≤ 8) (wB_r (by assumption) (by omega) (by omega)) (fun v35 hv35 => ?_)
            refine wk_b2 (tB_M_jumpOf (by assumption) (by omega) (by omega) (by omega) (by omega)) (fun r37 σ36 hr13 => ?_)
            have hσ36 : wB _ _ σ36 := hr13
            refine wk_e (fun v38 ev38 => ?_)
            try (have hv38 : v38.toInt = v30.toInt + r37.toInt := by rw [ev38]; exact wn_add (by omega) (by omega))
            refine wk_wB (wB_u (by assumption) (by omega) (fun hh => u_71 hh (by decide) (by decide))) (fun σ39 hσ39 => ?_)
            unfold wf_M_reckon_118
            refine wk_g (wn_in (by first | omega | decide) (by first | omega | decide)) ?_
            refine wk_r (fun v => 0 ≤ v.toInt ∧ v.toInt ≤ 8) (wB_r (by assumption) (by omega) (by omega)) (fun v13 hv13 => ?_)
            refine wk_g (wn_in (by first | omega | decide) (by first | omega | decide)) ?_
            refine wk_v (fun v15 => ?_)
            refine wk_i (fun hc14 => ?_) (fun hc14 => ?_)
            · try simp only [wn_le, wn_lt, wn_eq, wn_0, wn_1, wn_m1, wn_9, wn_8, wn_4, wn_2, wn_100] at hc14
              unfold wf_M_reckon_167
              refine wk_e (fun v17 ev17 => ?_)
              try (have hv17 : v17.toInt = x4.toInt + 1 := by rw [ev17]; exact wn_up (by omega) (by omega))
              exact ih _ _ _ _ (by assumption) (by omega) (by omega) (by omega) (by omega) (by omega) (by omega) (by omega)
            · try simp only [wn_le, wn_lt, wn_eq, wn_0, wn_1, wn_m1, wn_9, wn_8, wn_4, wn_2, wn_100] at hc14
              refine wk_g (wn_in (by first | omega | decide) (by first | omega | decide)) ?_
              refine wk_r (fun v => 0 ≤ v.toInt ∧ v.toInt ≤ 8) (wB_r (by assumption) (by omega) (by omega)) (fun v19 hv19 => ?_)
              refine wk_g (wn_in (by first | omega | decide) (by first | omega | decide)) ?_
              refine wk_v (fun v21 => ?_)
              refine wk_i (fun hc15 => ?_) (fun hc15 => ?_)
              · try simp only [wn_le, wn_lt, wn_eq, wn_0, wn_1, wn_m1, wn_9, wn_8, wn_4, wn_2, wn_100] at hc15
                unfold wf_M_reckon_167
                refine wk_e (fun v17 ev17 => ?_)
                try (have hv17 : v17.toInt = x4.toInt + 1 := by rw [ev17]; exact wn_up (by omega) (by omega))
                exact ih _ _ _ _ (by assumption) (by omega) (by omega) (by omega) (by omega) (by omega) (by omega) (by omega)
              · try simp only [wn_le, wn_lt, wn_eq, wn_0, wn_1, wn_m1, wn_9, wn_8, wn_4, wn_2, wn_100] at hc15
                refine wk_v (fun v23 => ?_)
                refine wk_e (fun v24 ev24 => ?_)
                try (have hv24 : v24.toInt = v23.toInt + 1 := by rw [ev24]; exact wn_up (by omega) (by omega))
                refine wk_wB (wB_u (by assumption) (by omega) (fun hh => u_71 hh (by decide) (by decide))) (fun σ25 hσ25 => ?_)
                refine wk_v (fun v26 => ?_)
                refine wk_v (fun v27 => ?_)
                refine wk_e (fun v28 ev28 => ?_)
                try (have hv28 : v28.toInt = v26.toInt + v27.toInt := by rw [ev28]; exact wn_add (by omega) (by omega))
                refine wk_wB (wB_u (by assumption) (by omega) (fun hh => u_71 hh (by decide) (by decide))) (fun σ29 hσ29 => ?_)
                unfold wf_M_reckon_167
                refine wk_e (fun v17 ev17 => ?_)
                try (have hv17 : v17.toInt = x4.toInt + 1 := by rw [ev17]; exact wn_up (by omega) (by omega))
                exact ih _ _ _ _ (by assumption) (by omega) (by omega) (by omega) (by omega) (by omega) (by omega) (by omega)
      · try simp only [wn_le, wn_lt, wn_eq, wn_0, wn_1, wn_m1, wn_9, wn_8, wn_4, wn_2, wn_100] at hc2
        refine wk_b2 (tt_M_isWorn (by assumption) (by first | omega | decide) (by first | omega | decide) (by first | omega | decide) (by first | omega | decide) (by first | omega | decide)) (fun r48 σ47 hr16 => ?_)
        have hσ47 : wB _ _ σ47 := hr16
        refine wk_i (fun hc17 => ?_) (fun hc17 => ?_)
        · try simp only [wn_le, wn_lt, wn_eq, wn_0, wn_1, wn_m1, wn_9, wn_8, wn_4, wn_2, wn_100] at hc17
          unfold wf_M_reckon_52
          unfold wf_M_reckon_53
          refine wk_g (wn_in (by first | omega | decide) (by first | omega | decide)) ?_
          refine wk_wB (wB_u (by assumption) (by omega) (fun hh => u_b hh (by omega) (wn_bb _))) (fun σ7 hσ7 => ?_)
          refine wk_g (wn_in (by first | omega | decide) (by first | omega | decide)) ?_
          refine wk_r (fun v => 0 ≤ v.toInt ∧ v.toInt ≤ 1) (i_b (wB_1 (by assumption)) (by omega)) (fun v9 hv9 => ?_)
          refine wk_i (fun hc18 => ?_) (fun hc18 => ?_)
          · try simp only [wn_le, wn_lt, wn_eq, wn_0, wn_1, wn_m1, wn_9, wn_8, wn_4, wn_2, wn_100] at hc18
            unfold wf_M_reckon_90
            refine wk_i (fun hc19 => ?_) (fun hc19 => ?_)
            · try simp only [wn_le, wn_lt, wn_eq, wn_0, wn_1, wn_m1, wn_9, wn_8, wn_4, wn_2, wn_100] at hc19
              unfold wf_M_reckon_118
              refine wk_g (wn_in (by first | omega | decide) (by first | omega | decide)) ?_
              refine wk_r (fun v => 0 ≤ v.toInt ∧ v.toInt ≤ 8) (wB_r (by assumption) (by omega) (by omega)) (fun v13 hv13 => ?_)
              refine wk_g (wn_in (by first | omega | decide) (by first | omega | decide)) ?_
              refine wk_v (fun v15 => ?_)
              refine wk_i (fun hc20 => ?_) (fun hc20 => ?_)
              · try simp only [wn_le, wn_lt, wn_eq, wn_0, wn_1, wn_m1, wn_9, wn_8, wn_4, wn_2, wn_100] at hc20
                unfold wf_M_reckon_167
                refine wk_e (fun v17 ev17 => ?_)
                try (have hv17 : v17.toInt = x4.toInt + 1 := by rw [ev17]; exact wn_up (by omega) (by omega))
                exact ih _ _ _ _ (by assumption) (by omega) (by omega) (by omega) (by omega) (by omega) (by omega) (by omega)
              · try simp only [wn_le, wn_lt, wn_eq, wn_0, wn_1, wn_m1, wn_9, wn_8, wn_4, wn_2, wn_100] at hc20
                refine wk_g (wn_in (by first | omega | decide) (by first | omega | decide)) ?_
                refine wk_r (fun v => 0 ≤ v.toInt ∧ v.toInt ≤ 8) (wB_r (by assumption) (by omega) (by omega)) (fun v19 hv19 => ?_)
                refine wk_g (wn_in (by first | omega | decide) (by first | omega | decide)) ?_
                refine wk_v (fun v21 => ?_)
                refine wk_i (fun hc21 => ?_) (fun hc21 => ?_)
                · try simp only [wn_le, wn_lt, wn_eq, wn_0, wn_1, wn_m1, wn_9, wn_8, wn_4, wn_2, wn_100] at hc21
                  unfold wf_M_reckon_167
                  refine wk_e (fun v17 ev17 => ?_)
                  try (have hv17 : v17.toInt = x4.toInt + 1 := by rw [ev17]; exact wn_up (by omega) (by omega))
                  exact ih _ _ _ _ (by assumption) (by omega) (by omega) (by omega) (by omega) (by omega) (by omega) (by omega)
                · try simp only [wn_le, wn_lt, wn_eq, wn_0, wn_1, wn_m1, wn_9, wn_8, wn_4, wn_2, wn_100] at hc21
                  refine wk_v (fun v23 => ?_)
                  refine wk_e (fun v24 ev24 => ?_)
                  try (have hv24 : v24.toInt = v23.toInt + 1 := by rw [ev24]; exact wn_up (by omega) (by omega))
                  refine wk_wB (wB_u (by assumption) (by omega) (fun hh => u_71 hh (by decide) (by decide))) (fun σ25 hσ25 => ?_)
                  refine wk_v (fun v26 => ?_)
                  refine wk_v (fun v27 => ?_)
                  refine wk_e (fun v28 ev28 => ?_)
                  try (have hv28 : v28.toInt = v26.toInt + v27.toInt := by rw [ev28]; exact wn_add (by omega) (by omega))
                  refine wk_wB (wB_u (by assumption) (by omega) (fun hh => u_71 hh (by decide) (by decide))) (fun σ29 hσ29 => ?_)
                  unfold wf_M_reckon_167
                  refine wk_e (fun v17 ev17 => ?_)
                  try (have hv17 : v17.toInt = x4.toInt + 1 := by rw [ev17]; exact wn_up (by omega) (by omega))
                  exact ih _ _ _ _ (by assumption) (by omega) (by omega) (by omega) (by omega) (by omega) (by omega) (by omega)
            · try simp only [wn_le, wn_lt, wn_eq, wn_0, wn_1, wn_m1, wn_9, wn_8, wn_4, wn_2, wn_100] at hc19
              refine wk_v (fun v30 => ?_)
              refine wk_e (fun v31 ev31 => ?_)
              try (have hv31 : v31.toInt = x4.toInt - 1 := by rw [ev31]; exact wn_dn (by omega) (by omega))
              refine wk_g (wn_in (by first | omega | decide) (by first | omega | decide)) ?_
              refine wk_r (fun v => 0 ≤ v.toInt ∧ v.toInt ≤ 8) (wB_r (by assumption) (by omega) (by omega)) (fun v33 hv33 => ?_)
              refine wk_g (wn_in (by first | omega | decide) (by first | omega | decide)) ?_
              refine wk_r (fun v => 0 ≤ v.toInt ∧ v.toInt ≤ 8) (wB_r (by assumption) (by omega) (by omega)) (fun v35 hv35 => ?_)
              refine wk_b2 (tB_M_jumpOf (by assumption) (by omega) (by omega) (by omega) (by omega)) (fun r37 σ36 hr22 => ?_)
              have hσ36 : wB _ _ σ36 := hr22
              refine wk_e (fun v38 ev38 => ?_)
              try (have hv38 : v38.toInt = v30.toInt + r37.toInt := by rw [ev38]; exact wn_add (by omega) (by omega))
              refine wk_wB (wB_u (by assumption) (by omega) (fun hh => u_71 hh (by decide) (by decide))) (fun σ39 hσ39 => ?_)
              unfold wf_M_reckon_118
              refine wk_g (wn_in (by first | omega | decide) (by first | omega | decide)) ?_
              refine wk_r (fun v => 0 ≤ v.toInt ∧ v.toInt ≤ 8) (wB_r (by assumption) (by omega) (by omega)) (fun v13 hv13 => ?_)
              refine wk_g (wn_in (by first | omega | decide) (by first | omega | decide)) ?_
              refine wk_v (fun v15 => ?_)
              refine wk_i (fun hc23 => ?_) (fun hc23 => ?_)
              · try simp only [wn_le, wn_lt, wn_eq, wn_0, wn_1, wn_m1, wn_9, wn_8, wn_4, wn_2, wn_100] at hc23
                unfold wf_M_reckon_167
                refine wk_e (fun v17 ev17 => ?_)
                try (have hv17 : v17.toInt = x4.toInt + 1 := by rw [ev17]; exact wn_up (by omega) (by omega))
                exact ih _ _ _ _ (by assumption) (by omega) (by omega) (by omega) (by omega) (by omega) (by omega) (by omega)
              · try simp only [wn_le, wn_lt, wn_eq, wn_0, wn_1, wn_m1, wn_9, wn_8, wn_4, wn_2, wn_100] at hc23
                refine wk_g (wn_in (by first | omega | decide) (by first | omega | decide)) ?_
                refine wk_r (fun v => 0 ≤ v.toInt ∧ v.toInt ≤ 8) (wB_r (by assumption) (by omega) (by omega)) (fun v19 hv19 => ?_)
                refine wk_g (wn_in (by first | omega | decide) (by first | omega | decide)) ?_
                refine wk_v (fun v21 => ?_)
                refine wk_i (fun hc24 => ?_) (fun hc24 => ?_)
                · try simp only [wn_le, wn_lt, wn_eq, wn_0, wn_1, wn_m1, wn_9, wn_8, wn_4, wn_2, wn_100] at hc24
                  unfold wf_M_reckon_167
                  refine wk_e (fun v17 ev17 => ?_)
                  try (have hv17 : v17.toInt = x4.toInt + 1 := by rw [ev17]; exact wn_up (by omega) (by omega))
                  exact ih _ _ _ _ (by assumption) (by omega) (by omega) (by omega) (by omega) (by omega) (by omega) (by omega)
                · try simp only [wn_le, wn_lt, wn_eq, wn_0, wn_1, wn_m1, wn_9, wn_8, wn_4, wn_2, wn_100] at hc24
                  refine wk_v (fun v23 => ?_)
                  refine wk_e (fun v24 ev24 => ?_)
                  try (have hv24 : v24.toInt = v23.toInt + 1 := by rw [ev24]; exact wn_up (by omega) (by omega))
                  refine wk_wB (wB_u (by assumption) (by omega) (fun hh => u_71 hh (by decide) (by decide))) (fun σ25 hσ25 => ?_)
                  refine wk_v (fun v26 => ?_)
                  refine wk_v (fun v27 => ?_)
                  refine wk_e (fun v28 ev28 => ?_)
                  try (have hv28 : v28.toInt = v26.toInt + v27.toInt := by rw [ev28]; exact wn_add (by omega) (by omega))
                  refine wk_wB (wB_u (by assumption) (by omega) (fun hh => u_71 hh (by decide) (by decide))) (fun σ29 hσ29 => ?_)
                  unfold wf_M_reckon_167
                  refine wk_e (fun v17 ev17 => ?_)
                  try (have hv17 : v17.toInt = x4.toInt + 1 := by rw [ev17]; exact wn_up (by omega) (by omega))
                  exact ih _ _ _ _ (by assumption) (by omega) (by omega) (by omega) (by omega) (by omega) (by omega) (by omega)
          · try simp only [wn_le, wn_lt, wn_eq, wn_0, wn_1, wn_m1, wn_9, wn_8, wn_4, wn_2, wn_100] at hc18
            refine wk_v (fun v40 => ?_)
            refine wk_e (fun v41 ev41 => ?_)
            try (have hv41 : v41.toInt = v40.toInt + 1 := by rw [ev41]; exact wn_up (by omega) (by omega))
            refine wk_wB (wB_u (by assumption) (by omega) (fun hh => u_71 hh (by decide) (by decide))) (fun σ42 hσ42 => ?_)
            refine wk_v (fun v43 => ?_)
            refine wk_v (fun v44 => ?_)
            refine wk_e (fun v45 ev45 => ?_)
            try (have hv45 : v45.toInt = v43.toInt + v44.toInt := by rw [ev45]; exact wn_add (by omega) (by omega))
            refine wk_wB (wB_u (by assumption) (by omega) (fun hh => u_71 hh (by decide) (by decide))) (fun σ46 hσ46 => ?_)
            unfold wf_M_reckon_90
            refine wk_i (fun hc25 => ?_) (fun hc25 => ?_)
            · try simp only [wn_le, wn_lt, wn_eq, wn_0, wn_1, wn_m1, wn_9, wn_8, wn_4, wn_2, wn_100] at hc25
              unfold wf_M_reckon_118
              refine wk_g (wn_in (by first | omega | decide) (by first | omega | decide)) ?_
              refine wk_r (fun v => 0 ≤ v.toInt ∧ v.toInt ≤ 8) (wB_r (by assumption) (by omega) (by omega)) (fun v13 hv13 => ?_)
              refine wk_g (wn_in (by first | omega | decide) (by first | omega | decide)) ?_
              refine wk_v (fun v15 => ?_)
              refine wk_i (fun hc26 => ?_) (fun hc26 => ?_)
              · try simp only [wn_le, wn_lt, wn_eq, wn_0, wn_1, wn_m1, wn_9, wn_8, wn_4, wn_2, wn_100] at hc26
                unfold wf_M_reckon_167
                refine wk_e (fun v17 ev17 => ?_)
                try (have hv17 : v17.toInt = x4.toInt + 1 := by rw [ev17]; exact wn_up (by omega) (by omega))
                exact ih _ _ _ _ (by assumption) (by omega) (by omega) (by omega) (by omega) (by omega) (by omega) (by omega)
              · try simp only [wn_le, wn_lt, wn_eq, wn_0, wn_1, wn_m1, wn_9, wn_8, wn_4, wn_2, wn_100] at hc26
                refine wk_g (wn_in (by first | omega | decide) (by first | omega | decide)) ?_
                refine wk_r (fun v => 0 ≤ v.toInt ∧ v.toInt ≤ 8) (wB_r (by assumption) (by omega) (by omega)) (fun v19 hv19 => ?_)
                refine wk_g (wn_in (by first | omega | decide) (by first | omega | decide)) ?_
                refine wk_v (fun v21 => ?_)
                refine wk_i (fun hc27 => ?_) (fun hc27 => ?_)
                · try simp only [wn_le, wn_lt, wn_eq, wn_0, wn_1, wn_m1, wn_9, wn_8, wn_4, wn_2, wn_100] at hc27
                  unfold wf_M_reckon_167
                  refine wk_e (fun v17 ev17 => ?_)
                  try (have hv17 : v17.toInt = x4.toInt + 1 := by rw [ev17]; exact wn_up (by omega) (by omega))
                  exact ih _ _ _ _ (by assumption) (by omega) (by omega) (by omega) (by omega) (by omega) (by omega) (by omega)
                · try simp only [wn_le, wn_lt, wn_eq, wn_0, wn_1, wn_m1, wn_9, wn_8, wn_4, wn_2, wn_100] at hc27
                  refine wk_v (fun v23 => ?_)
                  refine wk_e (fun v24 ev24 => ?_)
                  try (have hv24 : v24.toInt = v23.toInt + 1 := by rw [ev24]; exact wn_up (by omega) (by omega))
                  refine wk_wB (wB_u (by assumption) (by omega) (fun hh => u_71 hh (by decide) (by decide))) (fun σ25 hσ25 => ?_)
                  refine wk_v (fun v26 => ?_)
                  refine wk_v (fun v27 => ?_)
                  refine wk_e (fun v28 ev28 => ?_)
                  try (have hv28 : v28.toInt = v26.toInt + v27.toInt := by rw [ev28]; exact wn_add (by omega) (by omega))
                  refine wk_wB (wB_u (by assumption) (by omega) (fun hh => u_71 hh (by decide) (by decide))) (fun σ29 hσ29 => ?_)
                  unfold wf_M_reckon_167
                  refine wk_e (fun v17 ev17 => ?_)
                  try (have hv17 : v17.toInt = x4.toInt + 1 := by rw [ev17]; exact wn_up (by omega) (by omega))
                  exact ih _ _ _ _ (by assumption) (by omega) (by omega) (by omega) (by omega) (by omega) (by omega) (by omega)
            · try simp only [wn_le, wn_lt, wn_eq, wn_0, wn_1, wn_m1, wn_9, wn_8, wn_4, wn_2, wn_100] at hc25
              refine wk_v (fun v30 => ?_)
              refine wk_e (fun v31 ev31 => ?_)
              try (have hv31 : v31.toInt = x4.toInt - 1 := by rw [ev31]; exact wn_dn (by omega) (by omega))
              refine wk_g (wn_in (by first | omega | decide) (by first | omega | decide)) ?_
              refine wk_r (fun v => 0 ≤ v.toInt ∧ v.toInt ≤ 8) (wB_r (by assumption) (by omega) (by omega)) (fun v33 hv33 => ?_)
              refine wk_g (wn_in (by first | omega | decide) (by first | omega | decide)) ?_
              refine wk_r (fun v => 0 ≤ v.toInt ∧ v.toInt ≤ 8) (wB_r (by assumption) (by omega) (by omega)) (fun v35 hv35 => ?_)
              refine wk_b2 (tB_M_jumpOf (by assumption) (by omega) (by omega) (by omega) (by omega)) (fun r37 σ36 hr28 => ?_)
              have hσ36 : wB _ _ σ36 := hr28
              refine wk_e (fun v38 ev38 => ?_)
              try (have hv38 : v38.toInt = v30.toInt + r37.toInt := by rw [ev38]; exact wn_add (by omega) (by omega))
              refine wk_wB (wB_u (by assumption) (by omega) (fun hh => u_71 hh (by decide) (by decide))) (fun σ39 hσ39 => ?_)
              unfold wf_M_reckon_118
              refine wk_g (wn_in (by first | omega | decide) (by first | omega | decide)) ?_
              refine wk_r (fun v => 0 ≤ v.toInt ∧ v.toInt ≤ 8) (wB_r (by assumption) (by omega) (by omega)) (fun v13 hv13 => ?_)
              refine wk_g (wn_in (by first | omega | decide) (by first | omega | decide)) ?_
              refine wk_v (fun v15 => ?_)
              refine wk_i (fun hc29 => ?_) (fun hc29 => ?_)
              · try simp only [wn_le, wn_lt, wn_eq, wn_0, wn_1, wn_m1, wn_9, wn_8, wn_4, wn_2, wn_100] at hc29
                unfold wf_M_reckon_167
                refine wk_e (fun v17 ev17 => ?_)
                try (have hv17 : v17.toInt = x4.toInt + 1 := by rw [ev17]; exact wn_up (by omega) (by omega))
                exact ih _ _ _ _ (by assumption) (by omega) (by omega) (by omega) (by omega) (by omega) (by omega) (by omega)
              · try simp only [wn_le, wn_lt, wn_eq, wn_0, wn_1, wn_m1, wn_9, wn_8, wn_4, wn_2, wn_100] at hc29
                refine wk_g (wn_in (by first | omega | decide) (by first | omega | decide)) ?_
                refine wk_r (fun v => 0 ≤ v.toInt ∧ v.toInt ≤ 8) (wB_r (by assumption) (by omega) (by omega)) (fun v19 hv19 => ?_)
                refine wk_g (wn_in (by first | omega | decide) (by first | omega | decide)) ?_
                refine wk_v (fun v21 => ?_)
                refine wk_i (fun hc30 => ?_) (fun hc30 => ?_)
                · try simp only [wn_le, wn_lt, wn_eq, wn_0, wn_1, wn_m1, wn_9, wn_8, wn_4, wn_2, wn_100] at hc30
                  unfold wf_M_reckon_167
                  refine wk_e (fun v17 ev17 => ?_)
                  try (have hv17 : v17.toInt = x4.toInt + 1 := by rw [ev17]; exact wn_up (by omega) (by omega))
                  exact ih _ _ _ _ (by assumption) (by omega) (by omega) (by omega) (by omega) (by omega) (by omega) (by omega)
                · try simp only [wn_le, wn_lt, wn_eq, wn_0, wn_1, wn_m1, wn_9, wn_8, wn_4, wn_2, wn_100] at hc30
                  refine wk_v (fun v23 => ?_)
                  refine wk_e (fun v24 ev24 => ?_)
                  try (have hv24 : v24.toInt = v23.toInt + 1 := by rw [ev24]; exact wn_up (by omega) (by omega))
                  refine wk_wB (wB_u (by assumption) (by omega) (fun hh => u_71 hh (by decide) (by decide))) (fun σ25 hσ25 => ?_)
                  refine wk_v (fun v26 => ?_)
                  refine wk_v (fun v27 => ?_)
                  refine wk_e (fun v28 ev28 => ?_)
                  try (have hv28 : v28.toInt = v26.toInt + v27.toInt := by rw [ev28]; exact wn_add (by omega) (by omega))
                  refine wk_wB (wB_u (by assumption) (by omega) (fun hh => u_71 hh (by decide) (by decide))) (fun σ29 hσ29 => ?_)
                  unfold wf_M_reckon_167
                  refine wk_e (fun v17 ev17 => ?_)
                  try (have hv17 : v17.toInt = x4.toInt + 1 := by rw [ev17]; exact wn_up (by omega) (by omega))
                  exact ih _ _ _ _ (by assumption) (by omega) (by omega) (by omega) (by omega) (by omega) (by omega) (by omega)
        · try simp only [wn_le, wn_lt, wn_eq, wn_0, wn_1, wn_m1, wn_9, wn_8, wn_4, wn_2, wn_100] at hc17
          unfold wf_M_reckon_53
          refine wk_g (wn_in (by first | omega | decide) (by first | omega | decide)) ?_
          refine wk_wB (wB_u (by assumption) (by omega) (fun hh => u_b hh (by omega) (wn_bb _))) (fun σ7 hσ7 => ?_)
          refine wk_g (wn_in (by first | omega | decide) (by first | omega | decide)) ?_
          refine wk_r (fun v => 0 ≤ v.toInt ∧ v.toInt ≤ 1) (i_b (wB_1 (by assumption)) (by omega)) (fun v9 hv9 => ?_)
          refine wk_i (fun hc31 => ?_) (fun hc31 => ?_)
          · try simp only [wn_le, wn_lt, wn_eq, wn_0, wn_1, wn_m1, wn_9, wn_8, wn_4, wn_2, wn_100] at hc31
            unfold wf_M_reckon_90
            refine wk_i (fun hc32 => ?_) (fun hc32 => ?_)
            · try simp only [wn_le, wn_lt, wn_eq, wn_0, wn_1, wn_m1, wn_9, wn_8, wn_4, wn_2, wn_100] at hc32
              unfold wf_M_reckon_118
              refine wk_g (wn_in (by first | omega | decide) (by first | omega | decide)) ?_
              refine wk_r (fun v => 0 ≤ v.toInt ∧ v.toInt ≤ 8) (wB_r (by assumption) (by omega) (by omega)) (fun v13 hv13 => ?_)
              refine wk_g (wn_in (by first | omega | decide) (by first | omega | decide)) ?_
              refine wk_v (fun v15 => ?_)
              refine wk_i (fun hc33 => ?_) (fun hc33 => ?_)
              · try simp only [wn_le, wn_lt, wn_eq, wn_0, wn_1, wn_m1, wn_9, wn_8, wn_4, wn_2, wn_100] at hc33
                unfold wf_M_reckon_167
                refine wk_e (fun v17 ev17 => ?_)
                try (have hv17 : v17.toInt = x4.toInt + 1 := by rw [ev17]; exact wn_up (by omega) (by omega))
                exact ih _ _ _ _ (by assumption) (by omega) (by omega) (by omega) (by omega) (by omega) (by omega) (by omega)
              · try simp only [wn_le, wn_lt, wn_eq, wn_0, wn_1, wn_m1, wn_9, wn_8, wn_4, wn_2, wn_100] at hc33
                refine wk_g (wn_in (by first | omega | decide) (by first | omega | decide)) ?_
                refine wk_r (fun v => 0 ≤ v.toInt ∧ v.toInt ≤ 8) (wB_r (by assumption) (by omega) (by omega)) (fun v19 hv19 => ?_)
                refine wk_g (wn_in (by first | omega | decide) (by first | omega | decide)) ?_
                refine wk_v (fun v21 => ?_)
                refine wk_i (fun hc34 => ?_) (fun hc34 => ?_)
                · try simp only [wn_le, wn_lt, wn_eq, wn_0, wn_1, wn_m1, wn_9, wn_8, wn_4, wn_2, wn_100] at hc34
                  unfold wf_M_reckon_167
                  refine wk_e (fun v17 ev17 => ?_)
                  try (have hv17 : v17.toInt = x4.toInt + 1 := by rw [ev17]; exact wn_up (by omega) (by omega))
                  exact ih _ _ _ _ (by assumption) (by omega) (by omega) (by omega) (by omega) (by omega) (by omega) (by omega)
                · try simp only [wn_le, wn_lt, wn_eq, wn_0, wn_1, wn_m1, wn_9, wn_8, wn_4, wn_2, wn_100] at hc34
                  refine wk_v (fun v23 => ?_)
                  refine wk_e (fun v24 ev24 => ?_)
                  try (have hv24 : v24.toInt = v23.toInt + 1 := by rw [ev24]; exact wn_up (by omega) (by omega))
                  refine wk_wB (wB_u (by assumption) (by omega) (fun hh => u_71 hh (by decide) (by decide))) (fun σ25 hσ25 => ?_)
                  refine wk_v (fun v26 => ?_)
                  refine wk_v (fun v27 => ?_)
                  refine wk_e (fun v28 ev28 => ?_)
                  try (have hv28 : v28.toInt = v26.toInt + v27.toInt := by rw [ev28]; exact wn_add (by omega) (by omega))
                  refine wk_wB (wB_u (by assumption) (by omega) (fun hh => u_71 hh (by decide) (by decide))) (fun σ29 hσ29 => ?_)
                  unfold wf_M_reckon_167
                  refine wk_e (fun v17 ev17 => ?_)
                  try (have hv17 : v17.toInt = x4.toInt + 1 := by rw [ev17]; exact wn_up (by omega) (by omega))
                  exact ih _ _ _ _ (by assumption) (by omega) (by omega) (by omega) (by omega) (by omega) (by omega) (by omega)
            · try simp only [wn_le, wn_lt, wn_eq, wn_0, wn_1, wn_m1, wn_9, wn_8, wn_4, wn_2, wn_100] at hc32
              refine wk_v (fun v30 => ?_)
              refine wk_e (fun v31 ev31 => ?_)
              try (have hv31 : v31.toInt = x4.toInt - 1 := by rw [ev31]; exact wn_dn (by omega) (by omega))
              refine wk_g (wn_in (by first | omega | decide) (by first | omega | decide)) ?_
              refine wk_r (fun v => 0 ≤ v.toInt ∧ v.toInt ≤ 8) (wB_r (by assumption) (by omega) (by omega)) (fun v33 hv33 => ?_)
              refine wk_g (wn_in (by first | omega | decide) (by first | omega | decide)) ?_
              refine wk_r (fun v => 0 ≤ v.toInt ∧ v.toInt ≤ 8) (wB_r (by assumption) (by omega) (by omega)) (fun v35 hv35 => ?_)
              refine wk_b2 (tB_M_jumpOf (by assumption) (by omega) (by omega) (by omega) (by omega)) (fun r37 σ36 hr35 => ?_)
              have hσ36 : wB _ _ σ36 := hr35
              refine wk_e (fun v38 ev38 => ?_)
              try (have hv38 : v38.toInt = v30.toInt + r37.toInt := by rw [ev38]; exact wn_add (by omega) (by omega))
              refine wk_wB (wB_u (by assumption) (by omega) (fun hh => u_71 hh (by decide) (by decide))) (fun σ39 hσ39 => ?_)
              unfold wf_M_reckon_118
              refine wk_g (wn_in (by first | omega | decide) (by first | omega | decide)) ?_
              refine wk_r (fun v => 0 ≤ v.toInt ∧ v.toInt ≤ 8) (wB_r (by assumption) (by omega) (by omega)) (fun v13 hv13 => ?_)
              refine wk_g (wn_in (by first | omega | decide) (by first | omega | decide)) ?_
              refine wk_v (fun v15 => ?_)
              refine wk_i (fun hc36 => ?_) (fun hc36 => ?_)
              · try simp only [wn_le, wn_lt, wn_eq, wn_0, wn_1, wn_m1, wn_9, wn_8, wn_4, wn_2, wn_100] at hc36
                unfold wf_M_reckon_167
                refine wk_e (fun v17 ev17 => ?_)
                try (have hv17 : v17.toInt = x4.toInt + 1 := by rw [ev17]; exact wn_up (by omega) (by omega))
                exact ih _ _ _ _ (by assumption) (by omega) (by omega) (by omega) (by omega) (by omega) (by omega) (by omega)
              · try simp only [wn_le, wn_lt, wn_eq, wn_0, wn_1, wn_m1, wn_9, wn_8, wn_4, wn_2, wn_100] at hc36
                refine wk_g (wn_in (by first | omega | decide) (by first | omega | decide)) ?_
                refine wk_r (fun v => 0 ≤ v.toInt ∧ v.toInt ≤ 8) (wB_r (by assumption) (by omega) (by omega)) (fun v19 hv19 => ?_)
                refine wk_g (wn_in (by first | omega | decide) (by first | omega | decide)) ?_
                refine wk_v (fun v21 => ?_)
                refine wk_i (fun hc37 => ?_) (fun hc37 => ?_)
                · try simp only [wn_le, wn_lt, wn_eq, wn_0, wn_1, wn_m1, wn_9, wn_8, wn_4, wn_2, wn_100] at hc37
                  unfold wf_M_reckon_167
                  refine wk_e (fun v17 ev17 => ?_)
                  try (have hv17 : v17.toInt = x4.toInt + 1 := by rw [ev17]; exact wn_up (by omega) (by omega))
                  exact ih _ _ _ _ (by assumption) (by omega) (by omega) (by omega) (by omega) (by omega) (by omega) (by omega)
                · try simp only [wn_le, wn_lt, wn_eq, wn_0, wn_1, wn_m1, wn_9, wn_8, wn_4, wn_2, wn_100] at hc37
                  refine wk_v (fun v23 => ?_)
                  refine wk_e (fun v24 ev24 => ?_)
                  try (have hv24 : v24.toInt = v23.toInt + 1 := by rw [ev24]; exact wn_up (by omega) (by omega))
                  refine wk_wB (wB_u (by assumption) (by omega) (fun hh => u_71 hh (by decide) (by decide))) (fun σ25 hσ25 => ?_)
                  refine wk_v (fun v26 => ?_)
                  refine wk_v (fun v27 => ?_)
                  refine wk_e (fun v28 ev28 => ?_)
                  try (have hv28 : v28.toInt = v26.toInt + v27.toInt := by rw [ev28]; exact wn_add (by omega) (by omega))
                  refine wk_wB (wB_u (by assumption) (by omega) (fun hh => u_71 hh (by decide) (by decide))) (fun σ29 hσ29 => ?_)
                  unfold wf_M_reckon_167
                  refine wk_e (fun v17 ev17 => ?_)
                  try (have hv17 : v17.toInt = x4.toInt + 1 := by rw [ev17]; exact wn_up (by omega) (by omega))
                  exact ih _ _ _ _ (by assumption) (by omega) (by omega) (by omega) (by omega) (by omega) (by omega) (by omega)
          · try simp only [wn_le, wn_lt, wn_eq, wn_0, wn_1, wn_m1, wn_9, wn_8, wn_4, wn_2, wn_100] at hc31
            refine wk_v (fun v40 => ?_)
            refine wk_e (fun v41 ev41 => ?_)
            try (have hv41 : v41.toInt = v40.toInt + 1 := by rw [ev41]; exact wn_up (by omega) (by omega))
            refine wk_wB (wB_u (by assumption) (by omega) (fun hh => u_71 hh (by decide) (by decide))) (fun σ42 hσ42 => ?_)
            refine wk_v (fun v43 => ?_)
            refine wk_v (fun v44 => ?_)
            refine wk_e (fun v45 ev45 => ?_)
            try (have hv45 : v45.toInt = v43.toInt + v44.toInt := by rw [ev45]; exact wn_add (by omega) (by omega))
            refine wk_wB (wB_u (by assumption) (by omega) (fun hh => u_71 hh (by decide) (by decide))) (fun σ46 hσ46 => ?_)
            unfold wf_M_reckon_90
            refine wk_i (fun hc38 => ?_) (fun hc38 => ?_)
            · try simp only [wn_le, wn_lt, wn_eq, wn_0, wn_1, wn_m1, wn_9, wn_8, wn_4, wn_2, wn_100] at hc38
              unfold wf_M_reckon_118
              refine wk_g (wn_in (by first | omega | decide) (by first | omega | decide)) ?_
              refine wk_r (fun v => 0 ≤ v.toInt ∧ v.toInt ≤ 8) (wB_r (by assumption) (by omega) (by omega)) (fun v13 hv13 => ?_)
              refine wk_g (wn_in (by first | omega | decide) (by first | omega | decide)) ?_
              refine wk_v (fun v15 => ?_)
              refine wk_i (fun hc39 => ?_) (fun hc39 => ?_)
              · try simp only [wn_le, wn_lt, wn_eq, wn_0, wn_1, wn_m1, wn_9, wn_8, wn_4, wn_2, wn_100] at hc39
                unfold wf_M_reckon_167
                refine wk_e (fun v17 ev17 => ?_)
                try (have hv17 : v17.toInt = x4.toInt + 1 := by rw [ev17]; exact wn_up (by omega) (by omega))
                exact ih _ _ _ _ (by assumption) (by omega) (by omega) (by omega) (by omega) (by omega) (by omega) (by omega)
              · try simp only [wn_le, wn_lt, wn_eq, wn_0, wn_1, wn_m1, wn_9, wn_8, wn_4, wn_2, wn_100] at hc39
                refine wk_g (wn_in (by first | omega | decide) (by first | omega | decide)) ?_
                refine wk_r (fun v => 0 ≤ v.toInt ∧ v.toInt ≤ 8) (wB_r (by assumption) (by omega) (by omega)) (fun v19 hv19 => ?_)
                refine wk_g (wn_in (by first | omega | decide) (by first | omega | decide)) ?_
                refine wk_v (fun v21 => ?_)
                refine wk_i (fun hc40 => ?_) (fun hc40 => ?_)
                · try simp only [wn_le, wn_lt, wn_eq, wn_0, wn_1, wn_m1, wn_9, wn_8, wn_4, wn_2, wn_100] at hc40
                  unfold wf_M_reckon_167
                  refine wk_e (fun v17 ev17 => ?_)
                  try (have hv17 : v17.toInt = x4.toInt + 1 := by rw [ev17]; exact wn_up (by omega) (by omega))
                  exact ih _ _ _ _ (by assumption) (by omega) (by omega) (by omega) (by omega) (by omega) (by omega) (by omega)
                · try simp only [wn_le, wn_lt, wn_eq, wn_0, wn_1, wn_m1, wn_9, wn_8, wn_4, wn_2, wn_100] at hc40
                  refine wk_v (fun v23 => ?_)
                  refine wk_e (fun v24 ev24 => ?_)
                  try (have hv24 : v24.toInt = v23.toInt + 1 := by rw [ev24]; exact wn_up (by omega) (by omega))
                  refine wk_wB (wB_u (by assumption) (by omega) (fun hh => u_71 hh (by decide) (by decide))) (fun σ25 hσ25 => ?_)
                  refine wk_v (fun v26 => ?_)
                  refine wk_v (fun v27 => ?_)
                  refine wk_e (fun v28 ev28 => ?_)
                  try (have hv28 : v28.toInt = v26.toInt + v27.toInt := by rw [ev28]; exact wn_add (by omega) (by omega))
                  refine wk_wB (wB_u (by assumption) (by omega) (fun hh => u_71 hh (by decide) (by decide))) (fun σ29 hσ29 => ?_)
                  unfold wf_M_reckon_167
                  refine wk_e (fun v17 ev17 => ?_)
                  try (have hv17 : v17.toInt = x4.toInt + 1 := by rw [ev17]; exact wn_up (by omega) (by omega))
                  exact ih _ _ _ _ (by assumption) (by omega) (by omega) (by omega) (by omega) (by omega) (by omega) (by omega)
            · try simp only [wn_le, wn_lt, wn_eq, wn_0, wn_1, wn_m1, wn_9, wn_8, wn_4, wn_2, wn_100] at hc38
              refine wk_v (fun v30 => ?_)
              refine wk_e (fun v31 ev31 => ?_)
              try (have hv31 : v31.toInt = x4.toInt - 1 := by rw [ev31]; exact wn_dn (by omega) (by omega))
              refine wk_g (wn_in (by first | omega | decide) (by first | omega | decide)) ?_
              refine wk_r (fun v => 0 ≤ v.toInt ∧ v.toInt ≤ 8) (wB_r (by assumption) (by omega) (by omega)) (fun v33 hv33 => ?_)
              refine wk_g (wn_in (by first | omega | decide) (by first | omega | decide)) ?_
              refine wk_r (fun v => 0 ≤ v.toInt ∧ v.toInt ≤ 8) (wB_r (by assumption) (by omega) (by omega)) (fun v35 hv35 => ?_)
              refine wk_b2 (tB_M_jumpOf (by assumption) (by omega) (by omega) (by omega) (by omega)) (fun r37 σ36 hr41 => ?_)
              have hσ36 : wB _ _ σ36 := hr41
              refine wk_e (fun v38 ev38 => ?_)
              try (have hv38 : v38.toInt = v30.toInt + r37.toInt := by rw [ev38]; exact wn_add (by omega) (by omega))
              refine wk_wB (wB_u (by assumption) (by omega) (fun hh => u_71 hh (by decide) (by decide))) (fun σ39 hσ39 => ?_)
              unfold wf_M_reckon_118
              refine wk_g (wn_in (by first | omega | decide) (by first | omega | decide)) ?_
              refine wk_r (fun v => 0 ≤ v.toInt ∧ v.toInt ≤ 8) (wB_r (by assumption) (by omega) (by omega)) (fun v13 hv13 => ?_)
              refine wk_g (wn_in (by first | omega | decide) (by first | omega | decide)) ?_
              refine wk_v (fun v15 => ?_)
              refine wk_i (fun hc42 => ?_) (fun hc42 => ?_)
              · try simp only [wn_le, wn_lt, wn_eq, wn_0, wn_1, wn_m1, wn_9, wn_8, wn_4, wn_2, wn_100] at hc42
                unfold wf_M_reckon_167
                refine wk_e (fun v17 ev17 => ?_)
                try (have hv17 : v17.toInt = x4.toInt + 1 := by rw [ev17]; exact wn_up (by omega) (by omega))
                exact ih _ _ _ _ (by assumption) (by omega) (by omega) (by omega) (by omega) (by omega) (by omega) (by omega)
              · try simp only [wn_le, wn_lt, wn_eq, wn_0, wn_1, wn_m1, wn_9, wn_8, wn_4, wn_2, wn_100] at hc42
                refine wk_g (wn_in (by first | omega | decide) (by first | omega | decide)) ?_
                refine wk_r (fun v => 0 ≤ v.toInt ∧ v.toInt ≤ 8) (wB_r (by assumption) (by omega) (by omega)) (fun v19 hv19 => ?_)
                refine wk_g (wn_in (by first | omega | decide) (by first | omega | decide)) ?_
                refine wk_v (fun v21 => ?_)
                refine wk_i (fun hc43 => ?_) (fun hc43 => ?_)
                · try simp only [wn_le, wn_lt, wn_eq, wn_0, wn_1, wn_m1, wn_9, wn_8, wn_4, wn_2, wn_100] at hc43
                  unfold wf_M_reckon_167
                  refine wk_e (fun v17 ev17 => ?_)
                  try (have hv17 : v17.toInt = x4.toInt + 1 := by rw [ev17]; exact wn_up (by omega) (by omega))
                  exact ih _ _ _ _ (by assumption) (by omega) (by omega) (by omega) (by omega) (by omega) (by omega) (by omega)
                · try simp only [wn_le, wn_lt, wn_eq, wn_0, wn_1, wn_m1, wn_9, wn_8, wn_4, wn_2, wn_100] at hc43
                  refine wk_v (fun v23 => ?_)
                  refine wk_e (fun v24 ev24 => ?_)
                  try (have hv24 : v24.toInt = v23.toInt + 1 := by rw [ev24]; exact wn_up (by omega) (by omega))
                  refine wk_wB (wB_u (by assumption) (by omega) (fun hh => u_71 hh (by decide) (by decide))) (fun σ25 hσ25 => ?_)
                  refine wk_v (fun v26 => ?_)
                  refine wk_v (fun v27 => ?_)
                  refine wk_e (fun v28 ev28 => ?_)
                  try (have hv28 : v28.toInt = v26.toInt + v27.toInt := by rw [ev28]; exact wn_add (by omega) (by omega))
                  refine wk_wB (wB_u (by assumption) (by omega) (fun hh => u_71 hh (by decide) (by decide))) (fun σ29 hσ29 => ?_)
                  unfold wf_M_reckon_167
                  refine wk_e (fun v17 ev17 => ?_)
                  try (have hv17 : v17.toInt = x4.toInt + 1 := by rw [ev17]; exact wn_up (by omega) (by omega))
                  exact ih _ _ _ _ (by assumption) (by omega) (by omega) (by omega) (by omega) (by omega) (by omega) (by omega)
theorem tt_M_reckon {m : Int} {k1 : Nat} {a2 : Int32} {σ : wc_S} (hσ : wB k1 m σ) (q0 : k1 = 85 ∨ k1 = 86) (q1 : a2.toInt ≤ 9) (q2 : a2.toInt ≤ m) : wk (wf_M_reckon k1 a2 σ) (wB k1 m) := by
  unfold wf_M_reckon
  refine wk_wB (wB_u (by assumption) (by omega) (fun hh => u_71 hh (by decide) (by decide))) (fun σ1 hσ1 => ?_)
  refine wk_wB (wB_u (by assumption) (by omega) (fun hh => u_71 hh (by decide) (by decide))) (fun σ2 hσ2 => ?_)
  refine wk_wB (wB_u (by assumption) (by omega) (fun hh => u_71 hh (by decide) (by decide))) (fun σ3 hσ3 => ?_)
  exact tt_M_reckon_20 (by omega) 16 _ _ _ _ (by assumption) (by first | omega | decide) (by first | omega | decide) (by first | omega | decide) (by first | omega | decide) (by first | omega | decide) (by first | omega | decide) (by first | omega | decide) 
theorem tt_M_order_31 {c : Nat} {σ : wc_S} {a1 s : Int32} (hσ : wJ c σ) (h : s.toInt ≤ 0 → 0 ≤ a1.toInt ∧ a1.toInt ≤ 8) : wk (wf_M_order_31 a1 s σ) (fun r => wJ c r.2) := by
  have hτ : wJ c (wc_u σ 71 0 s) := u_71 hσ (by decide) (by decide)
  show wk (if (wc_u σ 71 0 s) 71 0 ≤ 0 then _ else _) _
  rw [wu_same]
  refine wk_i (fun hc => ?_) (fun hc => wk_s hτ)
  simp only [wn_le, wn_0] at hc
  have ha := h hc
  exact wk_g (wn_in (by omega) (by omega)) (wk_s hτ)
theorem tt_M_change_31 {σ : wc_S} {a1 s : Int32} (hσ : wJ 0 σ) (h : s.toInt ≤ 0 → 0 ≤ a1.toInt ∧ a1.toInt ≤ 8) : wk (wf_M_change_31 a1 s σ) (fun r => wJ 0 r.2) := by
  have hτ : wJ 0 (wc_u σ 71 0 s) := u_71 hσ (by decide) (by decide)
  show wk (if (wc_u σ 71 0 s) 71 0 ≤ 0 then _ else _) _
  rw [wu_same]
  refine wk_i (fun hc => ?_) (fun hc => wk_s hτ)
  simp only [wn_le, wn_0] at hc
  have ha := h hc
  refine wk_rm hτ (fun v hv => ?_)
  refine wk_b1 (tt_M_reckon (wB_85 (m := 9) hτ) (by omega) (by omega) (by omega)) (fun υ hυ => ?_)
  refine wk_g (wn_in (by omega) (by omega)) ?_
  refine wk_r (fun v => 0 ≤ v.toInt ∧ v.toInt ≤ 1) (i_b hυ.1 (by omega)) (fun w hw => ?_)
  exact wk_g (wn_z hw) (wk_s hυ.1)
theorem tt_M_order {a1 : Int32} {σ : wc_S} (hσ : wJ 0 σ)  : wk (wf_M_order a1 σ) (fun r => wJ 0 r.2) := by
  unfold wf_M_order
  refine wk_v (fun v1 => ?_)
  refine wk_i (fun hc1 => ?_) (fun hc1 => ?_)
  · try simp only [wn_le, wn_lt, wn_eq, wn_0, wn_1, wn_m1, wn_9, wn_8, wn_4, wn_2, wn_100] at hc1
    exact tt_M_order_31 (by assumption) (fun h31 => by first | omega | exact absurd h31 (by decide))
  · try simp only [wn_le, wn_lt, wn_eq, wn_0, wn_1, wn_m1, wn_9, wn_8, wn_4, wn_2, wn_100] at hc1
    refine wk_rm (by assumption) (fun v3 hv3 => ?_)
    refine wk_e (fun v4 ev4 => ?_)
    try (have hv4 : v4.toInt = v3.toInt - 1 := by rw [ev4]; exact wn_dn (by omega) (by omega))
    refine wk_b2 (tt_M_in (by assumption) ) (fun r6 σ5 hr2 => ?_)
    obtain ⟨hσ5, hpσ5⟩ := hr2
    try simp only [wn_0, wn_1, wn_m1, wn_9, wn_8, wn_4, wn_2, wn_100] at hpσ5
    refine wk_i (fun hc3 => ?_) (fun hc3 => ?_)
    · try simp only [wn_le, wn_lt, wn_eq, wn_0, wn_1, wn_m1, wn_9, wn_8, wn_4, wn_2, wn_100] at hc3
      exact tt_M_order_31 (by assumption) (fun h31 => by first | omega | exact absurd h31 (by decide))
    · try simp only [wn_le, wn_lt, wn_eq, wn_0, wn_1, wn_m1, wn_9, wn_8, wn_4, wn_2, wn_100] at hc3
      exact tt_M_order_31 (by assumption) (fun h31 => by first | omega | exact absurd h31 (by decide))
theorem tt_M_change {a1 : Int32} {σ : wc_S} (hσ : wJ 0 σ)  : wk (wf_M_change a1 σ) (fun r => wJ 0 r.2) := by
  unfold wf_M_change
  refine wk_v (fun v1 => ?_)
  refine wk_i (fun hc1 => ?_) (fun hc1 => ?_)
  · try simp only [wn_le, wn_lt, wn_eq, wn_0, wn_1, wn_m1, wn_9, wn_8, wn_4, wn_2, wn_100] at hc1
    exact tt_M_change_31 (by assumption) (fun h31 => by first | omega | exact absurd h31 (by decide))
  · try simp only [wn_le, wn_lt, wn_eq, wn_0, wn_1, wn_m1, wn_9, wn_8, wn_4, wn_2, wn_100] at hc1
    refine wk_rm (by assumption) (fun v3 hv3 => ?_)
    refine wk_e (fun v4 ev4 => ?_)
    try (have hv4 : v4.toInt = v3.toInt - 1 := by rw [ev4]; exact wn_dn (by omega) (by omega))
    refine wk_b2 (tt_M_in (by assumption) ) (fun r6 σ5 hr2 => ?_)
    obtain ⟨hσ5, hpσ5⟩ := hr2
    try simp only [wn_0, wn_1, wn_m1, wn_9, wn_8, wn_4, wn_2, wn_100] at hpσ5
    refine wk_i (fun hc3 => ?_) (fun hc3 => ?_)
    · try simp only [wn_le, wn_lt, wn_eq, wn_0, wn_1, wn_m1, wn_9, wn_8, wn_4, wn_2, wn_100] at hc3
      exact tt_M_change_31 (by assumption) (fun h31 => by first | omega | exact absurd h31 (by decide))
    · try simp only [wn_le, wn_lt, wn_eq, wn_0, wn_1, wn_m1, wn_9, wn_8, wn_4, wn_2, wn_100] at hc3
      exact tt_M_change_31 (by assumption) (fun h31 => by first | omega | exact absurd h31 (by decide))
theorem tt_M_told {a1 : Int32} {σ : wc_S} (hσ : wJ 0 σ)  : wk (wf_M_told a1 σ) (fun r => wJ 0 r.2) := by
  unfold wf_M_told
  refine wk_b2 (tt_M_in (by assumption) ) (fun r2 σ1 hr1 => ?_)
  obtain ⟨hσ1, hpσ1⟩ := hr1
  try simp only [wn_0, wn_1, wn_m1, wn_9, wn_8, wn_4, wn_2, wn_100] at hpσ1
  refine wk_v (fun v3 => ?_)
  refine wk_b2 (tt_M_goes (by assumption)) (fun r5 σ4 hr2 => ?_)
  obtain ⟨hσ4, hpσ4⟩ := hr2
  try simp only [wn_0, wn_1, wn_m1, wn_9, wn_8, wn_4, wn_2, wn_100] at hpσ4
  refine wk_i (fun hc3 => ?_) (fun hc3 => ?_)
  · try simp only [wn_le, wn_lt, wn_eq, wn_0, wn_1, wn_m1, wn_9, wn_8, wn_4, wn_2, wn_100] at hc3
    exact wk_s ((show wJ 0 _ from by assumption))
  · try simp only [wn_le, wn_lt, wn_eq, wn_0, wn_1, wn_m1, wn_9, wn_8, wn_4, wn_2, wn_100] at hc3
    refine wk_rm (by assumption) (fun v7 hv7 => ?_)
    refine wk_b1 (wk_mono (tt_M_reckon (wB_85 (m := 9) (by assumption)) (by omega) (by omega) (by omega)) (fun _ h => h.1)) (fun σ8 hr4 => ?_)
    have hσ8 : wJ _ σ8 := hr4
    refine wk_i (fun hc5 => ?_) (fun hc5 => ?_)
    · try simp only [wn_le, wn_lt, wn_eq, wn_0, wn_1, wn_m1, wn_9, wn_8, wn_4, wn_2, wn_100] at hc5
      refine wk_v (fun v13 => ?_)
      exact wk_s ((show wJ 0 _ from by assumption))
    · try simp only [wn_le, wn_lt, wn_eq, wn_0, wn_1, wn_m1, wn_9, wn_8, wn_4, wn_2, wn_100] at hc5
      refine wk_i (fun hc6 => ?_) (fun hc6 => ?_)
      · try simp only [wn_le, wn_lt, wn_eq, wn_0, wn_1, wn_m1, wn_9, wn_8, wn_4, wn_2, wn_100] at hc6
        refine wk_v (fun v12 => ?_)
        exact wk_s ((show wJ 0 _ from by assumption))
      · try simp only [wn_le, wn_lt, wn_eq, wn_0, wn_1, wn_m1, wn_9, wn_8, wn_4, wn_2, wn_100] at hc6
        refine wk_v (fun v11 => ?_)
        exact wk_s ((show wJ 0 _ from by assumption))
/-! what is written nowhere is as it was -/
theorem tB_M_mayBe {k1 : Nat} {m : Int} {a2 : Int32} {σ : wc_S} (hσ : wB k1 m σ) (q0 : k1 = 85 ∨ k1 = 86) (q1 : 0 ≤ a2.toInt) (q2 : a2.toInt ≤ 8) (q3 : a2.toInt < m) : wk (wf_M_mayBe k1 a2 σ) (fun r => r.2 = σ) := by
  obtain ⟨x, h1, h2⟩ := tt_M_mayBe hσ q0 q1 q2 q3
  exact ⟨x, h1, wr_same (wr_M_mayBe k1 a2 σ x h1) (fun _ _ h => h)⟩
theorem tB_M_isGood {k1 : Nat} {m : Int} {σ : wc_S} (hσ : wB k1 m σ) (q0 : k1 = 85 ∨ k1 = 86) (hm : (σ 71 1).toInt ≤ m) : wk (wf_M_isGood k1 σ) (fun r => r.2 = σ) := by
  have L : ∀ (n : Nat) (x2 : Int32), 0 ≤ x2.toInt → x2.toInt ≤ 9 → 9 < x2.toInt + n → wk (wf_M_isGood_2 k1 n x2 σ) (fun r => r.2 = σ) := by
    intro n
    induction n with
    | zero => intro x2 c0 c1 c2; omega
    | succ n ih =>
      intro x2 c0 c1 c2
      show wk (wf_M_isGood_2_b k1 (wf_M_isGood_2 k1 n) x2 σ) _
      unfold wf_M_isGood_2_b
      refine wk_rm hσ.1 (fun v1 hv1 => ?_)
      refine wk_i (fun hc => wk_s rfl) (fun hc => ?_)
      simp only [wn_le] at hc
      refine wk_b2 (tB_M_mayBe hσ q0 (by omega) (by omega) (by omega)) (fun r u hu => ?_)
      have hu : u = σ := hu
      rw [hu]
      refine wk_i (fun hc2 => wk_s rfl) (fun hc2 => ?_)
      refine wk_e (fun v6 e6 => ?_)
      have h6 : v6.toInt = x2.toInt + 1 := by rw [e6]; exact wn_up (by omega) (by omega)
      exact ih v6 (by omega) (by omega) (by omega)
  exact L 16 0 (by decide) (by decide) (by decide)
theorem tB_M_stands {a1 a2 : Int32} {σ : wc_S} (h2 : a2.toInt ≤ 9) : wk (wf_M_stands a1 a2 σ) (fun r => r.2 = σ) := by
  have L : ∀ (n : Nat) (x3 : Int32), 0 ≤ x3.toInt → x3.toInt ≤ 9 → 9 < x3.toInt + n → wk (wf_M_stands_2 n a1 a2 x3 σ) (fun r => r.2 = σ) := by
    intro n
    induction n with
    | zero => intro x2 c0 c1 c2; omega
    | succ n ih =>
      intro x3 c0 c1 c2
      show wk (wf_M_stands_2_b (wf_M_stands_2 n) a1 a2 x3 σ) _
      unfold wf_M_stands_2_b
      refine wk_i (fun hc => wk_s rfl) (fun hc => ?_)
      simp only [wn_le] at hc
      refine wk_g (wn_in (by omega) (by omega)) ?_
      refine wk_v (fun v3 => ?_)
      refine wk_i (fun hc2 => wk_s rfl) (fun hc2 => ?_)
      refine wk_e (fun v6 e6 => ?_)
      have h6 : v6.toInt = x3.toInt + 1 := by rw [e6]; exact wn_up (by omega) (by omega)
      exact ih v6 (by omega) (by omega) (by omega)
  exact L 16 0 (by decide) (by decide) (by decide)
theorem tB_M_goes {k1 : Nat} {m : Int} {a1 a2 a3 : Int32} {σ : wc_S} (hσ : wB k1 m σ) (hk : k1 = 85 ∨ k1 = 86) : wk (wf_M_goes a1 a2 a3 σ) (fun r => (wB k1 m r.2 ∧ ∀ k i, k ≠ 71 ∨ i ≠ 0 → r.2 k i = σ k i) ∧ (r.1.toInt ≠ 0 → a1.toInt ≠ 0 ∧ a2.toInt ≠ 0 ∧ a3.toInt ≠ 0)) := by
  obtain ⟨x, h1, h2⟩ := tt_M_goes (a1 := a1) (a2 := a2) (a3 := a3) hσ.1
  have hw := wr_M_goes a1 a2 a3 σ x h1
  refine ⟨x, h1, ⟨⟨h2.1, fun i hi => ?_⟩, fun k i hk => hw k i (fun q => by unfold wS_M_goes at q; omega)⟩, h2.2⟩
  rw [hw k1 i (fun q => by unfold wS_M_goes at q; omega)]
  exact hσ.2 i hi
theorem wn_15l (x : Int64) : 0 ≤ (x &&& 15).toInt32.toInt ∧ (x &&& 15).toInt32.toInt ≤ 15 := by
  have h : (x &&& 15).toBitVec.toNat = x.toBitVec.toNat % 16 := by
    rw [Int64.toBitVec_and]
    show (x.toBitVec &&& 15#64).toNat = _
    rw [BitVec.toNat_and]
    exact Nat.and_two_pow_sub_one_eq_mod _ 4
  have e2 : (x &&& 15).toInt = (x &&& 15).toBitVec.toInt := rfl
  have h3 : 0 ≤ (x &&& 15).toInt ∧ (x &&& 15).toInt ≤ 15 := by
    rw [e2, BitVec.toInt_eq_toNat_cond, h]
    have : x.toBitVec.toNat % 16 < 16 := Nat.mod_lt _ (by decide)
    split <;> omega
  rw [Int64.toInt_toInt32, Int.bmod_eq_of_le (by omega) (by omega)]
  exact h3
theorem wB_w {m : Int} {i : Nat} {σ : wc_S} {x : Int32} (h : wB 86 m σ) (hx : 0 ≤ x.toInt ∧ x.toInt ≤ 8) : wB 86 m (wc_u σ 86 i x) := by
  refine ⟨u_o h.1 (by decide), fun j hj => ?_⟩
  by_cases e : j = i
  · rw [e, wu_same]; exact hx
  · rw [wu_other (Or.inr e)]; exact h.2 j hj
theorem wB_x {m : Int} {i : Nat} {σ : wc_S} {x : Int32} (h : wB 86 m σ) (hi : (i : Int) = m) (hx : 0 ≤ x.toInt ∧ x.toInt ≤ 8) : wB 86 (m + 1) (wc_u σ 86 i x) := by
  refine ⟨u_o h.1 (by decide), fun j hj => ?_⟩
  by_cases e : j = i
  · rw [e, wu_same]; exact hx
  · rw [wu_other (Or.inr e)]; exact h.2 j (by omega)
theorem tB_M_reckon {k1 : Nat} {m : Int} {a2 : Int32} {σ : wc_S} (hσ : wB k1 m σ) (q0 : k1 = 85 ∨ k1 = 86) (q1 : a2.toInt ≤ 9) (q2 : a2.toInt ≤ m) : wk (wf_M_reckon k1 a2 σ) (fun τ => wB k1 m τ ∧ τ 71 1 = σ 71 1) := by
  obtain ⟨x, h1, h2⟩ := tt_M_reckon hσ q0 q1 q2
  exact ⟨x, h1, h2, wr_M_reckon k1 a2 σ x h1 71 1 (fun q => by unfold wS_M_reckon at q; omega)⟩
theorem t_tell108 {m : Int} : ∀ (n : Nat) (x4 : Int32) (σ : wc_S), wB 86 m σ → (σ 71 1).toInt ≤ m → 0 ≤ x4.toInt → x4.toInt ≤ 9 → 9 < x4.toInt + n → wk (wf_M_tell_108 n x4 σ) (wJ 0) := by
  intro n
  induction n with
  | zero => intro x4 σ hσ hm c0 c1 c2; omega
  | succ n ih =>
    intro x4 σ hσ hm c0 c1 c2
    show wk (wf_M_tell_108_b (wf_M_tell_108 n) x4 σ) _
    unfold wf_M_tell_108_b
    refine wk_rm hσ.1 (fun v8 hv8 => ?_)
    refine wk_i (fun hc => wk_s hσ.1) (fun hc => ?_)
    simp only [wn_le] at hc
    refine wk_g (wn_in (by omega) (by omega)) ?_
    refine wk_r (fun v => 0 ≤ v.toInt ∧ v.toInt ≤ 8) (wB_r hσ (by omega) (by omega)) (fun v11 hv11 => ?_)
    refine wk_g (wn_in (by omega) (by omega)) ?_
    refine wk_e (fun τ eτ => ?_)
    have hτ : wB 86 m τ := by rw [eτ]; exact wB_u hσ (by decide) (fun hh => u_8 hh (by omega) hv11)
    have h71 : (τ 71 1).toInt ≤ m := by rw [eτ, wu_other (Or.inl (by decide))]; exact hm
    refine wk_e (fun v14 e14 => ?_)
    have h14 : v14.toInt = x4.toInt + 1 := by rw [e14]; exact wn_up (by omega) (by omega)
    exact ih v14 τ hτ h71 (by omega) (by omega) (by omega)
theorem t_swaps111 {m : Int} : ∀ (n : Nat) (x4 : Int32) (σ : wc_S), wB 86 m σ → (σ 71 1).toInt ≤ m → 0 ≤ x4.toInt → x4.toInt ≤ 9 → 9 < x4.toInt + n → wk (wf_M_swaps_111 n x4 σ) (fun r => wJ 0 r.2) := by
  intro n
  induction n with
  | zero => intro x4 σ hσ hm c0 c1 c2; omega
  | succ n ih =>
    intro x4 σ hσ hm c0 c1 c2
    show wk (wf_M_swaps_111_b (wf_M_swaps_111 n) x4 σ) _
    unfold wf_M_swaps_111_b
    refine wk_rm hσ.1 (fun v8 hv8 => ?_)
    refine wk_i (fun hc => wk_s hσ.1) (fun hc => ?_)
    simp only [wn_le] at hc
    refine wk_g (wn_in (by omega) (by omega)) ?_
    refine wk_r (fun v => 0 ≤ v.toInt ∧ v.toInt ≤ 8) (wB_r hσ (by omega) (by omega)) (fun v11 hv11 => ?_)
    refine wk_g (wn_in (by omega) (by omega)) ?_
    refine wk_e (fun τ eτ => ?_)
    have hτ : wB 86 m τ := by rw [eτ]; exact wB_u hσ (by decide) (fun hh => u_8 hh (by omega) hv11)
    have h71 : (τ 71 1).toInt ≤ m := by rw [eτ, wu_other (Or.inl (by decide))]; exact hm
    refine wk_e (fun v14 e14 => ?_)
    have h14 : v14.toInt = x4.toInt + 1 := by rw [e14]; exact wn_up (by omega) (by omega)
    exact ih v14 τ hτ h71 (by omega) (by omega) (by omega)
theorem t_tell92 {m : Int} {s1 s2 : Int32} {σ : wc_S} (hσ : wJ 0 σ) (h : s1.toInt ≠ 0 → s2.toInt ≠ 0 → wB 86 m σ ∧ (σ 71 1).toInt ≤ m) : wk (wf_M_tell_92 s1 s2 σ) (wJ 0) := by
  unfold wf_M_tell_92
  by_cases hb : s1.toInt ≠ 0 ∧ s2.toInt ≠ 0
  · obtain ⟨hB, hm⟩ := h hb.1 hb.2
    refine wk_b2 (tB_M_goes hB (Or.inr rfl)) (fun r u hu => ?_)
    obtain ⟨⟨hu1, hu2⟩, hp⟩ := hu
    refine wk_i (fun _ => wk_s hu1.1) (fun _ => ?_)
    refine wk_e (fun τ eτ => ?_)
    have hτ : wB 86 m τ := by rw [eτ]; exact wB_u hu1 (by decide) (fun hh => u_71 hh (by decide) (by decide))
    have h71 : (τ 71 1).toInt ≤ m := by rw [eτ, wu_other (Or.inr (by decide))]; rw [show u 71 1 = σ 71 1 from hu2 71 1 (Or.inr (by decide))]; exact hm
    exact t_tell108 16 0 τ hτ h71 (by decide) (by decide) (by decide)
  · refine wk_b2 (tt_M_goes hσ) (fun r u hu => ?_)
    obtain ⟨hu1, hp⟩ := hu
    refine wk_i (fun _ => wk_s hu1) (fun hc => ?_)
    have hq := hp (fun e => hc (wn_eq.2 e))
    exact absurd ⟨hq.1, hq.2.1⟩ hb
theorem t_tell5 {x1 : Int64} : ∀ (n : Nat) (x3 x4 : Int32) (σ : wc_S), wJ 0 σ → (x3.toInt ≠ 0 → ∀ i : Nat, (i : Int) < x4.toInt → 0 ≤ (σ 86 i).toInt ∧ (σ 86 i).toInt ≤ 8) → 0 ≤ x4.toInt → x4.toInt ≤ 9 → 9 < x4.toInt + n → wk (wf_M_tell_5 n x1 x3 x4 σ) (wJ 0) := by
  intro n
  induction n with
  | zero => intro x3 x4 σ hσ h3 c0 c1 c2; omega
  | succ n ih =>
    intro x3 x4 σ hσ h3 c0 c1 c2
    show wk (wf_M_tell_5_b (wf_M_tell_5 n) x1 x3 x4 σ) _
    unfold wf_M_tell_5_b
    refine wk_rm hσ (fun v1 hv1 => ?_)
    refine wk_i (fun hc => ?_) (fun hc => ?_)
    · simp only [wn_le] at hc
      refine wk_i (fun e => ?_) (fun e => ?_)
      · unfold wf_M_tell_91
        exact t_tell92 (m := 0) hσ (fun h _ => absurd (wn_eq.1 e) h)
      · have hne : x3.toInt ≠ 0 := fun h => e (wn_eq.2 h)
        have hB : wB 86 x4.toInt σ := ⟨hσ, h3 hne⟩
        refine wk_b2 (tB_M_isGood hB (Or.inr rfl) (by omega)) (fun r u hu => ?_)
        have hu : u = σ := hu
        rw [hu]
        refine wk_i (fun _ => ?_) (fun _ => ?_)
        · unfold wf_M_tell_91
          exact t_tell92 (m := x4.toInt) hσ (fun _ _ => ⟨hB, by omega⟩)
        · exact t_tell92 (m := x4.toInt) hσ (fun _ _ => ⟨hB, by omega⟩)
    · simp only [wn_le] at hc
      refine wk_v (fun v18 => ?_)
      refine wk_v (fun v19 => ?_)
      refine wk_e (fun v20 e20 => ?_)
      refine wk_e (fun v21 e21 => ?_)
      have h21 : 0 ≤ v21.toInt := by rw [e21, e20]; exact (wn_15l v19).1
      have h28 : ∀ v28 : Int32, v28 = x4 + 1 → v28.toInt = x4.toInt + 1 := fun v28 e => by rw [e]; exact wn_up (by omega) (by omega)
      refine wk_g (wn_in (by omega) (by omega)) ?_
      refine wk_e (fun τ eτ => ?_)
      have hτ : wJ 0 τ := by rw [eτ]; exact u_o hσ (by decide)
      have h62 : wk (wf_M_tell_62 (wf_M_tell_5 n) x1 x4 τ) (wJ 0) := by
        unfold wf_M_tell_62 wf_M_tell_64
        refine wk_e (fun v28 e28 => ?_)
        have e := h28 v28 e28
        exact ih 0 v28 τ hτ (fun h => absurd wn_0 h) (by omega) (by omega) (by omega)
      refine wk_g (wn_in (by omega) (by omega)) ?_
      refine wk_e (fun v25 e25 => ?_)
      have e25' : v25 = v21 := by rw [e25, eτ, wu_same]
      refine wk_rm hτ (fun v26 hv26 => ?_)
      refine wk_i (fun _ => h62) (fun hc2 => ?_)
      simp only [wn_le, e25'] at hc2
      refine wk_g (wn_in (by omega) (by omega)) ?_
      refine wk_v (fun v30 => ?_)
      refine wk_b2 (tB_M_stands (by omega)) (fun r u hu => ?_)
      have hu : u = τ := hu
      rw [hu]
      refine wk_i (fun _ => ?_) (fun _ => h62)
      unfold wf_M_tell_64
      refine wk_e (fun v28 e28 => ?_)
      have e := h28 v28 e28
      refine ih x3 v28 τ hτ (fun h i hi => ?_) (by omega) (by omega) (by omega)
      by_cases ei : i = x4.toNatClampNeg
      · rw [eτ, ei, wu_same]; omega
      · rw [eτ, wu_other (Or.inr ei)]
        refine h3 h i ?_
        rw [wn_tn] at ei
        omega
theorem tt_M_tell {a1 : Int64} {σ : wc_S} (hσ : wJ 0 σ) : wk (wf_M_tell a1 σ) (wJ 0) := by
  unfold wf_M_tell
  exact t_tell5 16 1 0 σ hσ (fun _ i hi => by rw [wn_0] at hi; omega) (by decide) (by decide) (by decide)
theorem t_swaps20 {x1 x2 x3 : Int32} (p1 : 0 ≤ x1.toInt ∧ x1.toInt ≤ 8) (p2 : 0 ≤ x2.toInt ∧ x2.toInt ≤ 8) : ∀ (n : Nat) (x4 : Int32) (σ : wc_S), wB 86 x4.toInt σ → 0 ≤ x4.toInt → x4.toInt ≤ 9 → 9 < x4.toInt + n → wk (wf_M_swaps_20 n x1 x2 x3 x4 σ) (fun r => wJ 0 r.2) := by
  intro n
  induction n with
  | zero => intro x4 σ hσ c0 c1 c2; omega
  | succ n ih =>
    intro x4 σ hσ c0 c1 c2
    show wk (wf_M_swaps_20_b (wf_M_swaps_20 n) x1 x2 x3 x4 σ) _
    unfold wf_M_swaps_20_b
    refine wk_rm hσ.1 (fun v4 hv4 => ?_)
    refine wk_i (fun hc => ?_) (fun hc => ?_)
    · simp only [wn_le] at hc
      refine wk_g (wn_in (by omega) (by omega)) ?_
      refine wk_r (fun v => 0 ≤ v.toInt ∧ v.toInt ≤ 8) (i_8 hσ.1 (by omega)) (fun v7 hv7 => ?_)
      refine wk_g (wn_in (by omega) (by omega)) ?_
      refine wk_e (fun σ9 e9 => ?_)
      have h9 : wB 86 x4.toInt σ9 := by rw [e9]; exact wB_w hσ hv7
      have k9 : σ9 71 1 = σ 71 1 := by rw [e9, wu_other (Or.inl (by decide))]
      refine wk_g (wn_in (by omega) (by omega)) ?_
      refine wk_r (fun v => 0 ≤ v.toInt ∧ v.toInt ≤ 8) (i_8 h9.1 (by omega)) (fun v11 hv11 => ?_)
      refine wk_g (wn_in (by omega) (by omega)) ?_
      refine wk_e (fun σ13 e13 => ?_)
      have h13 : wB 86 x4.toInt σ13 := by rw [e13]; exact wB_w h9 hv11
      have k13 : σ13 71 1 = σ 71 1 := by rw [e13, wu_other (Or.inl (by decide))]; exact k9
      have k13' : (σ13 71 1).toInt ≤ x4.toInt := by rw [k13]; omega
      refine wk_b2 (tB_M_isGood h13 (Or.inr rfl) k13') (fun r u hu => ?_)
      have hu : u = σ13 := hu
      rw [hu]
      refine wk_i (fun _ => wk_s h13.1) (fun _ => ?_)
      refine wk_rm h13.1 (fun v17 hv17 => ?_)
      refine wk_b1 (tB_M_reckon h13 (Or.inr rfl) (by omega) (by omega)) (fun σ18 h18 => ?_)
      refine wk_v (fun v19 => ?_)
      refine wk_i (fun _ => ?_) (fun _ => wk_s h18.1.1)
      exact t_swaps111 16 0 σ18 h18.1 (by rw [h18.2]; exact k13') (by decide) (by decide) (by decide)
    · simp only [wn_le] at hc
      refine wk_g (wn_in (by omega) (by omega)) ?_
      refine wk_r (fun v => 0 ≤ v.toInt ∧ v.toInt ≤ 8) (i_8 hσ.1 (by omega)) (fun v29 hv29 => ?_)
      refine wk_g (wn_in (by omega) (by omega)) ?_
      refine wk_e (fun τ eτ => ?_)
      have hτ : wB 86 (x4.toInt + 1) τ := by rw [eτ]; exact wB_x hσ (by rw [wn_tn]; omega) hv29
      refine wk_e (fun v32 e32 => ?_)
      have h32 : v32.toInt = x4.toInt + 1 := by rw [e32]; exact wn_up (by omega) (by omega)
      exact ih v32 τ (by rw [h32]; exact hτ) (by omega) (by omega) (by omega)
theorem tt_M_swaps {a1 a2 : Int32} {σ : wc_S} (hσ : wJ 0 σ) (q0 : 0 ≤ a1.toInt) (q1 : a1.toInt ≤ 8) (q2 : 0 ≤ a2.toInt) (q3 : a2.toInt ≤ 8) : wk (wf_M_swaps a1 a2 σ) (fun r => wJ 0 r.2) := by
  unfold wf_M_swaps
  refine wk_rm hσ (fun v1 hv1 => ?_)
  refine wk_b1 (tt_M_reckon (wB_85 (m := 9) hσ) (by omega) (by omega) (by omega)) (fun σ2 h2 => ?_)
  refine wk_v (fun v3 => ?_)
  exact t_swaps20 ⟨q0, q1⟩ ⟨q2, q3⟩ 16 0 σ2 ⟨h2.1, fun i hi => by rw [wn_0] at hi; omega⟩ (by decide) (by decide) (by decide)
theorem tt_M_better_14 {k2 : Int32 → wc_S → Option (Int32 × wc_S)}  : ∀ (n : Nat) (x1 : Int32) (x2 : Int32) (σ : wc_S), wJ 0 σ → 0 ≤ x1.toInt → x1.toInt ≤ 8 → 0 ≤ x2.toInt → x2.toInt ≤ 9 → 9 < x2.toInt + n → (∀ v σ, wJ 0 σ → v.toInt = x1.toInt + 1 → wk (k2 v σ) (fun r => wJ 0 r.2)) → wk (wf_M_better_14 k2 n x1 x2 σ) (fun r => wJ 0 r.2) := by
  intro n
  induction n with
  | zero => intro x1 x2 σ hσ c0 c1 c2 c3 c4 hk2; omega
  | succ n ih =>
    intro x1 x2 σ hσ c0 c1 c2 c3 c4 hk2
    show wk (wf_M_better_14_b k2 (wf_M_better_14 k2 n) x1 x2 σ) _
    unfold wf_M_better_14_b
    refine wk_rm (by assumption) (fun v4 hv4 => ?_)
    refine wk_i (fun hc1 => ?_) (fun hc1 => ?_)
    · try simp only [wn_le, wn_lt, wn_eq, wn_0, wn_1, wn_m1, wn_9, wn_8, wn_4, wn_2, wn_100] at hc1
      refine wk_e (fun v6 ev6 => ?_)
      try (have hv6 : v6.toInt = x1.toInt + 1 := by rw [ev6]; exact wn_up (by omega) (by omega))
      exact hk2 _ _ (by assumption) (by omega)
    · try simp only [wn_le, wn_lt, wn_eq, wn_0, wn_1, wn_m1, wn_9, wn_8, wn_4, wn_2, wn_100] at hc1
      refine wk_b2 (tt_M_swaps (by assumption) (by omega) (by omega) (by omega) (by omega)) (fun r8 σ7 hr2 => ?_)
      have hσ7 : wJ _ σ7 := hr2
      refine wk_i (fun hc3 => ?_) (fun hc3 => ?_)
      · try simp only [wn_le, wn_lt, wn_eq, wn_0, wn_1, wn_m1, wn_9, wn_8, wn_4, wn_2, wn_100] at hc3
        refine wk_e (fun v10 ev10 => ?_)
        try (have hv10 : v10.toInt = x2.toInt + 1 := by rw [ev10]; exact wn_up (by omega) (by omega))
        exact ih _ _ _ (by assumption) (by omega) (by omega) (by omega) (by omega) (by omega) (by assumption)
      · try simp only [wn_le, wn_lt, wn_eq, wn_0, wn_1, wn_m1, wn_9, wn_8, wn_4, wn_2, wn_100] at hc3
        exact wk_s ((show wJ 0 _ from by assumption))
theorem tt_M_better_2   : ∀ (n : Nat) (x1 : Int32) (σ : wc_S), wJ 0 σ → 0 ≤ x1.toInt → x1.toInt ≤ 9 → 9 < x1.toInt + n → wk (wf_M_better_2  n x1 σ) (fun r => wJ 0 r.2) := by
  intro n
  induction n with
  | zero => intro x1 σ hσ c0 c1 c2; omega
  | succ n ih =>
    intro x1 σ hσ c0 c1 c2
    show wk (wf_M_better_2_b (wf_M_better_2  n) x1 σ) _
    unfold wf_M_better_2_b
    refine wk_rm (by assumption) (fun v1 hv1 => ?_)
    refine wk_i (fun hc1 => ?_) (fun hc1 => ?_)
    · try simp only [wn_le, wn_lt, wn_eq, wn_0, wn_1, wn_m1, wn_9, wn_8, wn_4, wn_2, wn_100] at hc1
      exact wk_s ((show wJ 0 _ from by assumption))
    · try simp only [wn_le, wn_lt, wn_eq, wn_0, wn_1, wn_m1, wn_9, wn_8, wn_4, wn_2, wn_100] at hc1
      refine wk_e (fun v3 ev3 => ?_)
      try (have hv3 : v3.toInt = x1.toInt + 1 := by rw [ev3]; exact wn_up (by omega) (by omega))
      exact tt_M_better_14  16 _ _ _ (by assumption) (by first | omega | decide) (by first | omega | decide) (by first | omega | decide) (by first | omega | decide) (by first | omega | decide) (fun v σ hσ e => ih _ _ hσ (by omega) (by omega) (by omega))
theorem tt_M_better  {σ : wc_S} (hσ : wJ 0 σ)  : wk (wf_M_better σ) (fun r => wJ 0 r.2) := by
  unfold wf_M_better
  exact tt_M_better_2  16 _ _ (by assumption) (by first | omega | decide) (by first | omega | decide) (by first | omega | decide) 
theorem tt_M_improve_23   : ∀ (n : Nat) (x1 : Int32) (x2 : Int32) (σ : wc_S), wJ 0 σ → x1.toInt ≤ 100 → 0 ≤ x2.toInt → x2.toInt ≤ 100 → 100 < x2.toInt + n → wk (wf_M_improve_23  n x1 x2 σ) (fun r => wJ 0 r.2) := by
  intro n
  induction n with
  | zero => intro x1 x2 σ hσ c0 c1 c2 c3; omega
  | succ n ih =>
    intro x1 x2 σ hσ c0 c1 c2 c3
    show wk (wf_M_improve_23_b (wf_M_improve_23  n) x1 x2 σ) _
    unfold wf_M_improve_23_b
    refine wk_i (fun hc1 => ?_) (fun hc1 => ?_)
    · try simp only [wn_le, wn_lt, wn_eq, wn_0, wn_1, wn_m1, wn_9, wn_8, wn_4, wn_2, wn_100] at hc1
      exact wk_s ((show wJ 0 _ from by assumption))
    · try simp only [wn_le, wn_lt, wn_eq, wn_0, wn_1, wn_m1, wn_9, wn_8, wn_4, wn_2, wn_100] at hc1
      refine wk_b2 (tt_M_better (by assumption) ) (fun r9 σ8 hr2 => ?_)
      have hσ8 : wJ _ σ8 := hr2
      refine wk_i (fun hc3 => ?_) (fun hc3 => ?_)
      · try simp only [wn_le, wn_lt, wn_eq, wn_0, wn_1, wn_m1, wn_9, wn_8, wn_4, wn_2, wn_100] at hc3
        exact wk_s ((show wJ 0 _ from by assumption))
      · try simp only [wn_le, wn_lt, wn_eq, wn_0, wn_1, wn_m1, wn_9, wn_8, wn_4, wn_2, wn_100] at hc3
        refine wk_e (fun v11 ev11 => ?_)
        try (have hv11 : v11.toInt = x2.toInt + 1 := by rw [ev11]; exact wn_up (by omega) (by omega))
        exact ih _ _ _ (by assumption) (by omega) (by omega) (by omega) (by omega)
theorem tt_M_improve {a1 : Int32} {σ : wc_S} (hσ : wJ 0 σ)  : wk (wf_M_improve a1 σ) (fun r => wJ 0 r.2) := by
  unfold wf_M_improve
  refine wk_v (fun v1 => ?_)
  refine wk_b2 (tt_M_in (by assumption) ) (fun r3 σ2 hr1 => ?_)
  obtain ⟨hσ2, hpσ2⟩ := hr1
  try simp only [wn_0, wn_1, wn_m1, wn_9, wn_8, wn_4, wn_2, wn_100] at hpσ2
  refine wk_b2 (tt_M_goes (by assumption)) (fun r5 σ4 hr2 => ?_)
  obtain ⟨hσ4, hpσ4⟩ := hr2
  try simp only [wn_0, wn_1, wn_m1, wn_9, wn_8, wn_4, wn_2, wn_100] at hpσ4
  refine wk_i (fun hc3 => ?_) (fun hc3 => ?_)
  · try simp only [wn_le, wn_lt, wn_eq, wn_0, wn_1, wn_m1, wn_9, wn_8, wn_4, wn_2, wn_100] at hc3
    exact wk_s ((show wJ 0 _ from by assumption))
  · try simp only [wn_le, wn_lt, wn_eq, wn_0, wn_1, wn_m1, wn_9, wn_8, wn_4, wn_2, wn_100] at hc3
    exact tt_M_improve_23 128 _ _ _ (by assumption) (by first | omega | decide) (by first | omega | decide) (by first | omega | decide) (by first | omega | decide)
theorem tt_M_table_71 {x1 x2 x3 x4 s1 s2 s3 : Int32} {σ : wc_S} (hσ : wJ 0 σ) (h : s1.toInt ≠ 0 → s2.toInt ≠ 0 → s3.toInt ≠ 0 → (0 ≤ x1.toInt ∧ x1.toInt ≤ 1) ∧ (σ 78 x1.toNatClampNeg).toInt ≤ 7) : wk (wf_M_table_71 x1 x2 x3 x4 s1 s2 s3 σ) (fun r => wJ 0 r.2) := by
  unfold wf_M_table_71
  refine wk_b2 (tB_M_goes (wB_85 (m := 0) hσ) (Or.inl rfl)) (fun r σ7 hu => ?_)
  obtain ⟨⟨hu1, hu2⟩, hp⟩ := hu
  have h7 : wJ 0 σ7 := hu1.1
  refine wk_i (fun _ => wk_s h7) (fun hc => ?_)
  have hq := hp (fun e => hc (wn_eq.2 e))
  obtain ⟨hx, hr⟩ := h hq.1 hq.2.1 hq.2.2
  refine wk_e (fun v10 e10 => ?_)
  have h10 : v10.toInt = 8 * x1.toInt := by rw [e10]; exact wn_m8 hx.1 hx.2
  refine wk_g (wn_in (by omega) (by omega)) ?_
  refine wk_e (fun v12 e12 => ?_)
  have h12 : 0 ≤ v12.toInt ∧ v12.toInt ≤ 7 := by
    rw [e12]
    refine ⟨(i_8 h7 (by omega)).1, ?_⟩
    rw [show σ7 78 x1.toNatClampNeg = σ 78 x1.toNatClampNeg from hu2 78 _ (Or.inl (by decide))]
    exact hr
  refine wk_e (fun v13 e13 => ?_)
  have h13 : v13.toInt = v10.toInt + v12.toInt := by rw [e13]; exact wn_add (by omega) (by omega)
  refine wk_g (wn_in (by omega) (by omega)) ?_
  refine wk_e (fun σ15 e15 => ?_)
  have h15 : wJ 0 σ15 := by rw [e15]; exact u_o h7 (by decide)
  have k15 : σ15 78 x1.toNatClampNeg = v12 := by rw [e15, wu_other (Or.inl (by decide)), e12]
  refine wk_g (wn_in (by omega) (by omega)) ?_
  refine wk_e (fun σ17 e17 => ?_)
  have h17 : wJ 0 σ17 := by rw [e17]; exact u_o h15 (by decide)
  have k17 : σ17 78 x1.toNatClampNeg = v12 := by rw [e17, wu_other (Or.inl (by decide)), k15]
  refine wk_g (wn_in (by omega) (by omega)) ?_
  refine wk_e (fun σ19 e19 => ?_)
  have h19 : wJ 0 σ19 := by rw [e19]; exact u_o h17 (by decide)
  have k19 : σ19 78 x1.toNatClampNeg = v12 := by rw [e19, wu_other (Or.inl (by decide)), k17]
  refine wk_g (wn_in (by omega) (by omega)) ?_
  refine wk_e (fun v21 e21 => ?_)
  have h21 : v21 = v12 := by rw [e21, k19]
  refine wk_e (fun v22 e22 => ?_)
  have h22 : v22.toInt = v12.toInt + 1 := by rw [e22, h21]; exact wn_up (by omega) (by omega)
  refine wk_g (wn_in (by omega) (by omega)) ?_
  refine wk_w (u_8 h19 (by omega) (by omega)) (fun σ24 h24 => ?_)
  refine wk_b1 (tt_M_gone h24) (fun σ25 h25 => ?_)
  refine wk_g (wn_in (by omega) (by omega)) ?_
  refine wk_v (fun v27 => ?_)
  exact wk_s h25
theorem tt_M_table_50 {x1 x2 x3 x4 x5 s1 s2 : Int32} {σ : wc_S} (hσ : wJ 0 σ) (h5 : x5.toInt ≠ 0 → 0 ≤ x1.toInt ∧ x1.toInt ≤ 1) : wk (wf_M_table_50 x1 x2 x3 x4 x5 s1 s2 σ) (fun r => wJ 0 r.2) := by
  unfold wf_M_table_50
  refine wk_i (fun _ => ?_) (fun hc => ?_)
  · unfold wf_M_table_70
    exact tt_M_table_71 hσ (fun _ _ h => absurd wn_0 h)
  · have hx := h5 (fun e => hc (wn_eq.2 e))
    refine wk_g (wn_in (by omega) (by omega)) ?_
    refine wk_e (fun v29 e29 => ?_)
    refine wk_i (fun _ => ?_) (fun hc2 => ?_)
    · unfold wf_M_table_70
      exact tt_M_table_71 hσ (fun _ _ h => absurd wn_0 h)
    · simp only [wn_le, wn_8, e29] at hc2
      exact tt_M_table_71 hσ (fun _ _ _ => ⟨hx, by omega⟩)
theorem tt_M_table {a1 : Int32} {a2 : Int32} {a3 : Int32} {a4 : Int32} {σ : wc_S} (hσ : wJ 0 σ)  : wk (wf_M_table a1 a2 a3 a4 σ) (fun r => wJ 0 r.2) := by
  unfold wf_M_table
  refine wk_b2 (tt_M_in (by assumption) ) (fun r2 σ1 hr1 => ?_)
  obtain ⟨hσ1, hpσ1⟩ := hr1
  try simp only [wn_0, wn_1, wn_m1, wn_9, wn_8, wn_4, wn_2, wn_100] at hpσ1
  refine wk_b2 (tt_M_in (by assumption) ) (fun r4 σ3 hr2 => ?_)
  obtain ⟨hσ3, hpσ3⟩ := hr2
  try simp only [wn_0, wn_1, wn_m1, wn_9, wn_8, wn_4, wn_2, wn_100] at hpσ3
  refine wk_i (fun hc3 => ?_) (fun hc3 => ?_)
  · try simp only [wn_le, wn_lt, wn_eq, wn_0, wn_1, wn_m1, wn_9, wn_8, wn_4, wn_2, wn_100] at hc3
    unfold wf_M_table_49
    exact tt_M_table_50 (by assumption) (fun h5 => by omega)
  · try simp only [wn_le, wn_lt, wn_eq, wn_0, wn_1, wn_m1, wn_9, wn_8, wn_4, wn_2, wn_100] at hc3
    refine wk_b2 (tt_M_in (by assumption) ) (fun r32 σ31 hr4 => ?_)
    obtain ⟨hσ31, hpσ31⟩ := hr4
    try simp only [wn_0, wn_1, wn_m1, wn_9, wn_8, wn_4, wn_2, wn_100] at hpσ31
    refine wk_i (fun hc5 => ?_) (fun hc5 => ?_)
    · try simp only [wn_le, wn_lt, wn_eq, wn_0, wn_1, wn_m1, wn_9, wn_8, wn_4, wn_2, wn_100] at hc5
      unfold wf_M_table_49
      exact tt_M_table_50 (by assumption) (fun h5 => by omega)
    · try simp only [wn_le, wn_lt, wn_eq, wn_0, wn_1, wn_m1, wn_9, wn_8, wn_4, wn_2, wn_100] at hc5
      refine wk_b2 (tt_M_in (by assumption) ) (fun r35 σ34 hr6 => ?_)
      obtain ⟨hσ34, hpσ34⟩ := hr6
      try simp only [wn_0, wn_1, wn_m1, wn_9, wn_8, wn_4, wn_2, wn_100] at hpσ34
      refine wk_i (fun hc7 => ?_) (fun hc7 => ?_)
      · try simp only [wn_le, wn_lt, wn_eq, wn_0, wn_1, wn_m1, wn_9, wn_8, wn_4, wn_2, wn_100] at hc7
        unfold wf_M_table_49
        exact tt_M_table_50 (by assumption) (fun h5 => by omega)
      · try simp only [wn_le, wn_lt, wn_eq, wn_0, wn_1, wn_m1, wn_9, wn_8, wn_4, wn_2, wn_100] at hc7
        exact tt_M_table_50 (by assumption) (fun h5 => by omega)
/-! the model's search comes to an end: its row of tried coils counts upwards, as digits do -/
def wW (f : Nat → Nat) (x : Nat) : Nat := match x with
  | 0 => 0
  | x + 1 => wW f x * 11 + (f x + 1)
theorem wW_cong {f g : Nat → Nat} : ∀ (x : Nat), (∀ i, i < x → f i = g i) → wW f x = wW g x := by
  intro x
  induction x with
  | zero => intro _; rfl
  | succ x ih =>
    intro h
    show wW f x * 11 + (f x + 1) = wW g x * 11 + (g x + 1)
    rw [ih (fun i hi => h i (by omega)), h x (by omega)]
theorem wW_le {f : Nat → Nat} : ∀ (x : Nat), (∀ i, i < x → f i ≤ 9) → wW f x + 1 ≤ 11 ^ x := by
  intro x
  induction x with
  | zero => intro _; exact Nat.le_refl _
  | succ x ih =>
    intro h
    have h1 := ih (fun i hi => h i (by omega))
    have h2 := h x (by omega)
    show wW f x * 11 + (f x + 1) + 1 ≤ 11 ^ x * 11
    omega
def wD (σ : wc_S) (i : Nat) : Nat := (σ 86 i).toInt.toNat
/-- how far the row of tried coils has come, x of them set -/
def wN (σ : wc_S) (x : Nat) : Nat := wW (wD σ) x * 11 ^ (9 - x)
theorem wN_lt {σ : wc_S} {x : Nat} (hx : x ≤ 9) (h : ∀ i, i < x → wD σ i ≤ 9) : wN σ x < 11 ^ 9 := by
  have h1 := wW_le x h
  have h2 : (wW (wD σ) x + 1) * 11 ^ (9 - x) ≤ 11 ^ x * 11 ^ (9 - x) := Nat.mul_le_mul_right _ h1
  have h3 : 11 ^ x * 11 ^ (9 - x) = 11 ^ 9 := by rw [← Nat.pow_add]; congr 1; omega
  have h4 : 0 < 11 ^ (9 - x) := Nat.pow_pos (by decide)
  rw [h3, Nat.add_mul, Nat.one_mul] at h2
  unfold wN
  omega
/-- one more at the last place -/
theorem wN_inc {σ τ : wc_S} {x : Nat} (hx : x < 9) (h : ∀ i, i < x → wD τ i = wD σ i) (h1 : wD τ x = wD σ x + 1) : wN σ (x + 1) + 1 ≤ wN τ (x + 1) := by
  unfold wN
  show (wW (wD σ) x * 11 + (wD σ x + 1)) * 11 ^ (9 - (x + 1)) + 1 ≤ (wW (wD τ) x * 11 + (wD τ x + 1)) * 11 ^ (9 - (x + 1))
  rw [wW_cong x h, h1]
  have h4 : 0 < 11 ^ (9 - (x + 1)) := Nat.pow_pos (by decide)
  have : (wW (wD σ) x * 11 + (wD σ x + 1 + 1)) * 11 ^ (9 - (x + 1)) = (wW (wD σ) x * 11 + (wD σ x + 1)) * 11 ^ (9 - (x + 1)) + 11 ^ (9 - (x + 1)) := by
    rw [show wW (wD σ) x * 11 + (wD σ x + 1 + 1) = (wW (wD σ) x * 11 + (wD σ x + 1)) + 1 from rfl, Nat.add_mul, Nat.one_mul]
  rw [this]
  omega
/-- one place deeper -/
theorem wN_deep {σ τ : wc_S} {x : Nat} (hx : x + 1 < 9) (h : ∀ i, i < x + 1 → wD τ i = wD σ i) : wN σ (x + 1) + 1 ≤ wN τ (x + 2) := by
  unfold wN
  show wW (wD σ) (x + 1) * 11 ^ (9 - (x + 1)) + 1 ≤ (wW (wD τ) (x + 1) * 11 + (wD τ (x + 1) + 1)) * 11 ^ (9 - (x + 2))
  rw [wW_cong (x + 1) h]
  have e : 11 ^ (9 - (x + 1)) = 11 * 11 ^ (9 - (x + 2)) := by rw [← Nat.pow_succ']; congr 1; omega
  have h4 : 0 < 11 ^ (9 - (x + 2)) := Nat.pow_pos (by decide)
  rw [e, Nat.add_mul, ← Nat.mul_assoc]
  have : 11 ^ (9 - (x + 2)) ≤ (wD τ (x + 1) + 1) * 11 ^ (9 - (x + 2)) := Nat.le_mul_of_pos_left _ (by omega)
  omega
/-- one place back, and one more there -/
theorem wN_pop {σ τ : wc_S} {x : Nat} (hx : x + 1 < 9) (h : ∀ i, i < x → wD τ i = wD σ i) (h1 : wD τ x = wD σ x + 1) (h9 : wD σ (x + 1) ≤ 9) : wN σ (x + 2) + 1 ≤ wN τ (x + 1) := by
  unfold wN
  show ((wW (wD σ) x * 11 + (wD σ x + 1)) * 11 + (wD σ (x + 1) + 1)) * 11 ^ (9 - (x + 2)) + 1 ≤ (wW (wD τ) x * 11 + (wD τ x + 1)) * 11 ^ (9 - (x + 1))
  rw [wW_cong x h, h1]
  have e : 11 ^ (9 - (x + 1)) = 11 * 11 ^ (9 - (x + 2)) := by rw [← Nat.pow_succ']; congr 1; omega
  have h4 : 0 < 11 ^ (9 - (x + 2)) := Nat.pow_pos (by decide)
  rw [e, ← Nat.mul_assoc]
  have : ((wW (wD σ) x * 11 + (wD σ x + 1)) * 11 + (wD σ (x + 1) + 1)) + 1 ≤ (wW (wD σ) x * 11 + (wD σ x + 1 + 1)) * 11 := by omega
  have h5 := Nat.mul_le_mul_right (11 ^ (9 - (x + 2))) this
  rw [Nat.add_mul, Nat.one_mul] at h5
  omega
theorem tt_M_run_291  {σ : wc_S} (hσ : wJ 0 σ)  : wk (wf_M_run_291 σ) (fun r => wJ 0 r.2) := by
  unfold wf_M_run_291
  refine wk_v (fun v14 => ?_)
  refine wk_i (fun hc1 => ?_) (fun hc1 => ?_)
  · try simp only [wn_le, wn_lt, wn_eq, wn_0, wn_1, wn_m1, wn_9, wn_8, wn_4, wn_2, wn_100] at hc1
    exact wk_s ((show wJ 0 _ from by assumption))
  · try simp only [wn_le, wn_lt, wn_eq, wn_0, wn_1, wn_m1, wn_9, wn_8, wn_4, wn_2, wn_100] at hc1
    refine wk_rm (by assumption) (fun v16 hv16 => ?_)
    exact wk_s ((show wJ 0 _ from by assumption))
theorem tC_M_reckon {m : Int} {a2 : Int32} {σ : wc_S} (hσ : wB 86 m σ) (q1 : a2.toInt ≤ 9) (q2 : a2.toInt ≤ m) : wk (wf_M_reckon 86 a2 σ) (fun τ => wJ 0 τ ∧ (∀ i, τ 86 i = σ 86 i) ∧ τ 71 1 = σ 71 1) := by
  obtain ⟨x, h1, h2⟩ := tt_M_reckon hσ (Or.inr rfl) q1 q2
  have hw := wr_M_reckon 86 a2 σ x h1
  exact ⟨x, h1, h2.1, fun i => hw 86 i (fun q => by unfold wS_M_reckon at q; omega), hw 71 1 (fun q => by unfold wS_M_reckon at q; omega)⟩
theorem t_run61 {c : Int} (hc : 1 ≤ c ∧ c ≤ 9) : ∀ (n x : Nat) (x2 x3 x4 : Int32) (σ : wc_S), wJ 0 σ → (σ 71 1).toInt = c → x4.toInt = x → (x : Int) < c → (∀ i : Nat, i < x → 0 ≤ (σ 86 i).toInt ∧ (σ 86 i).toInt < c) → 0 ≤ (σ 86 x).toInt → (σ 86 x).toInt ≤ c → 11 ^ 9 ≤ wN σ (x + 1) + n → wk (wf_M_run_61 n x2 x3 x4 σ) (fun r => wJ 0 r.2) := by
  intro n
  induction n with
  | zero =>
    intro x x2 x3 x4 σ hσ hcnt hx4 hxc hpre hd0 hd1 hN
    have h := wN_lt (σ := σ) (x := x + 1) (by omega) (fun i hi => by
      unfold wD
      by_cases e : i = x
      · rw [e]; omega
      · have := hpre i (by omega); omega)
    omega
  | succ n ih =>
    intro x x2 x3 x4 σ hσ hcnt hx4 hxc hpre hd0 hd1 hN
    have ex : x4.toNatClampNeg = x := by rw [wn_tn]; omega
    have inc : ∀ (y2 y3 : Int32) (τ : wc_S), wJ 0 τ → (∀ i, τ 86 i = σ 86 i) → τ 71 1 = σ 71 1 → (σ 86 x).toInt < c → ∀ v : Int32, v = τ 86 x4.toNatClampNeg + 1 → wk (wf_M_run_61 n y2 y3 x4 (wc_u τ 86 x4.toNatClampNeg v)) (fun r => wJ 0 r.2) := by
      intro y2 y3 τ hτ h86 h71 hlt v ev
      rw [ex] at ev ⊢
      have hv : v.toInt = (σ 86 x).toInt + 1 := by rw [ev, h86]; exact wn_up (by omega) (by omega)
      have d1 : wD (wc_u τ 86 x v) x = wD σ x + 1 := by unfold wD; rw [wu_same, hv]; omega
      have d2 : ∀ i, i < x → wD (wc_u τ 86 x v) i = wD σ i := fun i hi => by unfold wD; rw [wu_other (Or.inr (by omega)), h86]
      have hN2 := wN_inc (σ := σ) (τ := wc_u τ 86 x v) (x := x) (by omega) d2 d1
      refine ih x y2 y3 x4 _ (u_o hτ (by decide)) ?_ hx4 hxc ?_ ?_ ?_ (by omega)
      · rw [wu_other (Or.inl (by decide)), h71]; exact hcnt
      · intro i hi; rw [wu_other (Or.inr (by omega)), h86]; exact hpre i hi
      · rw [wu_same, hv]; omega
      · rw [wu_same, hv]; omega
    have deep : ∀ (y2 y3 : Int32) (τ : wc_S), wJ 0 τ → (∀ i, τ 86 i = σ 86 i) → τ 71 1 = σ 71 1 → (σ 86 x).toInt < c → (x : Int) + 1 < c → ∀ v : Int32, v.toInt = x + 1 → wk (wf_M_run_61 n y2 y3 v (wc_u τ 86 v.toNatClampNeg 0)) (fun r => wJ 0 r.2) := by
      intro y2 y3 τ hτ h86 h71 hlt hx1 v hv
      have ev : v.toNatClampNeg = x + 1 := by rw [wn_tn]; omega
      rw [ev]
      have d2 : ∀ i, i < x + 1 → wD (wc_u τ 86 (x + 1) 0) i = wD σ i := fun i hi => by unfold wD; rw [wu_other (Or.inr (by omega)), h86]
      have hN2 : wN σ (x + 1) + 1 ≤ wN (wc_u τ 86 (x + 1) 0) (x + 1 + 1) := wN_deep (σ := σ) (τ := wc_u τ 86 (x + 1) 0) (x := x) (by omega) d2
      refine ih (x + 1) y2 y3 v _ (u_o hτ (by decide)) ?_ (by omega) (by omega) ?_ ?_ ?_ (by omega)
      · rw [wu_other (Or.inl (by decide)), h71]; exact hcnt
      · intro i hi; rw [wu_other (Or.inr (by omega)), h86]
        by_cases e : i = x
        · rw [e]; omega
        · exact hpre i (by omega)
      · rw [wu_same, wn_0]; omega
      · rw [wu_same, wn_0]; omega
    have cp : ∀ (n' : Nat) (y2 y3 x5 : Int32) (τ : wc_S), wJ 0 τ → (∀ i, τ 86 i = σ 86 i) → τ 71 1 = σ 71 1 → (σ 86 x).toInt < c → (x : Int) + 1 = c → 0 ≤ x5.toInt → x5.toInt ≤ 9 → 9 < x5.toInt + n' → wk (wf_M_run_234 (wf_M_run_61 n) n' y2 y3 x4 x5 τ) (fun r => wJ 0 r.2) := by
      intro n'
      induction n' with
      | zero => intro y2 y3 x5 τ hτ h86 h71 hlt hx1 c0 c1 c2; omega
      | succ n' ih2 =>
        intro y2 y3 x5 τ hτ h86 h71 hlt hx1 c0 c1 c2
        show wk (wf_M_run_234_b (wf_M_run_61 n) (wf_M_run_234 (wf_M_run_61 n) n') y2 y3 x4 x5 τ) _
        unfold wf_M_run_234_b
        refine wk_rm hτ (fun v57 hv57 => ?_)
        rw [h71, hcnt] at hv57
        refine wk_i (fun hc1 => ?_) (fun hc1 => ?_)
        · refine wk_g (wn_in (by omega) (by omega)) ?_
          refine wk_e (fun v60 e60 => ?_)
          refine wk_e (fun v61 e61 => ?_)
          refine wk_g (wn_in (by omega) (by omega)) ?_
          refine wk_e (fun σ63 e63 => ?_)
          rw [e63]
          exact inc y2 y3 τ hτ h86 h71 hlt v61 (by rw [e61, e60])
        · simp only [wn_le] at hc1
          refine wk_g (wn_in (by omega) (by omega)) ?_
          have hb : 0 ≤ (τ 86 x5.toNatClampNeg).toInt ∧ (τ 86 x5.toNatClampNeg).toInt ≤ 8 := by
            rw [h86, wn_tn]
            by_cases e : x5.toInt.toNat = x
            · rw [e]; omega
            · have := hpre x5.toInt.toNat (by omega); omega
          refine wk_r (fun v => 0 ≤ v.toInt ∧ v.toInt ≤ 8) hb (fun v65 hv65 => ?_)
          refine wk_g (wn_in (by omega) (by omega)) ?_
          refine wk_e (fun σ67 e67 => ?_)
          refine wk_e (fun v68 e68 => ?_)
          have h68 : v68.toInt = x5.toInt + 1 := by rw [e68]; exact wn_up (by omega) (by omega)
          refine ih2 y2 y3 v68 σ67 ?_ ?_ ?_ hlt hx1 (by omega) (by omega) (by omega)
          · rw [e67]; exact u_8 hτ (by omega) hv65
          · intro i; rw [e67, wu_other (Or.inl (by decide))]; exact h86 i
          · rw [e67, wu_other (Or.inl (by decide))]; exact h71
    have pop : (σ 86 x).toInt = c → wk (wf_M_run_89 (wf_M_run_61 n) x2 x3 x4 σ) (fun r => wJ 0 r.2) := by
      intro hfull
      unfold wf_M_run_89
      refine wk_e (fun v19 e19 => ?_)
      have h19 : v19.toInt = x4.toInt - 1 := by
        rw [e19, wn_add (by rw [wn_m1]; omega) (by rw [wn_m1]; omega), wn_m1]; omega
      refine wk_i (fun hneg => ?_) (fun hneg => ?_)
      · simp only [wn_lt, wn_0] at hneg
        have x0 : x = 0 := by omega
        subst x0
        have hN1 : wN σ (0 + 1) = (0 * 11 + (wD σ 0 + 1)) * 11 ^ 8 := rfl
        have hD : wD σ 0 ≤ 9 := by unfold wD; omega
        have hn : ∃ k, n = k + 1 := ⟨n - 1, by omega⟩
        obtain ⟨k, rfl⟩ := hn
        show wk (wf_M_run_61_b (wf_M_run_61 k) x2 x3 v19 σ) _
        unfold wf_M_run_61_b
        refine wk_i (fun _ => tt_M_run_291 hσ) (fun hq => ?_)
        simp only [wn_lt, wn_0] at hq
        omega
      · simp only [wn_lt, wn_0] at hneg
        have hy : ∃ y, x = y + 1 := ⟨x - 1, by omega⟩
        obtain ⟨y, rfl⟩ := hy
        have ey : v19.toNatClampNeg = y := by rw [wn_tn]; omega
        refine wk_g (wn_in (by omega) (by omega)) ?_
        refine wk_e (fun v22 e22 => ?_)
        refine wk_e (fun v23 e23 => ?_)
        refine wk_g (wn_in (by omega) (by omega)) ?_
        refine wk_e (fun σ25 e25 => ?_)
        rw [ey] at e22 e25
        have hy2 := hpre y (by omega)
        have h23 : v23.toInt = (σ 86 y).toInt + 1 := by rw [e23, e22]; exact wn_up (by omega) (by omega)
        have d1 : wD σ25 y = wD σ y + 1 := by unfold wD; rw [e25, wu_same, h23]; omega
        have d2 : ∀ i, i < y → wD σ25 i = wD σ i := fun i hi => by unfold wD; rw [e25, wu_other (Or.inr (by omega))]
        have hN2 : wN σ (y + 1 + 1) + 1 ≤ wN σ25 (y + 1) := wN_pop (σ := σ) (τ := σ25) (x := y) (by omega) d2 d1 (by unfold wD; omega)
        refine ih y x2 x3 v19 σ25 ?_ ?_ (by omega) (by omega) ?_ ?_ ?_ (by omega)
        · rw [e25]; exact u_o hσ (by decide)
        · rw [e25, wu_other (Or.inl (by decide))]; exact hcnt
        · intro i hi; rw [e25, wu_other (Or.inr (by omega))]; exact hpre i (by omega)
        · rw [e25, wu_same, h23]; omega
        · rw [e25, wu_same, h23]; omega
    show wk (wf_M_run_61_b (wf_M_run_61 n) x2 x3 x4 σ) _
    unfold wf_M_run_61_b
    refine wk_i (fun _ => tt_M_run_291 hσ) (fun _ => ?_)
    refine wk_rm hσ (fun v17 hv17 => ?_)
    refine wk_i (fun h17 => ?_) (fun h17 => ?_)
    · have := wn_eq.1 h17; omega
    refine wk_g (wn_in (by omega) (by omega)) ?_
    refine wk_e (fun v27 e27 => ?_)
    refine wk_rm hσ (fun v28 hv28 => ?_)
    refine wk_i (fun h27 => ?_) (fun h27 => ?_)
    · refine pop ?_
      have := wn_eq.1 h27
      rw [e27, ex] at this
      omega
    have hlt : (σ 86 x).toInt < c := by
      have h : ¬ v27.toInt = v28.toInt := fun h => h27 (wn_eq.2 h)
      rw [e27, ex] at h
      omega
    have hB : wB 86 (x + 1) σ := ⟨hσ, fun i hi => by
      by_cases e : i = x
      · rw [e]; omega
      · have := hpre i (by omega); omega⟩
    have i140 : wk (wf_M_run_140 (wf_M_run_61 n) x2 x3 x4 σ) (fun r => wJ 0 r.2) := by
      unfold wf_M_run_140
      refine wk_g (wn_in (by omega) (by omega)) ?_
      refine wk_e (fun v60 e60 => ?_)
      refine wk_e (fun v61 e61 => ?_)
      refine wk_g (wn_in (by omega) (by omega)) ?_
      refine wk_e (fun σ63 e63 => ?_)
      rw [e63]
      exact inc x2 x3 σ hσ (fun _ => rfl) rfl hlt v61 (by rw [e61, e60])
    refine wk_g (wn_in (by omega) (by omega)) ?_
    refine wk_v (fun v31 => ?_)
    refine wk_b2 (tB_M_stands (by omega)) (fun r33 u hu => ?_)
    have hu : u = σ := hu
    rw [hu]
    refine wk_i (fun _ => ?_) (fun _ => i140)
    refine wk_b2 (tB_M_mayBe hB (Or.inr rfl) (by omega) (by omega) (by omega)) (fun r41 u2 hu2 => ?_)
    have hu2 : u2 = σ := hu2
    rw [hu2]
    refine wk_i (fun _ => i140) (fun _ => ?_)
    refine wk_i (fun _ => ?_) (fun _ => ?_)
    · refine wk_w (u_71 hσ (by decide) (by decide)) (fun σ76 h76 => ?_)
      exact tt_M_run_291 h76
    refine wk_v (fun v44 => ?_)
    refine wk_e (fun v45 e45 => ?_)
    have h45 : v45.toInt = x4.toInt + 1 := by rw [e45]; exact wn_up (by omega) (by omega)
    refine wk_b1 (tC_M_reckon hB (by omega) (by omega)) (fun σ46 h46 => ?_)
    obtain ⟨h46, k86, k71⟩ := h46
    have i210 : wk (wf_M_run_210 (wf_M_run_61 n) x2 v44 x4 σ46) (fun r => wJ 0 r.2) := by
      unfold wf_M_run_210
      refine wk_rm h46 (fun v49 hv49 => ?_)
      rw [k71, hcnt] at hv49
      refine wk_e (fun v50 e50 => ?_)
      have h50 : v50.toInt = v49.toInt - 1 := by rw [e50]; exact wn_dn (by omega) (by omega)
      refine wk_i (fun hl => ?_) (fun hl => ?_)
      · have hl := wn_eq.1 hl
        refine wk_e (fun σ55 e55 => ?_)
        refine wk_v (fun v56 => ?_)
        refine cp 16 v56 v44 0 σ55 ?_ ?_ ?_ hlt (by omega) (by decide) (by decide) (by decide)
        · rw [e55]; exact u_71 h46 (by decide) (by decide)
        · intro i; rw [e55, wu_other (Or.inl (by decide))]; exact k86 i
        · rw [e55, wu_other (Or.inr (by decide))]; exact k71
      · have hl : ¬ x4.toInt = v50.toInt := fun h => hl (wn_eq.2 h)
        refine wk_e (fun v52 e52 => ?_)
        have h52 : v52.toInt = x4.toInt + 1 := by rw [e52]; exact wn_up (by omega) (by omega)
        refine wk_g (wn_in (by omega) (by omega)) ?_
        refine wk_e (fun σ54 e54 => ?_)
        rw [e54]
        exact deep x2 v44 σ46 h46 k86 k71 hlt (by omega) v52 (by omega)
    refine wk_v (fun v47 => ?_)
    refine wk_i (fun _ => i210) (fun _ => ?_)
    refine wk_v (fun v69 => ?_)
    refine wk_i (fun _ => i210) (fun _ => ?_)
    refine wk_g (wn_in (by omega) (by omega)) ?_
    refine wk_e (fun v60 e60 => ?_)
    refine wk_e (fun v61 e61 => ?_)
    refine wk_g (wn_in (by omega) (by omega)) ?_
    refine wk_e (fun σ63 e63 => ?_)
    rw [e63]
    exact inc x2 v44 σ46 h46 k86 k71 hlt v61 (by rw [e61, e60])
theorem tt_M_run {a1 : Int32} {σ : wc_S} (hσ : wJ 0 σ) : wk (wf_M_run a1 σ) (fun r => wJ 0 r.2) := by
  unfold wf_M_run
  refine wk_b2 (tt_M_in hσ) (fun r2 σ1 h1 => ?_)
  refine wk_b2 (tt_M_goes h1.1) (fun r4 σ3 h3 => ?_)
  refine wk_i (fun _ => wk_s h3.1) (fun _ => ?_)
  refine wk_w (u_71 h3.1 (by decide) (by decide)) (fun σ6 h6 => ?_)
  refine wk_w (u_71 h6 (by decide) (by decide)) (fun σ7 h7 => ?_)
  refine wk_w (u_71 h7 (by decide) (by decide)) (fun σ8 h8 => ?_)
  refine wk_g rfl ?_
  refine wk_e (fun σ10 e10 => ?_)
  have h10 : wJ 0 σ10 := by rw [e10]; exact u_o h8 (by decide)
  refine wk_rm h10 (fun v11 hv11 => ?_)
  refine wk_i (fun _ => ?_) (fun hne => ?_)
  · exact wk_w (u_71 h10 (by decide) (by decide)) (fun σ77 h77 => wk_s h77)
  · have hne : ¬ v11.toInt = 0 := fun h => hne (wn_eq.2 h)
    have d0 : (σ10 86 0).toInt = 0 := by rw [e10, show ((0 : Int32).toNatClampNeg) = 0 from rfl, wu_same]; rfl
    exact t_run61 (c := v11.toInt) (by omega) wc_big 0 0 a1 0 σ10 h10 (by omega) rfl (by omega) (fun i hi => by omega) (by omega) (by omega) (by
      have : (11 : Nat) ^ 9 ≤ wc_big := by decide
      omega)
