/-! the model's rows of coils -/
def wB (k1 : Nat) (m : Int) (σ : wc_S) : Prop := wJ 0 σ ∧ ∀ i : Nat, (i : Int) < m → 0 ≤ (σ k1 i).toInt ∧ (σ k1 i).toInt ≤ 8
theorem wB_1 {k1 : Nat} {m : Int} {σ : wc_S} (h : wB k1 m σ) : wJ 0 σ := h.1
theorem wB_r {k1 : Nat} {m : Int} {σ : wc_S} {x : Int32} (h : wB k1 m σ) (h1 : 0 ≤ x.toInt) (h2 : x.toInt < m) : 0 ≤ (σ k1 x.toNatClampNeg).toInt ∧ (σ k1 x.toNatClampNeg).toInt ≤ 8 := h.2 _ (by rw [wn_tn]; omega)
theorem wB_u {k1 k i : Nat} {m : Int} {σ : wc_S} {x : Int32} (h : wB k1 m σ) (hk : k ≠ k1) (hu : wJ 0 σ → wJ 0 (wc_u σ k i x)) : wB k1 m (wc_u σ k i x) := ⟨hu h.1, fun j hj => by rw [wu_other (Or.inl (Ne.symm hk))]; exact h.2 j hj⟩
theorem wk_wB {α : Type} {k1 : Nat} {m : Int} {σ : wc_S} {f : wc_S → Option α} {P : α → Prop} (hx : wB k1 m σ) (h : ∀ τ, wB k1 m τ → wk (f τ) P) : wk (wc_st σ f) P := h σ hx
theorem wB_85 {m : Int} {σ : wc_S} (h : wJ 0 σ) : wB 85 m σ := ⟨h, fun i _ => i_8 h (by omega)⟩
theorem tB_M_jumpOf {k1 : Nat} {m : Int} {a1 a2 : Int32} {σ : wc_S} (hσ : wB k1 m σ) (q0 : 0 ≤ a1.toInt) (q1 : a1.toInt ≤ 8) (q2 : 0 ≤ a2.toInt) (q3 : a2.toInt ≤ 8) : wk (wf_M_jumpOf a1 a2 σ) (fun r => wB k1 m r.2) := by
  obtain ⟨x, h1, h2⟩ := tt_M_jumpOf hσ.1 q0 q1 q2 q3
  have e : x.2 = σ := wr_same (wr_M_jumpOf a1 a2 σ x h1) (fun _ _ h => h)
  exact ⟨x, h1, by show wB k1 m x.2; rw [e]; exact hσ⟩
theorem tt_M_mayBe {m : Int} {k1 : Nat} {a2 : Int32} {σ : wc_S} (hσ : wB k1 m σ) (q0 : k1 = 85 ∨ k1 = 86) (q1 : 0 ≤ a2.toInt) (q2 : a2.toInt ≤ 8) (q3 : a2.toInt < m) : wk (wf_M_mayBe k1 a2 σ) (fun r => wB k1 m r.2) := by
  unfold wf_M_mayBe
  refine wk_g (wn_in (by first | omega | decide) (by first | omega | decide)) ?_
  refine wk_r (fun v => 0 ≤ v.toInt ∧ v.toInt ≤ 8) (wB_r (by assumption) (by omega) (by omega)) (fun v2 hv2 => ?_)
  refine wk_g (wn_in (by first | omega | decide) (by first | omega | decide)) ?_
  refine wk_v (fun v4 => ?_)
  refine wk_i (fun hc1 => ?_) (fun hc1 => ?_)
  · try simp only [wn_le, wn_lt, wn_eq, wn_0, wn_1, wn_m1, wn_9, wn_8, wn_4, wn_2, wn_100] at hc1
    refine wk_i (fun hc2 => ?_) (fun hc2 => ?_)
    · try simp only [wn_le, wn_lt, wn_eq, wn_0, wn_1, wn_m1, wn_9, wn_8, wn_4, wn_2, wn_100] at hc2
      exact wk_s ((show wB k1 m _ from by assumption))
    · try simp only [wn_le, wn_lt, wn_eq, wn_0, wn_1, wn_m1, wn_9, wn_8, wn_4, wn_2, wn_100] at hc2
      refine wk_e (fun v7 ev7 => ?_)
      try (have hv7 : v7.toInt = a2.toInt - 1 := by rw [ev7]; exact wn_dn (by omega) (by omega))
      refine wk_g (wn_in (by first | omega | decide) (by first | omega | decide)) ?_
      refine wk_r (fun v => 0 ≤ v.toInt ∧ v.toInt ≤ 8) (wB_r (by assumption) (by omega) (by omega)) (fun v9 hv9 => ?_)
      refine wk_b2 (tB_M_jumpOf (by assumption) (by omega) (by omega) (by omega) (by omega)) (fun r11 σ10 hr3 => ?_)
      have hσ10 : wB _ _ σ10 := hr3
      refine wk_i (fun hc4 => ?_) (fun hc4 => ?_)
      · try simp only [wn_le, wn_lt, wn_eq, wn_0, wn_1, wn_m1, wn_9, wn_8, wn_4, wn_2, wn_100] at hc4
        refine wk_v (fun v13 => ?_)
        refine wk_i (fun hc5 => ?_) (fun hc5 => ?_)
        · try simp only [wn_le, wn_lt, wn_eq, wn_0, wn_1, wn_m1, wn_9, wn_8, wn_4, wn_2, wn_100] at hc5
          refine wk_g (wn_in (by first | omega | decide) (by first | omega | decide)) ?_
          refine wk_v (fun v16 => ?_)
          refine wk_g (wn_in (by first | omega | decide) (by first | omega | decide)) ?_
          refine wk_v (fun v18 => ?_)
          refine wk_i (fun hc6 => ?_) (fun hc6 => ?_)
          · try simp only [wn_le, wn_lt, wn_eq, wn_0, wn_1, wn_m1, wn_9, wn_8, wn_4, wn_2, wn_100] at hc6
            exact wk_s ((show wB k1 m _ from by assumption))
          · try simp only [wn_le, wn_lt, wn_eq, wn_0, wn_1, wn_m1, wn_9, wn_8, wn_4, wn_2, wn_100] at hc6
            exact wk_s ((show wB k1 m _ from by assumption))
        · try simp only [wn_le, wn_lt, wn_eq, wn_0, wn_1, wn_m1, wn_9, wn_8, wn_4, wn_2, wn_100] at hc5
          refine wk_g (wn_in (by first | omega | decide) (by first | omega | decide)) ?_
          refine wk_v (fun v21 => ?_)
          refine wk_g (wn_in (by first | omega | decide) (by first | omega | decide)) ?_
          refine wk_v (fun v23 => ?_)
          refine wk_i (fun hc7 => ?_) (fun hc7 => ?_)
          · try simp only [wn_le, wn_lt, wn_eq, wn_0, wn_1, wn_m1, wn_9, wn_8, wn_4, wn_2, wn_100] at hc7
            exact wk_s ((show wB k1 m _ from by assumption))
          · try simp only [wn_le, wn_lt, wn_eq, wn_0, wn_1, wn_m1, wn_9, wn_8, wn_4, wn_2, wn_100] at hc7
            exact wk_s ((show wB k1 m _ from by assumption))
      · try simp only [wn_le, wn_lt, wn_eq, wn_0, wn_1, wn_m1, wn_9, wn_8, wn_4, wn_2, wn_100] at hc4
        exact wk_s ((show wB k1 m _ from by assumption))
  · try simp only [wn_le, wn_lt, wn_eq, wn_0, wn_1, wn_m1, wn_9, wn_8, wn_4, wn_2, wn_100] at hc1
    exact wk_s ((show wB k1 m _ from by assumption))
theorem tt_M_isWorn_104 {m : Int} {k1 : Nat} {k46 : Int32 → Int32 → Int32 → wc_S → Option (Int32 × wc_S)} (q0 : k1 = 85 ∨ k1 = 86) : ∀ (n : Nat) (x2 : Int32) (x3 : Int32) (x5 : Int32) (x6 : Int32) (x7 : Int32) (x8 : Int32) (σ : wc_S), wB k1 m σ → 0 ≤ x2.toInt → x2.toInt ≤ x3.toInt + 1 → x3.toInt ≤ 8 → x3.toInt < m → 0 ≤ x5.toInt → x5.toInt ≤ 3 → 0 ≤ x8.toInt → x8.toInt ≤ x3.toInt + 1 → 9 < x8.toInt + n → (∀ u v w σ, wB k1 m σ → u.toInt = x2.toInt → v.toInt = x3.toInt → w.toInt = x5.toInt + 1 → wk (k46 u v w σ) (fun r => wB k1 m r.2)) → wk (wf_M_isWorn_104 k1 k46 n x2 x3 x5 x6 x7 x8 σ) (fun r => wB k1 m r.2) := by
  intro n
  induction n with
  | zero => intro x2 x3 x5 x6 x7 x8 σ hσ c0 c1 c2 c3 c4 c5 c6 c7 c8 hk46; omega
  | succ n ih =>
    intro x2 x3 x5 x6 x7 x8 σ hσ c0 c1 c2 c3 c4 c5 c6 c7 c8 hk46
    show wk (wf_M_isWorn_104_b k1 k46 (wf_M_isWorn_104 k1 k46 n) x2 x3 x5 x6 x7 x8 σ) _
    unfold wf_M_isWorn_104_b
    refine wk_i (fun hc1 => ?_) (fun hc1 => ?_)
    · try simp only [wn_le, wn_lt, wn_eq, wn_0, wn_1, wn_m1, wn_9, wn_8, wn_4, wn_2, wn_100] at hc1
      refine wk_i (fun hc2 => ?_) (fun hc2 => ?_)
      · try simp only [wn_le, wn_lt, wn_eq, wn_0, wn_1, wn_m1, wn_9, wn_8, wn_4, wn_2, wn_100] at hc2
        unfold wf_M_isWorn_187
        refine wk_e (fun v15 ev15 => ?_)
        try (have hv15 : v15.toInt = x5.toInt + 1 := by rw [ev15]; exact wn_up (by omega) (by omega))
        exact hk46 _ _ _ _ (by assumption) (by omega) (by omega) (by omega)
      · try simp only [wn_le, wn_lt, wn_eq, wn_0, wn_1, wn_m1, wn_9, wn_8, wn_4, wn_2, wn_100] at hc2
        refine wk_g (wn_in (by first | omega | decide) (by first | omega | decide)) ?_
        refine wk_v (fun v17 => ?_)
        refine wk_i (fun hc3 => ?_) (fun hc3 => ?_)
        · try simp only [wn_le, wn_lt, wn_eq, wn_0, wn_1, wn_m1, wn_9, wn_8, wn_4, wn_2, wn_100] at hc3
          unfold wf_M_isWorn_187
          refine wk_e (fun v15 ev15 => ?_)
          try (have hv15 : v15.toInt = x5.toInt + 1 := by rw [ev15]; exact wn_up (by omega) (by omega))
          exact hk46 _ _ _ _ (by assumption) (by omega) (by omega) (by omega)
        · try simp only [wn_le, wn_lt, wn_eq, wn_0, wn_1, wn_m1, wn_9, wn_8, wn_4, wn_2, wn_100] at hc3
          exact wk_s ((show wB k1 m _ from by assumption))
    · try simp only [wn_le, wn_lt, wn_eq, wn_0, wn_1, wn_m1, wn_9, wn_8, wn_4, wn_2, wn_100] at hc1
      refine wk_g (wn_in (by first | omega | decide) (by first | omega | decide)) ?_
      refine wk_r (fun v => 0 ≤ v.toInt ∧ v.toInt ≤ 8) (wB_r (by assumption) (by omega) (by omega)) (fun v20 hv20 => ?_)
      refine wk_g (wn_in (by first | omega | decide) (by first | omega | decide)) ?_
      refine wk_v (fun v22 => ?_)
      refine wk_g (wn_in (by first | omega | decide) (by first | omega | decide)) ?_
      refine wk_v (fun v24 => ?_)
      refine wk_i (fun hc4 => ?_) (fun hc4 => ?_)
      · try simp only [wn_le, wn_lt, wn_eq, wn_0, wn_1, wn_m1, wn_9, wn_8, wn_4, wn_2, wn_100] at hc4
        unfold wf_M_isWorn_162
        refine wk_e (fun v26 ev26 => ?_)
        try (have hv26 : v26.toInt = x8.toInt + 1 := by rw [ev26]; exact wn_up (by omega) (by omega))
        exact ih _ _ _ _ _ _ _ (by assumption) (by omega) (by omega) (by omega) (by omega) (by omega) (by omega) (by omega) (by omega) (by omega) (by assumption)
      · try simp only [wn_le, wn_lt, wn_eq, wn_0, wn_1, wn_m1, wn_9, wn_8, wn_4, wn_2, wn_100] at hc4
        refine wk_g (wn_in (by first | omega | decide) (by first | omega | decide)) ?_
        refine wk_r (fun v => 0 ≤ v.toInt ∧ v.toInt ≤ 8) (wB_r (by assumption) (by omega) (by omega)) (fun v28 hv28 => ?_)
        refine wk_g (wn_in (by first | omega | decide) (by first | omega | decide)) ?_
        refine wk_v (fun v30 => ?_)
        refine wk_g (wn_in (by first | omega | decide) (by first | omega | decide)) ?_
        refine wk_v (fun v32 => ?_)
        refine wk_i (fun hc5 => ?_) (fun hc5 => ?_)
        · try simp only [wn_le, wn_lt, wn_eq, wn_0, wn_1, wn_m1, wn_9, wn_8, wn_4, wn_2, wn_100] at hc5
          unfold wf_M_isWorn_162
          refine wk_e (fun v26 ev26 => ?_)
          try (have hv26 : v26.toInt = x8.toInt + 1 := by rw [ev26]; exact wn_up (by omega) (by omega))
          exact ih _ _ _ _ _ _ _ (by assumption) (by omega) (by omega) (by omega) (by omega) (by omega) (by omega) (by omega) (by omega) (by omega) (by assumption)
        · try simp only [wn_le, wn_lt, wn_eq, wn_0, wn_1, wn_m1, wn_9, wn_8, wn_4, wn_2, wn_100] at hc5
          refine wk_g (wn_in (by first | omega | decide) (by first | omega | decide)) ?_
          refine wk_r (fun v => 0 ≤ v.toInt ∧ v.toInt ≤ 8) (wB_r (by assumption) (by omega) (by omega)) (fun v35 hv35 => ?_)
          refine wk_g (wn_in (by first | omega | decide) (by first | omega | decide)) ?_
          refine wk_v (fun v37 => ?_)
          refine wk_e (fun v38 ev38 => ?_)
          try (have hv38 : v38.toInt = x7.toInt + v37.toInt := by rw [ev38]; exact wn_add (by omega) (by omega))
          unfold wf_M_isWorn_162
          refine wk_e (fun v26 ev26 => ?_)
          try (have hv26 : v26.toInt = x8.toInt + 1 := by rw [ev26]; exact wn_up (by omega) (by omega))
          exact ih _ _ _ _ _ _ _ (by assumption) (by omega) (by omega) (by omega) (by omega) (by omega) (by omega) (by omega) (by omega) (by omega) (by assumption)
theorem tt_M_isWorn_46 {m : Int} {k1 : Nat} (q0 : k1 = 85 ∨ k1 = 86) : ∀ (n : Nat) (x2 : Int32) (x3 : Int32) (x5 : Int32) (σ : wc_S), wB k1 m σ → 0 ≤ x2.toInt → x2.toInt ≤ x3.toInt + 1 → x3.toInt ≤ 8 → x3.toInt < m → 0 ≤ x3.toInt → 0 ≤ x5.toInt → x5.toInt ≤ 4 → 4 < x5.toInt + n → wk (wf_M_isWorn_46 k1 n x2 x3 x5 σ) (fun r => wB k1 m r.2) := by
  intro n
  induction n with
  | zero => intro x2 x3 x5 σ hσ c0 c1 c2 c3 c4 c5 c6 c7; omega
  | succ n ih =>
    intro x2 x3 x5 σ hσ c0 c1 c2 c3 c4 c5 c6 c7
    show wk (wf_M_isWorn_46_b k1 (wf_M_isWorn_46 k1 n) x2 x3 x5 σ) _
    unfold wf_M_isWorn_46_b
    refine wk_rk (wB_1 (by assumption)) (fun v4 hv4 => ?_)
    refine wk_i (fun hc1 => ?_) (fun hc1 => ?_)
    · try simp only [wn_le, wn_lt, wn_eq, wn_0, wn_1, wn_m1, wn_9, wn_8, wn_4, wn_2, wn_100] at hc1
      exact wk_s ((show wB k1 m _ from by assumption))
    · try simp only [wn_le, wn_lt, wn_eq, wn_0, wn_1, wn_m1, wn_9, wn_8, wn_4, wn_2, wn_100] at hc1
      refine wk_g (wn_in (by first | omega | decide) (by first | omega | decide)) ?_
      refine wk_r (fun v => 0 ≤ v.toInt ∧ v.toInt ≤ 8) (wB_r (by assumption) (by omega) (by omega)) (fun v7 hv7 => ?_)
      refine wk_g (wn_in (by first | omega | decide) (by first | omega | decide)) ?_
      refine wk_v (fun v9 => ?_)
      refine wk_g (wn_in (by first | omega | decide) (by first | omega | decide)) ?_
      refine wk_v (fun v11 => ?_)
      refine wk_i (fun hc2 => ?_) (fun hc2 => ?_)
      · try simp only [wn_le, wn_lt, wn_eq, wn_0, wn_1, wn_m1, wn_9, wn_8, wn_4, wn_2, wn_100] at hc2
        unfold wf_M_isWorn_95
        unfold wf_M_isWorn_96
        exact tt_M_isWorn_104 (by omega) 16 _ _ _ _ _ _ _ (by assumption) (by first | omega | decide) (by first | omega | decide) (by first | omega | decide) (by first | omega | decide) (by first | omega | decide) (by first | omega | decide) (by first | omega | decide) (by first | omega | decide) (by first | omega | decide) (fun u v w σ hσ e1 e2 e3 => ih _ _ _ _ hσ (by omega) (by omega) (by omega) (by omega) (by omega) (by omega) (by omega) (by omega))
      · try simp only [wn_le, wn_lt, wn_eq, wn_0, wn_1, wn_m1, wn_9, wn_8, wn_4, wn_2, wn_100] at hc2
        refine wk_g (wn_in (by first | omega | decide) (by first | omega | decide)) ?_
        refine wk_r (fun v => 0 ≤ v.toInt ∧ v.toInt ≤ 8) (wB_r (by assumption) (by omega) (by omega)) (fun v40 hv40 => ?_)
        refine wk_g (wn_in (by first | omega | decide) (by first | omega | decide)) ?_
        refine wk_v (fun v42 => ?_)
        refine wk_g (wn_in (by first | omega | decide) (by first | omega | decide)) ?_
        refine wk_v (fun v44 => ?_)
        refine wk_i (fun hc3 => ?_) (fun hc3 => ?_)
        · try simp only [wn_le, wn_lt, wn_eq, wn_0, wn_1, wn_m1, wn_9, wn_8, wn_4, wn_2, wn_100] at hc3
          unfold wf_M_isWorn_95
          unfold wf_M_isWorn_96
          exact tt_M_isWorn_104 (by omega) 16 _ _ _ _ _ _ _ (by assumption) (by first | omega | decide) (by first | omega | decide) (by first | omega | decide) (by first | omega | decide) (by first | omega | decide) (by first | omega | decide) (by first | omega | decide) (by first | omega | decide) (by first | omega | decide) (fun u v w σ hσ e1 e2 e3 => ih _ _ _ _ hσ (by omega) (by omega) (by omega) (by omega) (by omega) (by omega) (by omega) (by omega))
        · try simp only [wn_le, wn_lt, wn_eq, wn_0, wn_1, wn_m1, wn_9, wn_8, wn_4, wn_2, wn_100] at hc3
          unfold wf_M_isWorn_96
          exact tt_M_isWorn_104 (by omega) 16 _ _ _ _ _ _ _ (by assumption) (by first | omega | decide) (by first | omega | decide) (by first | omega | decide) (by first | omega | decide) (by first | omega | decide) (by first | omega | decide) (by first | omega | decide) (by first | omega | decide) (by first | omega | decide) (fun u v w σ hσ e1 e2 e3 => ih _ _ _ _ hσ (by omega) (by omega) (by omega) (by omega) (by omega) (by omega) (by omega) (by omega))
theorem tt_M_isWorn_6 {m : Int} {k1 : Nat} (q0 : k1 = 85 ∨ k1 = 86) : ∀ (n : Nat) (x2 : Int32) (x3 : Int32) (x4 : Int32) (x5 : Int32) (σ : wc_S), wB k1 m σ → 0 ≤ x2.toInt → x2.toInt ≤ x3.toInt + 1 → x3.toInt ≤ 8 → x3.toInt < m → 0 ≤ x3.toInt → 0 ≤ x5.toInt → x5.toInt ≤ x3.toInt + 1 → 9 < x5.toInt + n → wk (wf_M_isWorn_6 k1 n x2 x3 x4 x5 σ) (fun r => wB k1 m r.2) := by
  intro n
  induction n with
  | zero => intro x2 x3 x4 x5 σ hσ c0 c1 c2 c3 c4 c5 c6 c7; omega
  | succ n ih =>
    intro x2 x3 x4 x5 σ hσ c0 c1 c2 c3 c4 c5 c6 c7
    show wk (wf_M_isWorn_6_b k1 (wf_M_isWorn_6 k1 n) x2 x3 x4 x5 σ) _
    unfold wf_M_isWorn_6_b
    refine wk_i (fun hc1 => ?_) (fun hc1 => ?_)
    · try simp only [wn_le, wn_lt, wn_eq, wn_0, wn_1, wn_m1, wn_9, wn_8, wn_4, wn_2, wn_100] at hc1
      refine wk_v (fun v2 => ?_)
      refine wk_i (fun hc2 => ?_) (fun hc2 => ?_)
      · try simp only [wn_le, wn_lt, wn_eq, wn_0, wn_1, wn_m1, wn_9, wn_8, wn_4, wn_2, wn_100] at hc2
        exact tt_M_isWorn_46 (by omega) 16 _ _ _ _ (by assumption) (by first | omega | decide) (by first | omega | decide) (by first | omega | decide) (by first | omega | decide) (by first | omega | decide) (by first | omega | decide) (by first | omega | decide) (by first | omega | decide) 
      · try simp only [wn_le, wn_lt, wn_eq, wn_0, wn_1, wn_m1, wn_9, wn_8, wn_4, wn_2, wn_100] at hc2
        exact wk_s ((show wB k1 m _ from by assumption))
    · try simp only [wn_le, wn_lt, wn_eq, wn_0, wn_1, wn_m1, wn_9, wn_8, wn_4, wn_2, wn_100] at hc1
      refine wk_g (wn_in (by first | omega | decide) (by first | omega | decide)) ?_
      refine wk_r (fun v => 0 ≤ v.toInt ∧ v.toInt ≤ 8) (wB_r (by assumption) (by omega) (by omega)) (fun v47 hv47 => ?_)
      refine wk_g (wn_in (by first | omega | decide) (by first | omega | decide)) ?_
      refine wk_v (fun v49 => ?_)
      refine wk_e (fun v50 ev50 => ?_)
      try (have hv50 : v50.toInt = x4.toInt + v49.toInt := by rw [ev50]; exact wn_add (by omega) (by omega))
      refine wk_e (fun v51 ev51 => ?_)
      try (have hv51 : v51.toInt = x5.toInt + 1 := by rw [ev51]; exact wn_up (by omega) (by omega))
      exact ih _ _ _ _ _ (by assumption) (by omega) (by omega) (by omega) (by omega) (by omega) (by omega) (by omega) (by omega)
theorem tt_M_isWorn {m : Int} {k1 : Nat} {a2 : Int32} {a3 : Int32} {σ : wc_S} (hσ : wB k1 m σ) (q0 : k1 = 85 ∨ k1 = 86) (q1 : 0 ≤ a2.toInt) (q2 : a2.toInt ≤ a3.toInt) (q3 : a3.toInt ≤ 8) (q4 : a3.toInt < m) : wk (wf_M_isWorn k1 a2 a3 σ) (fun r => wB k1 m r.2) := by
  unfold wf_M_isWorn
  exact tt_M_isWorn_6 (by omega) 16 _ _ _ _ _ (by assumption) (by first | omega | decide) (by first | omega | decide) (by first | omega | decide) (by first | omega | decide) (by first | omega | decide) (by first | omega | decide) (by first | omega | decide) (by first | omega | decide) 
theorem tt_M_reckon_20 {m : Int} {k1 : Nat} (q0 : k1 = 85 ∨ k1 = 86) : ∀ (n : Nat) (x2 : Int32) (x3 : Int32) (x4 : Int32) (σ : wc_S), wB k1 m σ → x2.toInt ≤ 9 → x2.toInt ≤ m → 0 ≤ x3.toInt → x3.toInt ≤ x4.toInt → 0 ≤ x4.toInt → x4.toInt ≤ 9 → 9 < x4.toInt + n → wk (wf_M_reckon_20 k1 n x2 x3 x4 σ) (wB k1 m) := by
  intro n
  induction n with
  | zero => intro x2 x3 x4 σ hσ c0 c1 c2 c3 c4 c5 c6; omega
  | succ n ih =>
    intro x2 x3 x4 σ hσ c0 c1 c2 c3 c4 c5 c6
    show wk (wf_M_reckon_20_b k1 (wf_M_reckon_20 k1 n) x2 x3 x4 σ) _
    unfold wf_M_reckon_20_b
    refine wk_i (fun hc1 => ?_) (fun hc1 => ?_)
    · try simp only [wn_le, wn_lt, wn_eq, wn_0, wn_1, wn_m1, wn_9, wn_8, wn_4, wn_2, wn_100] at hc1
      exact wk_s ((show wB k1 m _ from by assumption))
    · try simp only [wn_le, wn_lt, wn_eq, wn_0, wn_1, wn_m1, wn_9, wn_8, wn_4, wn_2, wn_100] at hc1
      refine wk_i (fun hc2 => ?_) (fun hc2 => ?_)
      · try simp only [wn_le, wn_lt, wn_eq, wn_0, wn_1, wn_m1, wn_9, wn_8, wn_4, wn_2, wn_100] at hc2
        unfold wf_M_reckon_52
        unfold wf_M_reckon_53
        refine wk_g (wn_in (by first | omega | decide) (by first | omega | decide)) ?_
        refine wk_wB (wB_u (by assumption) (by omega) (fun hh => u_b hh (by omega) (wn_bb _))) (fun σ7 hσ7 => ?_)
        refine wk_g (wn_in (by first | omega | decide) (by first | omega | decide)) ?_
        refine wk_r (fun v => 0 ≤ v.toInt ∧ v.toInt ≤ 1) (i_b (wB_1 (by assumption)) (by omega)) (fun v9 hv9 => ?_)
        refine wk_i (fun hc3 => ?_) (fun hc3 => ?_)
        · try simp only [wn_le, wn_lt, wn_eq, wn_0, wn_1, wn_m1, wn_9, wn_8, wn_4, wn_2, wn_100] at hc3
          unfold wf_M_reckon_90
          refine wk_i (fun hc4 => ?_) (fun hc4 => ?_)
          · try simp only [wn_le, wn_lt, wn_eq, wn_0, wn_1, wn_m1, wn_9, wn_8, wn_4, wn_2, wn_100] at hc4
            unfold wf_M_reckon_118
            refine wk_g (wn_in (by first | omega | decide) (by first | omega | decide)) ?_
            refine wk_r (fun v => 0 ≤ v.toInt ∧ v.toInt ≤ 8) (wB_r (by assumption) (by omega) (by omega)) (fun v13 hv13 => ?_)
            refine wk_g (wn_in (by first | omega | decide) (by first | omega | decide)) ?_
            refine wk_v (fun v15 => ?_)
            refine wk_i (fun hc5 => ?_) (fun hc5 => ?_)
            · try simp only [wn_le, wn_lt, wn_eq, wn_0, wn_1, wn_m1, wn_9, wn_8, wn_4, wn_2, wn_100] at hc5
              unfold wf_M_reckon_167
              refine wk_e (fun v17 ev17 => ?_)
              try (have hv17 : v17.toInt = x4.toInt + 1 := by rw [ev17]; exact wn_up (by omega) (by omega))
              exact ih _ _ _ _ (by assumption) (by omega) (by omega) (by omega) (by omega) (by omega) (by omega) (by omega)
            · try simp only [wn_le, wn_lt, wn_eq, wn_0, wn_1, wn_m1, wn_9, wn_8, wn_4, wn_2, wn_100] at hc5
              refine wk_g (wn_in (by first | omega | decide) (by first | omega | decide)) ?_
              refine wk_r (fun v => 0 ≤ v.toInt ∧ v.toInt ≤ 8) (wB_r (by assumption) (by omega) (by omega)) (fun v19 hv19 => ?_)
              refine wk_g (wn_in (by first | omega | decide) (by first | omega | decide)) ?_
              refine wk_v (fun v21 => ?_)
              refine wk_i (fun hc6 => ?_) (fun hc6 => ?_)
              · try simp only [wn_le, wn_lt, wn_eq, wn_0, wn_1, wn_m1, wn_9, wn_8, wn_4, wn_2, wn_100] at hc6
                unfold wf_M_reckon_167
                refine wk_e (fun v17 ev17 => ?_)
                try (have hv17 : v17.toInt = x4.toInt + 1 := by rw [ev17]; exact wn_up (by omega) (by omega))
                exact ih _ _ _ _ (by assumption) (by omega) (by omega) (by omega) (by omega) (by omega) (by omega) (by omega)
              · try simp only [wn_le, wn_lt, wn_eq, wn_0, wn_1, wn_m1, wn_9, wn_8, wn_4, wn_2, wn_100] at hc6
                refine wk_v (fun v23 => ?_)
                refine wk_e (fun v24 ev24 => ?_)
                try (have hv24 : v24.toInt = v23.toInt + 1 := by rw [ev24]; exact wn_up (by omega) (by omega))
                refine wk_wB (wB_u (by assumption) (by omega) (fun hh => u_71 hh (by decide) (by decide))) (fun σ25 hσ25 => ?_)
                refine wk_v (fun v26 => ?_)
                refine wk_v (fun v27 => ?_)
                refine wk_e (fun v28 ev28 => ?_)
                try (have hv28 : v28.toInt = v26.toInt + v27.toInt := by rw [ev28]; exact wn_add (by omega) (by omega))
                refine wk_wB (wB_u (by assumption) (by omega) (fun hh => u_71 hh (by decide) (by decide))) (fun σ29 hσ29 => ?_)
                unfold wf_M_reckon_167
                refine wk_e (fun v17 ev17 => ?_)
                try (have hv17 : v17.toInt = x4.toInt + 1 := by rw [ev17]; exact wn_up (by omega) (by omega))
                exact ih _ _ _ _ (by assumption) (by omega) (by omega) (by omega) (by omega) (by omega) (by omega) (by omega)
          · try simp only [wn_le, wn_lt, wn_eq, wn_0, wn_1, wn_m1, wn_9, wn_8, wn_4, wn_2, wn_100] at hc4
            refine wk_v (fun v30 => ?_)
            refine wk_e (fun v31 ev31 => ?_)
            try (have hv31 : v31.toInt = x4.toInt - 1 := by rw [ev31]; exact wn_dn (by omega) (by omega))
            refine wk_g (wn_in (by first | omega | decide) (by first | omega | decide)) ?_
            refine wk_r (fun v => 0 ≤ v.toInt ∧ v.toInt ≤ 8) (wB_r (by assumption) (by omega) (by omega)) (fun v33 hv33 => ?_)
            refine wk_g (wn_in (by first | omega | decide) (by first | omega | decide)) ?_
            refine wk_r (fun v => 0 ≤ v.toInt ∧ v.toInt ≤ 8) (wB_r (by assumption) (by omega) (by omega)) (fun v35 hv35 => ?_)
            refine wk_b2 (tB_M_jumpOf (by assumption) (by omega) (by omega) (by omega) (by omega)) (fun r37 σ36 hr7 => ?_)
            have hσ36 : wB _ _ σ36 := hr7
            refine wk_e (fun v38 ev38 => ?_)
            try (have hv38 : v38.toInt = v30.toInt + r37.toInt := by rw [ev38]; exact wn_add (by omega) (by omega))
            refine wk_wB (wB_u (by assumption) (by omega) (fun hh => u_71 hh (by decide) (by decide))) (fun σ39 hσ39 => ?_)
            unfold wf_M_reckon_118
            refine wk_g (wn_in (by first | omega | decide) (by first | omega | decide)) ?_
            refine wk_r (fun v => 0 ≤ v.toInt ∧ v.toInt ≤ 8) (wB_r (by assumption) (by omega) (by omega)) (fun v13 hv13 => ?_)
            refine wk_g (wn_in (by first | omega | decide) (by first | omega | decide)) ?_
            refine wk_v (fun v15 => ?_)
            refine wk_i (fun hc8 => ?_) (fun hc8 => ?_)
            · try simp only [wn_le, wn_lt, wn_eq, wn_0, wn_1, wn_m1, wn_9, wn_8, wn_4, wn_2, wn_100] at hc8
              unfold wf_M_reckon_167
              refine wk_e (fun v17 ev17 => ?_)
              try (have hv17 : v17.toInt = x4.toInt + 1 := by rw [ev17]; exact wn_up (by omega) (by omega))
              exact ih _ _ _ _ (by assumption) (by omega) (by omega) (by omega) (by omega) (by omega) (by omega) (by omega)
            · try simp only [wn_le, wn_lt, wn_eq, wn_0, wn_1, wn_m1, wn_9, wn_8, wn_4, wn_2, wn_100] at hc8
              refine wk_g (wn_in (by first | omega | decide) (by first | omega | decide)) ?_
              refine wk_r (fun v => 0 ≤ v.toInt ∧ v.toInt ≤ 8) (wB_r (by assumption) (by omega) (by omega)) (fun v19 hv19 => ?_)
              refine wk_g (wn_in (by first | omega | decide) (by first | omega | decide)) ?_
              refine wk_v (fun v21 => ?_)
              refine wk_i (fun hc9 => ?_) (fun hc9 => ?_)
              · try simp only [wn_le, wn_lt, wn_eq, wn_0, wn_1, wn_m1, wn_9, wn_8, wn_4, wn_2, wn_100] at hc9
                unfold wf_M_reckon_167
                refine wk_e (fun v17 ev17 => ?_)
                try (have hv17 : v17.toInt = x4.toInt + 1 := by rw [ev17]; exact wn_up (by omega) (by omega))
                exact ih _ _ _ _ (by assumption) (by omega) (by omega) (by omega) (by omega) (by omega) (by omega) (by omega)
              · try simp only [wn_le, wn_lt, wn_eq, wn_0, wn_1, wn_m1, wn_9, wn_8, wn_4, wn_2, wn_100] at hc9
                refine wk_v (fun v23 => ?_)
                refine wk_e (fun v24 ev24 => ?_)
                try (have hv24 : v24.toInt = v23.toInt + 1 := by rw [ev24]; exact wn_up (by omega) (by omega))
                refine wk_wB (wB_u (by assumption) (by omega) (fun hh => u_71 hh (by decide) (by decide))) (fun σ25 hσ25 => ?_)
                refine wk_v (fun v26 => ?_)
                refine wk_v (fun v27 => ?_)
                refine wk_e (fun v28 ev28 => ?_)
                try (have hv28 : v28.toInt = v26.toInt + v27.toInt := by rw [ev28]; exact wn_add (by omega) (by omega))
                refine wk_wB (wB_u (by assumption) (by omega) (fun hh => u_71 hh (by decide) (by decide))) (fun σ29 hσ29 => ?_)
                unfold wf_M_reckon_167
                refine wk_e (fun v17 ev17 => ?_)
                try (have hv17 : v17.toInt = x4.toInt + 1 := by rw [ev17]; exact wn_up (by omega) (by omega))
                exact ih _ _ _ _ (by assumption) (by omega) (by omega) (by omega) (by omega) (by omega) (by omega) (by omega)
        · try simp only [wn_le, wn_lt, wn_eq, wn_0, wn_1, wn_m1, wn_9, wn_8, wn_4, wn_2, wn_100] at hc3
          refine wk_v (fun v40 => ?_)
          refine wk_e (fun v41 ev41 => ?_)
          try (have hv41 : v41.toInt = v40.toInt + 1 := by rw [ev41]; exact wn_up (by omega) (by omega))
          refine wk_wB (wB_u (by assumption) (by omega) (fun hh => u_71 hh (by decide) (by decide))) (fun σ42 hσ42 => ?_)
          refine wk_v (fun v43 => ?_)
          refine wk_v (fun v44 => ?_)
          refine wk_e (fun v45 ev45 => ?_)
          try (have hv45 : v45.toInt = v43.toInt + v44.toInt := by rw [ev45]; exact wn_add (by omega) (by omega))
          refine wk_wB (wB_u (by assumption) (by omega) (fun hh => u_71 hh (by decide) (by decide))) (fun σ46 hσ46 => ?_)
          unfold wf_M_reckon_90
          refine wk_i (fun hc10 => ?_) (fun hc10 => ?_)
          · try simp only [wn_le, wn_lt, wn_eq, wn_0, wn_1, wn_m1, wn_9, wn_8, wn_4, wn_2, wn_100] at hc10
            unfold wf_M_reckon_118
            refine wk_g (wn_in (by first | omega | decide) (by first | omega | decide)) ?_
            refine wk_r (fun v => 0 ≤ v.toInt ∧ v.toInt ≤ 8) (wB_r (by assumption) (by omega) (by omega)) (fun v13 hv13 => ?_)
            refine wk_g (wn_in (by first | omega | decide) (by first | omega | decide)) ?_
            refine wk_v (fun v15 => ?_)
            refine wk_i (fun hc11 => ?_) (fun hc11 => ?_)
            · try simp only [wn_le, wn_lt, wn_eq, wn_0, wn_1, wn_m1, wn_9, wn_8, wn_4, wn_2, wn_100] at hc11
              unfold wf_M_reckon_167
              refine wk_e (fun v17 ev17 => ?_)
              try (have hv17 : v17.toInt = x4.toInt + 1 := by rw [ev17]; exact wn_up (by omega) (by omega))
              exact ih _ _ _ _ (by assumption) (by omega) (by omega) (by omega) (by omega) (by omega) (by omega) (by omega)
            · try simp only [wn_le, wn_lt, wn_eq, wn_0, wn_1, wn_m1, wn_9, wn_8, wn_4, wn_2, wn_100] at hc11
              refine wk_g (wn_in (by first | omega | decide) (by first | omega | decide)) ?_
              refine wk_r (fun v => 0 ≤ v.toInt ∧ v.toInt ≤ 8) (wB_r (by assumption) (by omega) (by omega)) (fun v19 hv19 => ?_)
              refine wk_g (wn_in (by first | omega | decide) (by first | omega | decide)) ?_
              refine wk_v (fun v21 => ?_)
              refine wk_i (fun hc12 => ?_) (fun hc12 => ?_)
              · try simp only [wn_le, wn_lt, wn_eq, wn_0, wn_1, wn_m1, wn_9, wn_8, wn_4, wn_2, wn_100] at hc12
                unfold wf_M_reckon_167
                refine wk_e (fun v17 ev17 => ?_)
                try (have hv17 : v17.toInt = x4.toInt + 1 := by rw [ev17]; exact wn_up (by omega) (by omega))
                exact ih _ _ _ _ (by assumption) (by omega) (by omega) (by omega) (by omega) (by omega) (by omega) (by omega)
              · try simp only [wn_le, wn_lt, wn_eq, wn_0, wn_1, wn_m1, wn_9, wn_8, wn_4, wn_2, wn_100] at hc12
                refine wk_v (fun v23 => ?_)
                refine wk_e (fun v24 ev24 => ?_)
                try (have hv24 : v24.toInt = v23.toInt + 1 := by rw [ev24]; exact wn_up (by omega) (by omega))
                refine wk_wB (wB_u (by assumption) (by omega) (fun hh => u_71 hh (by decide) (by decide))) (fun σ25 hσ25 => ?_)
                refine wk_v (fun v26 => ?_)
                refine wk_v (fun v27 => ?_)
                refine wk_e (fun v28 ev28 => ?_)
                try (have hv28 : v28.toInt = v26.toInt + v27.toInt := by rw [ev28]; exact wn_add (by omega) (by omega))
                refine wk_wB (wB_u (by assumption) (by omega) (fun hh => u_71 hh (by decide) (by decide))) (fun σ29 hσ29 => ?_)
                unfold wf_M_reckon_167
                refine wk_e (fun v17 ev17 => ?_)
                try (have hv17 : v17.toInt = x4.toInt + 1 := by rw [ev17]; exact wn_up (by omega) (by omega))
                exact ih _ _ _ _ (by assumption) (by omega) (by omega) (by omega) (by omega) (by omega) (by omega) (by omega)
          · try simp only [wn_le, wn_lt, wn_eq, wn_0, wn_1, wn_m1, wn_9, wn_8, wn_4, wn_2, wn_100] at hc10
            refine wk_v (fun v30 => ?_)
            refine wk_e (fun v31 ev31 => ?_)
            try (have hv31 : v31.toInt = x4.toInt - 1 := by rw [ev31]; exact wn_dn (by omega) (by omega))
            refine wk_g (wn_in (by first | omega | decide) (by first | omega | decide)) ?_
            refine wk_r (fun v => 0 ≤ v.toInt ∧ v.toInt ≤ 8) (wB_r (by assumption) (by omega) (by omega)) (fun v33 hv33 => ?_)
            refine wk_g (wn_in (by first | omega | decide) (by first | omega | decide)) ?_
            refine wk_r (fun v => 0 ≤ v.toInt ∧ v.toInt ≤ 8) (wB_r (by assumption) (by omega) (by omega)) (fun v35 hv35 => ?_)
            refine wk_b2 (tB_M_jumpOf (by assumption) (by omega) (by omega) (by omega) (by omega)) (fun r37 σ36 hr13 => ?_)
            have hσ36 : wB _ _ σ36 := hr13
            refine wk_e (fun v38 ev38 => ?_)
            try (have hv38 : v38.toInt = v30.toInt + r37.toInt := by rw [ev38]; exact wn_add (by omega) (by omega))
            refine wk_wB (wB_u (by assumption) (by omega) (fun hh => u_71 hh (by decide) (by decide))) (fun σ39 hσ39 => ?_)
            unfold wf_M_reckon_118
            refine wk_g (wn_in (by first | omega | decide) (by first | omega | decide)) ?_
            refine wk_r (fun v => 0 ≤ v.toInt ∧ v.toInt ≤ 8) (wB_r (by assumption) (by omega) (by omega)) (fun v13 hv13 => ?_)
            refine wk_g (wn_in (by first | omega | decide) (by first | omega | decide)) ?_
            refine wk_v (fun v15 => ?_)
            refine wk_i (fun hc14 => ?_) (fun hc14 => ?_)
            · try simp only [wn_le, wn_lt, wn_eq, wn_0, wn_1, wn_m1, wn_9, wn_8, wn_4, wn_2, wn_100] at hc14
              unfold wf_M_reckon_167
              refine wk_e (fun v17 ev17 => ?_)
              try (have hv17 : v17.toInt = x4.toInt + 1 := by rw [ev17]; exact wn_up (by omega) (by omega))
              exact ih _ _ _ _ (by assumption) (by omega) (by omega) (by omega) (by omega) (by omega) (by omega) (by omega)
            · try simp only [wn_le, wn_lt, wn_eq, wn_0, wn_1, wn_m1, wn_9, wn_8, wn_4, wn_2, wn_100] at hc14
              refine wk_g (wn_in (by first | omega | decide) (by first | omega | decide)) ?_
              refine wk_r (fun v => 0 ≤ v.toInt ∧ v.toInt ≤ 8) (wB_r (by assumption) (by omega) (by omega)) (fun v19 hv19 => ?_)
              refine wk_g (wn_in (by first | omega | decide) (by first | omega | decide)) ?_
              refine wk_v (fun v21 => ?_)
              refine wk_i (fun hc15 => ?_) (fun hc15 => ?_)
              · try simp only [wn_le, wn_lt, wn_eq, wn_0, wn_1, wn_m1, wn_9, wn_8, wn_4, wn_2, wn_100] at hc15
                unfold wf_M_reckon_167
                refine wk_e (fun v17 ev17 => ?_)
                try (have hv17 : v17.toInt = x4.toInt + 1 := by rw [ev17]; exact wn_up (by omega) (by omega))
                exact ih _ _ _ _ (by assumption) (by omega) (by omega) (by omega) (by omega) (by omega) (by omega) (by omega)
              · try simp only [wn_le, wn_lt, wn_eq, wn_0, wn_1, wn_m1, wn_9, wn_8, wn_4, wn_2, wn_100] at hc15
                refine wk_v (fun v23 => ?_)
                refine wk_e (fun v24 ev24 => ?_)
                try (have hv24 : v24.toInt = v23.toInt + 1 := by rw [ev24]; exact wn_up (by omega) (by omega))
                refine wk_wB (wB_u (by assumption) (by omega) (fun hh => u_71 hh (by decide) (by decide))) (fun σ25 hσ25 => ?_)
                refine wk_v (fun v26 => ?_)
                refine wk_v (fun v27 => ?_)
                refine wk_e (fun v28 ev28 => ?_)
                try (have hv28 : v28.toInt = v26.toInt + v27.toInt := by rw [ev28]; exact wn_add (by omega) (by omega))
                refine wk_wB (wB_u (by assumption) (by omega) (fun hh => u_71 hh (by decide) (by decide))) (fun σ29 hσ29 => ?_)
                unfold wf_M_reckon_167
                refine wk_e (fun v17 ev17 => ?_)
                try (have hv17 : v17.toInt = x4.toInt + 1 := by rw [ev17]; exact wn_up (by omega) (by omega))
                exact ih _ _ _ _ (by assumption) (by omega) (by omega) (by omega) (by omega) (by omega) (by omega) (by omega)
      · try simp only [wn_le, wn_lt, wn_eq, wn_0, wn_1, wn_m1, wn_9, wn_8, wn_4, wn_2, wn_100] at hc2
        refine wk_b2 (tt_M_isWorn (by assumption) (by first | omega | decide) (by first | omega | decide) (by first | omega | decide) (by first | omega | decide) (by first | omega | decide)) (fun r48 σ47 hr16 => ?_)
        have hσ47 : wB _ _ σ47 := hr16
        refine wk_i (fun hc17 => ?_) (fun hc17 => ?_)
        · try simp only [wn_le, wn_lt, wn_eq, wn_0, wn_1, wn_m1, wn_9, wn_8, wn_4, wn_2, wn_100] at hc17
          unfold wf_M_reckon_52
          unfold wf_M_reckon_53
          refine wk_g (wn_in (by first | omega | decide) (by first | omega | decide)) ?_
          refine wk_wB (wB_u (by assumption) (by omega) (fun hh => u_b hh (by omega) (wn_bb _))) (fun σ7 hσ7 => ?_)
          refine wk_g (wn_in (by first | omega | decide) (by first | omega | decide)) ?_
          refine wk_r (fun v => 0 ≤ v.toInt ∧ v.toInt ≤ 1) (i_b (wB_1 (by assumption)) (by omega)) (fun v9 hv9 => ?_)
          refine wk_i (fun hc18 => ?_) (fun hc18 => ?_)
          · try simp only [wn_le, wn_lt, wn_eq, wn_0, wn_1, wn_m1, wn_9, wn_8, wn_4, wn_2, wn_100] at hc18
            unfold wf_M_reckon_90
            refine wk_i (fun hc19 => ?_) (fun hc19 => ?_)
            · try simp only [wn_le, wn_lt, wn_eq, wn_0, wn_1, wn_m1, wn_9, wn_8, wn_4, wn_2, wn_100] at hc19
              unfold wf_M_reckon_118
              refine wk_g (wn_in (by first | omega | decide) (by first | omega | decide)) ?_
              refine wk_r (fun v => 0 ≤ v.toInt ∧ v.toInt ≤ 8) (wB_r (by assumption) (by omega) (by omega)) (fun v13 hv13 => ?_)
              refine wk_g (wn_in (by first | omega | decide) (by first | omega | decide)) ?_
              refine wk_v (fun v15 => ?_)
              refine wk_i (fun hc20 => ?_) (fun hc20 => ?_)
              · try simp only [wn_le, wn_lt, wn_eq, wn_0, wn_1, wn_m1, wn_9, wn_8, wn_4, wn_2, wn_100] at hc20
                unfold wf_M_reckon_167
                refine wk_e (fun v17 ev17 => ?_)
                try (have hv17 : v17.toInt = x4.toInt + 1 := by rw [ev17]; exact wn_up (by omega) (by omega))
                exact ih _ _ _ _ (by assumption) (by omega) (by omega) (by omega) (by omega) (by omega) (by omega) (by omega)
              · try simp only [wn_le, wn_lt, wn_eq, wn_0, wn_1, wn_m1, wn_9, wn_8, wn_4, wn_2, wn_100] at hc20
                refine wk_g (wn_in (by first | omega | decide) (by first | omega | decide)) ?_
                refine wk_r (fun v => 0 ≤ v.toInt ∧ v.toInt ≤ 8) (wB_r (by assumption) (by omega) (by omega)) (fun v19 hv19 => ?_)
                refine wk_g (wn_in (by first | omega | decide) (by first | omega | decide)) ?_
                refine wk_v (fun v21 => ?_)
                refine wk_i (fun hc21 => ?_) (fun hc21 => ?_)
                · try simp only [wn_le, wn_lt, wn_eq, wn_0, wn_1, wn_m1, wn_9, wn_8, wn_4, wn_2, wn_100] at hc21
                  unfold wf_M_reckon_167
                  refine wk_e (fun v17 ev17 => ?_)
                  try (have hv17 : v17.toInt = x4.toInt + 1 := by rw [ev17]; exact wn_up (by omega) (by omega))
                  exact ih _ _ _ _ (by assumption) (by omega) (by omega) (by omega) (by omega) (by omega) (by omega) (by omega)
                · try simp only [wn_le, wn_lt, wn_eq, wn_0, wn_1, wn_m1, wn_9, wn_8, wn_4, wn_2, wn_100] at hc21
                  refine wk_v (fun v23 => ?_)
                  refine wk_e (fun v24 ev24 => ?_)
                  try (have hv24 : v24.toInt = v23.toInt + 1 := by rw [ev24]; exact wn_up (by omega) (by omega))
                  refine wk_wB (wB_u (by assumption) (by omega) (fun hh => u_71 hh (by decide) (by decide))) (fun σ25 hσ25 => ?_)
                  refine wk_v (fun v26 => ?_)
                  refine wk_v (fun v27 => ?_)
                  refine wk_e (fun v28 ev28 => ?_)
                  try (have hv28 : v28.toInt = v26.toInt + v27.toInt := by rw [ev28]; exact wn_add (by omega) (by omega))
                  refine wk_wB (wB_u (by assumption) (by omega) (fun hh => u_71 hh (by decide) (by decide))) (fun σ29 hσ29 => ?_)
                  unfold wf_M_reckon_167
                  refine wk_e (fun v17 ev17 => ?_)
                  try (have hv17 : v17.toInt = x4.toInt + 1 := by rw [ev17]; exact wn_up (by omega) (by omega))
                  exact ih _ _ _ _ (by assumption) (by omega) (by omega) (by omega) (by omega) (by omega) (by omega) (by omega)
            · try simp only [wn_le, wn_lt, wn_eq, wn_0, wn_1, wn_m1, wn_9, wn_8, wn_4, wn_2, wn_100] at hc19
              refine wk_v (fun v30 => ?_)
              refine wk_e (fun v31 ev31 => ?_)
              try (have hv31 : v31.toInt = x4.toInt - 1 := by rw [ev31]; exact wn_dn (by omega) (by omega))
              refine wk_g (wn_in (by first | omega | decide) (by first | omega | decide)) ?_
              refine wk_r (fun v => 0 ≤ v.toInt ∧ v.toInt ≤ 8) (wB_r (by assumption) (by omega) (by omega)) (fun v33 hv33 => ?_)
              refine wk_g (wn_in (by first | omega | decide) (by first | omega | decide)) ?_
              refine wk_r (fun v => 0 ≤ v.toInt ∧ v.toInt ≤ 8) (wB_r (by assumption) (by omega) (by omega)) (fun v35 hv35 => ?_)
              refine wk_b2 (tB_M_jumpOf (by assumption) (by omega) (by omega) (by omega) (by omega)) (fun r37 σ36 hr22 => ?_)
              have hσ36 : wB _ _ σ36 := hr22
              refine wk_e (fun v38 ev38 => ?_)
              try (have hv38 : v38.toInt = v30.toInt + r37.toInt := by rw [ev38]; exact wn_add (by omega) (by omega))
              refine wk_wB (wB_u (by assumption) (by omega) (fun hh => u_71 hh (by decide) (by decide))) (fun σ39 hσ39 => ?_)
              unfold wf_M_reckon_118
              refine wk_g (wn_in (by first | omega | decide) (by first | omega | decide)) ?_
              refine wk_r (fun v => 0 ≤ v.toInt ∧ v.toInt ≤ 8) (wB_r (by assumption) (by omega) (by omega)) (fun v13 hv13 => ?_)
              refine wk_g (wn_in (by first | omega | decide) (by first | omega | decide)) ?_
              refine wk_v (fun v15 => ?_)
              refine wk_i (fun hc23 => ?_) (fun hc23 => ?_)
              · try simp only [wn_le, wn_lt, wn_eq, wn_0, wn_1, wn_m1, wn_9, wn_8, wn_4, wn_2, wn_100] at hc23
                unfold wf_M_reckon_167
                refine wk_e (fun v17 ev17 => ?_)
                try (have hv17 : v17.toInt = x4.toInt + 1 := by rw [ev17]; exact wn_up (by omega) (by omega))
                exact ih _ _ _ _ (by assumption) (by omega) (by omega) (by omega) (by omega) (by omega) (by omega) (by omega)
              · try simp only [wn_le, wn_lt, wn_eq, wn_0, wn_1, wn_m1, wn_9, wn_8, wn_4, wn_2, wn_100] at hc23
                refine wk_g (wn_in (by first | omega | decide) (by first | omega | decide)) ?_
                refine wk_r (fun v => 0 ≤ v.toInt ∧ v.toInt ≤ 8) (wB_r (by assumption) (by omega) (by omega)) (fun v19 hv19 => ?_)
                refine wk_g (wn_in (by first | omega | decide) (by first | omega | decide)) ?_
                refine wk_v (fun v21 => ?_)
                refine wk_i (fun hc24 => ?_) (fun hc24 => ?_)
                · try simp only [wn_le, wn_lt, wn_eq, wn_0, wn_1, wn_m1, wn_9, wn_8, wn_4, wn_2, wn_100] at hc24
                  unfold wf_M_reckon_167
                  refine wk_e (fun v17 ev17 => ?_)
                  try (have hv17 : v17.toInt = x4.toInt + 1 := by rw [ev17]; exact wn_up (by omega) (by omega))
                  exact ih _ _ _ _ (by assumption) (by omega) (by omega) (by omega) (by omega) (by omega) (by omega) (by omega)
                · try simp only [wn_le, wn_lt, wn_eq, wn_0, wn_1, wn_m1, wn_9, wn_8, wn_4, wn_2, wn_100] at hc24
                  refine wk_v (fun v23 => ?_)
                  refine wk_e (fun v24 ev24 => ?_)
                  try (have hv24 : v24.toInt = v23.toInt + 1 := by rw [ev24]; exact wn_up (by omega) (by omega))
                  refine wk_wB (wB_u (by assumption) (by omega) (fun hh => u_71 hh (by decide) (by decide))) (fun σ25 hσ25 => ?_)
                  refine wk_v (fun v26 => ?_)
                  refine wk_v (fun v27 => ?_)
                  refine wk_e (fun v28 ev28 => ?_)
                  try (have hv28 : v28.toInt = v26.toInt + v27.toInt := by rw [ev28]; exact wn_add (by omega) (by omega))
                  refine wk_wB (wB_u (by assumption) (by omega) (fun hh => u_71 hh (by decide) (by decide))) (fun σ29 hσ29 => ?_)
                  unfold wf_M_reckon_167
                  refine wk_e (fun v17 ev17 => ?_)
                  try (have hv17 : v17.toInt = x4.toInt + 1 := by rw [ev17]; exact wn_up (by omega) (by omega))
                  exact ih _ _ _ _ (by assumption) (by omega) (by omega) (by omega) (by omega) (by omega) (by omega) (by omega)
          · try simp only [wn_le, wn_lt, wn_eq, wn_0, wn_1, wn_m1, wn_9, wn_8, wn_4, wn_2, wn_100] at hc18
            refine wk_v (fun v40 => ?_)
            refine wk_e (fun v41 ev41 => ?_)
            try (have hv41 : v41.toInt = v40.toInt + 1 := by rw [ev41]; exact wn_up (by omega) (by omega))
            refine wk_wB (wB_u (by assumption) (by omega) (fun hh => u_71 hh (by decide) (by decide))) (fun σ42 hσ42 => ?_)
            refine wk_v (fun v43 => ?_)
            refine wk_v (fun v44 => ?_)
            refine wk_e (fun v45 ev45 => ?_)
            try (have hv45 : v45.toInt = v43.toInt + v44.toInt := by rw [ev45]; exact wn_add (by omega) (by omega))
            refine wk_wB (wB_u (by assumption) (by omega) (fun hh => u_71 hh (by decide) (by decide))) (fun σ46 hσ46 => ?_)
            unfold wf_M_reckon_90
            refine wk_i (fun hc25 => ?_) (fun hc25 => ?_)
            · try simp only [wn_le, wn_lt, wn_eq, wn_0, wn_1, wn_m1, wn_9, wn_8, wn_4, wn_2, wn_100] at hc25
              unfold wf_M_reckon_118
              refine wk_g (wn_in (by first | omega | decide) (by first | omega | decide)) ?_
              refine wk_r (fun v => 0 ≤ v.toInt ∧ v.toInt ≤ 8) (wB_r (by assumption) (by omega) (by omega)) (fun v13 hv13 => ?_)
              refine wk_g (wn_in (by first | omega | decide) (by first | omega | decide)) ?_
              refine wk_v (fun v15 => ?_)
              refine wk_i (fun hc26 => ?_) (fun hc26 => ?_)
              · try simp only [wn_le, wn_lt, wn_eq, wn_0, wn_1, wn_m1, wn_9, wn_8, wn_4, wn_2, wn_100] at hc26
                unfold wf_M_reckon_167
                refine wk_e (fun v17 ev17 => ?_)
                try (have hv17 : v17.toInt = x4.toInt + 1 := by rw [ev17]; exact wn_up (by omega) (by omega))
                exact ih _ _ _ _ (by assumption) (by omega) (by omega) (by omega) (by omega) (by omega) (by omega) (by omega)
              · try simp only [wn_le, wn_lt, wn_eq, wn_0, wn_1, wn_m1, wn_9, wn_8, wn_4, wn_2, wn_100] at hc26
                refine wk_g (wn_in (by first | omega | decide) (by first | omega | decide)) ?_
                refine wk_r (fun v => 0 ≤ v.toInt ∧ v.toInt ≤ 8) (wB_r (by assumption) (by omega) (by omega)) (fun v19 hv19 => ?_)
                refine wk_g (wn_in (by first | omega | decide) (by first | omega | decide)) ?_
                refine wk_v (fun v21 => ?_)
                refine wk_i (fun hc27 => ?_) (fun hc27 => ?_)
                · try simp only [wn_le, wn_lt, wn_eq, wn_0, wn_1, wn_m1, wn_9, wn_8, wn_4, wn_2, wn_100] at hc27
                  unfold wf_M_reckon_167
                  refine wk_e (fun v17 ev17 => ?_)
                  try (have hv17 : v17.toInt = x4.toInt + 1 := by rw [ev17]; exact wn_up (by omega) (by omega))
                  exact ih _ _ _ _ (by assumption) (by omega) (by omega) (by omega) (by omega) (by omega) (by omega) (by omega)
                · try simp only [wn_le, wn_lt, wn_eq, wn_0, wn_1, wn_m1, wn_9, wn_8, wn_4, wn_2, wn_100] at hc27
                  refine wk_v (fun v23 => ?_)
                  refine wk_e (fun v24 ev24 => ?_)
                  try (have hv24 : v24.toInt = v23.toInt + 1 := by rw [ev24]; exact wn_up (by omega) (by omega))
                  refine wk_wB (wB_u (by assumption) (by omega) (fun hh => u_71 hh (by decide) (by decide))) (fun σ25 hσ25 => ?_)
                  refine wk_v (fun v26 => ?_)
                  refine wk_v (fun v27 => ?_)
                  refine wk_e (fun v28 ev28 => ?_)
                  try (have hv28 : v28.toInt = v26.toInt + v27.toInt := by rw [ev28]; exact wn_add (by omega) (by omega))
                  refine wk_wB (wB_u (by assumption) (by omega) (fun hh => u_71 hh (by decide) (by decide))) (fun σ29 hσ29 => ?_)
                  unfold wf_M_reckon_167
                  refine wk_e (fun v17 ev17 => ?_)
                  try (have hv17 : v17.toInt = x4.toInt + 1 := by rw [ev17]; exact wn_up (by omega) (by omega))
                  exact ih _ _ _ _ (by assumption) (by omega) (by omega) (by omega) (by omega) (by omega) (by omega) (by omega)
            · try simp only [wn_le, wn_lt, wn_eq, wn_0, wn_1, wn_m1, wn_9, wn_8, wn_4, wn_2, wn_100] at hc25
              refine wk_v (fun v30 => ?_)
              refine wk_e (fun v31 ev31 => ?_)
              try (have hv31 : v31.toInt = x4.toInt - 1 := by rw [ev31]; exact wn_dn (by omega) (by omega))
              refine wk_g (wn_in (by first | omega | decide) (by first | omega | decide)) ?_
              refine wk_r (fun v => 0 ≤ v.toInt ∧ v.toInt ≤ 8) (wB_r (by assumption) (by omega) (by omega)) (fun v33 hv33 => ?_)
              refine wk_g (wn_in (by first | omega | decide) (by first | omega | decide)) ?_
              refine wk_r (fun v => 0 ≤ v.toInt ∧ v.toInt ≤ 8) (wB_r (by assumption) (by omega) (by omega)) (fun v35 hv35 => ?_)
              refine wk_b2 (tB_M_jumpOf (by assumption) (by omega) (by omega) (by omega) (by omega)) (fun r37 σ36 hr28 => ?_)
              have hσ36 : wB _ _ σ36 := hr28
              refine wk_e (fun v38 ev38 => ?_)
              try (have hv38 : v38.toInt = v30.toInt + r37.toInt := by rw [ev38]; exact wn_add (by omega) (by omega))
              refine wk_wB (wB_u (by assumption) (by omega) (fun hh => u_71 hh (by decide) (by decide))) (fun σ39 hσ39 => ?_)
              unfold wf_M_reckon_118
              refine wk_g (wn_in (by first | omega | decide) (by first | omega | decide)) ?_
              refine wk_r (fun v => 0 ≤ v.toInt ∧ v.toInt ≤ 8) (wB_r (by assumption) (by omega) (by omega)) (fun v13 hv13 => ?_)
              refine wk_g (wn_in (by first | omega | decide) (by first | omega | decide)) ?_
              refine wk_v (fun v15 => ?_)
              refine wk_i (fun hc29 => ?_) (fun hc29 => ?_)
              · try simp only [wn_le, wn_lt, wn_eq, wn_0, wn_1, wn_m1, wn_9, wn_8, wn_4, wn_2, wn_100] at hc29
                unfold wf_M_reckon_167
                refine wk_e (fun v17 ev17 => ?_)
                try (have hv17 : v17.toInt = x4.toInt + 1 := by rw [ev17]; exact wn_up (by omega) (by omega))
                exact ih _ _ _ _ (by assumption) (by omega) (by omega) (by omega) (by omega) (by omega) (by omega) (by omega)
              · try simp only [wn_le, wn_lt, wn_eq, wn_0, wn_1, wn_m1, wn_9, wn_8, wn_4, wn_2, wn_100] at hc29
                refine wk_g (wn_in (by first | omega | decide) (by first | omega | decide)) ?_
                refine wk_r (fun v => 0 ≤ v.toInt ∧ v.toInt ≤ 8) (wB_r (by assumption) (by omega) (by omega)) (fun v19 hv19 => ?_)
                refine wk_g (wn_in (by first | omega | decide) (by first | omega | decide)) ?_
                refine wk_v (fun v21 => ?_)
                refine wk_i (fun hc30 => ?_) (fun hc30 => ?_)
                · try simp only [wn_le, wn_lt, wn_eq, wn_0, wn_1, wn_m1, wn_9, wn_8, wn_4, wn_2, wn_100] at hc30
                  unfold wf_M_reckon_167
                  refine wk_e (fun v17 ev17 => ?_)
                  try (have hv17 : v17.toInt = x4.toInt + 1 := by rw [ev17]; exact wn_up (by omega) (by omega))
                  exact ih _ _ _ _ (by assumption) (by omega) (by omega) (by omega) (by omega) (by omega) (by omega) (by omega)
                · try simp only [wn_le, wn_lt, wn_eq, wn_0, wn_1, wn_m1, wn_9, wn_8, wn_4, wn_2, wn_100] at hc30
                  refine wk_v (fun v23 => ?_)
                  refine wk_e (fun v24 ev24 => ?_)
                  try (have hv24 : v24.toInt = v23.toInt + 1 := by rw [ev24]; exact wn_up (by omega) (by omega))
                  refine wk_wB (wB_u (by assumption) (by omega) (fun hh => u_71 hh (by decide) (by decide))) (fun σ25 hσ25 => ?_)
                  refine wk_v (fun v26 => ?_)
                  refine wk_v (fun v27 => ?_)
                  refine wk_e (fun v28 ev28 => ?_)
                  try (have hv28 : v28.toInt = v26.toInt + v27.toInt := by rw [ev28]; exact wn_add (by omega) (by omega))
                  refine wk_wB (wB_u (by assumption) (by omega) (fun hh => u_71 hh (by decide) (by decide))) (fun σ29 hσ29 => ?_)
                  unfold wf_M_reckon_167
                  refine wk_e (fun v17 ev17 => ?_)
                  try (have hv17 : v17.toInt = x4.toInt + 1 := by rw [ev17]; exact wn_up (by omega) (by omega))
                  exact ih _ _ _ _ (by assumption) (by omega) (by omega) (by omega) (by omega) (by omega) (by omega) (by omega)
        · try simp only [wn_le, wn_lt, wn_eq, wn_0, wn_1, wn_m1, wn_9, wn_8, wn_4, wn_2, wn_100] at hc17
          unfold wf_M_reckon_53
          refine wk_g (wn_in (by first | omega | decide) (by first | omega | decide)) ?_
          refine wk_wB (wB_u (by assumption) (by omega) (fun hh => u_b hh (by omega) (wn_bb _))) (fun σ7 hσ7 => ?_)
          refine wk_g (wn_in (by first | omega | decide) (by first | omega | decide)) ?_
          refine wk_r (fun v => 0 ≤ v.toInt ∧ v.toInt ≤ 1) (i_b (wB_1 (by assumption)) (by omega)) (fun v9 hv9 => ?_)
          refine wk_i (fun hc31 => ?_) (fun hc31 => ?_)
          · try simp only [wn_le, wn_lt, wn_eq, wn_0, wn_1, wn_m1, wn_9, wn_8, wn_4, wn_2, wn_100] at hc31
            unfold wf_M_reckon_90
            refine wk_i (fun hc32 => ?_) (fun hc32 => ?_)
            · try simp only [wn_le, wn_lt, wn_eq, wn_0, wn_1, wn_m1, wn_9, wn_8, wn_4, wn_2, wn_100] at hc32
              unfold wf_M_reckon_118
              refine wk_g (wn_in (by first | omega | decide) (by first | omega | decide)) ?_
              refine wk_r (fun v => 0 ≤ v.toInt ∧ v.toInt ≤ 8) (wB_r (by assumption) (by omega) (by omega)) (fun v13 hv13 => ?_)
              refine wk_g (wn_in (by first | omega | decide) (by first | omega | decide)) ?_
              refine wk_v (fun v15 => ?_)
              refine wk_i (fun hc33 => ?_) (fun hc33 => ?_)
              · try simp only [wn_le, wn_lt, wn_eq, wn_0, wn_1, wn_m1, wn_9, wn_8, wn_4, wn_2, wn_100] at hc33
                unfold wf_M_reckon_167
                refine wk_e (fun v17 ev17 => ?_)
                try (have hv17 : v17.toInt = x4.toInt + 1 := by rw [ev17]; exact wn_up (by omega) (by omega))
                exact ih _ _ _ _ (by assumption) (by omega) (by omega) (by omega) (by omega) (by omega) (by omega) (by omega)
              · try simp only [wn_le, wn_lt, wn_eq, wn_0, wn_1, wn_m1, wn_9, wn_8, wn_4, wn_2, wn_100] at hc33
                refine wk_g (wn_in (by first | omega | decide) (by first | omega | decide)) ?_
                refine wk_r (fun v => 0 ≤ v.toInt ∧ v.toInt ≤ 8) (wB_r (by assumption) (by omega) (by omega)) (fun v19 hv19 => ?_)
                refine wk_g (wn_in (by first | omega | decide) (by first | omega | decide)) ?_
                refine wk_v (fun v21 => ?_)
                refine wk_i (fun hc34 => ?_) (fun hc34 => ?_)
                · try simp only [wn_le, wn_lt, wn_eq, wn_0, wn_1, wn_m1, wn_9, wn_8, wn_4, wn_2, wn_100] at hc34
                  unfold wf_M_reckon_167
                  refine wk_e (fun v17 ev17 => ?_)
                  try (have hv17 : v17.toInt = x4.toInt + 1 := by rw [ev17]; exact wn_up (by omega) (by omega))
                  exact ih _ _ _ _ (by assumption) (by omega) (by omega) (by omega) (by omega) (by omega) (by omega) (by omega)
                · try simp only [wn_le, wn_lt, wn_eq, wn_0, wn_1, wn_m1, wn_9, wn_8, wn_4, wn_2, wn_100] at hc34
                  refine wk_v (fun v23 => ?_)
                  refine wk_e (fun v24 ev24 => ?_)
                  try (have hv24 : v24.toInt = v23.toInt + 1 := by rw [ev24]; exact wn_up (by omega) (by omega))
                  refine wk_wB (wB_u (by assumption) (by omega) (fun hh => u_71 hh (by decide) (by decide))) (fun σ25 hσ25 => ?_)
                  refine wk_v (fun v26 => ?_)
                  refine wk_v (fun v27 => ?_)
                  refine wk_e (fun v28 ev28 => ?_)
                  try (have hv28 : v28.toInt = v26.toInt + v27.toInt := by rw [ev28]; exact wn_add (by omega) (by omega))
                  refine wk_wB (wB_u (by assumption) (by omega) (fun hh => u_71 hh (by decide) (by decide))) (fun σ29 hσ29 => ?_)
                  unfold wf_M_reckon_167
                  refine wk_e (fun v17 ev17 => ?_)
                  try (have hv17 : v17.toInt = x4.toInt + 1 := by rw [ev17]; exact wn_up (by omega) (by omega))
                  exact ih _ _ _ _ (by assumption) (by omega) (by omega) (by omega) (by omega) (by omega) (by omega) (by omega)
            · try simp only [wn_le, wn_lt, wn_eq, wn_0, wn_1, wn_m1, wn_9, wn_8, wn_4, wn_2, wn_100] at hc32
              refine wk_v (fun v30 => ?_)
              refine wk_e (fun v31 ev31 => ?_)
              try (have hv31 : v31.toInt = x4.toInt - 1 := by rw [ev31]; exact wn_dn (by omega) (by omega))
              refine wk_g (wn_in (by first | omega | decide) (by first | omega | decide)) ?_
              refine wk_r (fun v => 0 ≤ v.toInt ∧ v.toInt ≤ 8) (wB_r (by assumption) (by omega) (by omega)) (fun v33 hv33 => ?_)
              refine wk_g (wn_in (by first | omega | decide) (by first | omega | decide)) ?_
              refine wk_r (fun v => 0 ≤ v.toInt ∧ v.toInt ≤ 8) (wB_r (by assumption) (by omega) (by omega)) (fun v35 hv35 => ?_)
              refine wk_b2 (tB_M_jumpOf (by assumption) (by omega) (by omega) (by omega) (by omega)) (fun r37 σ36 hr35 => ?_)
              have hσ36 : wB _ _ σ36 := hr35
              refine wk_e (fun v38 ev38 => ?_)
              try (have hv38 : v38.toInt = v30.toInt + r37.toInt := by rw [ev38]; exact wn_add (by omega) (by omega))
              refine wk_wB (wB_u (by assumption) (by omega) (fun hh => u_71 hh (by decide) (by decide))) (fun σ39 hσ39 => ?_)
              unfold wf_M_reckon_118
              refine wk_g (wn_in (by first | omega | decide) (by first | omega | decide)) ?_
              refine wk_r (fun v => 0 ≤ v.toInt ∧ v.toInt ≤ 8) (wB_r (by assumption) (by omega) (by omega)) (fun v13 hv13 => ?_)
              refine wk_g (wn_in (by first | omega | decide) (by first | omega | decide)) ?_
              refine wk_v (fun v15 => ?_)
              refine wk_i (fun hc36 => ?_) (fun hc36 => ?_)
              · try simp only [wn_le, wn_lt, wn_eq, wn_0, wn_1, wn_m1, wn_9, wn_8, wn_4, wn_2, wn_100] at hc36
                unfold wf_M_reckon_167
                refine wk_e (fun v17 ev17 => ?_)
                try (have hv17 : v17.toInt = x4.toInt + 1 := by rw [ev17]; exact wn_up (by omega) (by omega))
                exact ih _ _ _ _ (by assumption) (by omega) (by omega) (by omega) (by omega) (by omega) (by omega) (by omega)
              · try simp only [wn_le, wn_lt, wn_eq, wn_0, wn_1, wn_m1, wn_9, wn_8, wn_4, wn_2, wn_100] at hc36
                refine wk_g (wn_in (by first | omega | decide) (by first | omega | decide)) ?_
                refine wk_r (fun v => 0 ≤ v.toInt ∧ v.toInt ≤ 8) (wB_r (by assumption) (by omega) (by omega)) (fun v19 hv19 => ?_)
                refine wk_g (wn_in (by first | omega | decide) (by first | omega | decide)) ?_
                refine wk_v (fun v21 => ?_)
                refine wk_i (fun hc37 => ?_) (fun hc37 => ?_)
                · try simp only [wn_le, wn_lt, wn_eq, wn_0, wn_1, wn_m1, wn_9, wn_8, wn_4, wn_2, wn_100] at hc37
                  unfold wf_M_reckon_167
                  refine wk_e (fun v17 ev17 => ?_)
                  try (have hv17 : v17.toInt = x4.toInt + 1 := by rw [ev17]; exact wn_up (by omega) (by omega))
                  exact ih _ _ _ _ (by assumption) (by omega) (by omega) (by omega) (by omega) (by omega) (by omega) (by omega)
                · try simp only [wn_le, wn_lt, wn_eq, wn_0, wn_1, wn_m1, wn_9, wn_8, wn_4, wn_2, wn_100] at hc37
                  refine wk_v (fun v23 => ?_)
                  refine wk_e (fun v24 ev24 => ?_)
                  try (have hv24 : v24.toInt = v23.toInt + 1 := by rw [ev24]; exact wn_up (by omega) (by omega))
                  refine wk_wB (wB_u (by assumption) (by omega) (fun hh => u_71 hh (by decide) (by decide))) (fun σ25 hσ25 => ?_)
                  refine wk_v (fun v26 => ?_)
                  refine wk_v (fun v27 => ?_)
                  refine wk_e (fun v28 ev28 => ?_)
                  try (have hv28 : v28.toInt = v26.toInt + v27.toInt := by rw [ev28]; exact wn_add (by omega) (by omega))
                  refine wk_wB (wB_u (by assumption) (by omega) (fun hh => u_71 hh (by decide) (by decide))) (fun σ29 hσ29 => ?_)
                  unfold wf_M_reckon_167
                  refine wk_e (fun v17 ev17 => ?_)
                  try (have hv17 : v17.toInt = x4.toInt + 1 := by rw [ev17]; exact wn_up (by omega) (by omega))
                  exact ih _ _ _ _ (by assumption) (by omega) (by omega) (by omega) (by omega) (by omega) (by omega) (by omega)
          · try simp only [wn_le, wn_lt, wn_eq, wn_0, wn_1, wn_m1, wn_9, wn_8, wn_4, wn_2, wn_100] at hc31
            refine wk_v (fun v40 => ?_)
            refine wk_e (fun v41 ev41 => ?_)
            try (have hv41 : v41.toInt = v40.toInt + 1 := by rw [ev41]; exact wn_up (by omega) (by omega))
            refine wk_wB (wB_u (by assumption) (by omega) (fun hh => u_71 hh (by decide) (by decide))) (fun σ42 hσ42 => ?_)
            refine wk_v (fun v43 => ?_)
            refine wk_v (fun v44 => ?_)
            refine wk_e (fun v45 ev45 => ?_)
            try (have hv45 : v45.toInt = v43.toInt + v44.toInt := by rw [ev45]; exact wn_add (by omega) (by omega))
            refine wk_wB (wB_u (by assumption) (by omega) (fun hh => u_71 hh (by decide) (by decide))) (fun σ46 hσ46 => ?_)
            unfold wf_M_reckon_90
            refine wk_i (fun hc38 => ?_) (fun hc38 => ?_)
            · try simp only [wn_le, wn_lt, wn_eq, wn_0, wn_1, wn_m1, wn_9, wn_8, wn_4, wn_2, wn_100] at hc38
              unfold wf_M_reckon_118
              refine wk_g (wn_in (by first | omega | decide) (by first | omega | decide)) ?_
              refine wk_r (fun v => 0 ≤ v.toInt ∧ v.toInt ≤ 8) (wB_r (by assumption) (by omega) (by omega)) (fun v13 hv13 => ?_)
              refine wk_g (wn_in (by first | omega | decide) (by first | omega | decide)) ?_
              refine wk_v (fun v15 => ?_)
              refine wk_i (fun hc39 => ?_) (fun hc39 => ?_)
              · try simp only [wn_le, wn_lt, wn_eq, wn_0, wn_1, wn_m1, wn_9, wn_8, wn_4, wn_2, wn_100] at hc39
                unfold wf_M_reckon_167
                refine wk_e (fun v17 ev17 => ?_)
                try (have hv17 : v17.toInt = x4.toInt + 1 := by rw [ev17]; exact wn_up (by omega) (by omega))
                exact ih _ _ _ _ (by assumption) (by omega) (by omega) (by omega) (by omega) (by omega) (by omega) (by omega)
              · try simp only [wn_le, wn_lt, wn_eq, wn_0, wn_1, wn_m1, wn_9, wn_8, wn_4, wn_2, wn_100] at hc39
                refine wk_g (wn_in (by first | omega | decide) (by first | omega | decide)) ?_
                refine wk_r (fun v => 0 ≤ v.toInt ∧ v.toInt ≤ 8) (wB_r (by assumption) (by omega) (by omega)) (fun v19 hv19 => ?_)
                refine wk_g (wn_in (by first | omega | decide) (by first | omega | decide)) ?_
                refine wk_v (fun v21 => ?_)
                refine wk_i (fun hc40 => ?_) (fun hc40 => ?_)
                · try simp only [wn_le, wn_lt, wn_eq, wn_0, wn_1, wn_m1, wn_9, wn_8, wn_4, wn_2, wn_100] at hc40
                  unfold wf_M_reckon_167
                  refine wk_e (fun v17 ev17 => ?_)
                  try (have hv17 : v17.toInt = x4.toInt + 1 := by rw [ev17]; exact wn_up (by omega) (by omega))
                  exact ih _ _ _ _ (by assumption) (by omega) (by omega) (by omega) (by omega) (by omega) (by omega) (by omega)
                · try simp only [wn_le, wn_lt, wn_eq, wn_0, wn_1, wn_m1, wn_9, wn_8, wn_4, wn_2, wn_100] at hc40
                  refine wk_v (fun v23 => ?_)
                  refine wk_e (fun v24 ev24 => ?_)
                  try (have hv24 : v24.toInt = v23.toInt + 1 := by rw [ev24]; exact wn_up (by omega) (by omega))
                  refine wk_wB (wB_u (by assumption) (by omega) (fun hh => u_71 hh (by decide) (by decide))) (fun σ25 hσ25 => ?_)
                  refine wk_v (fun v26 => ?_)
                  refine wk_v (fun v27 => ?_)
                  refine wk_e (fun v28 ev28 => ?_)
                  try (have hv28 : v28.toInt = v26.toInt + v27.toInt := by rw [ev28]; exact wn_add (by omega) (by omega))
                  refine wk_wB (wB_u (by assumption) (by omega) (fun hh => u_71 hh (by decide) (by decide))) (fun σ29 hσ29 => ?_)
                  unfold wf_M_reckon_167
                  refine wk_e (fun v17 ev17 => ?_)
                  try (have hv17 : v17.toInt = x4.toInt + 1 := by rw [ev17]; exact wn_up (by omega) (by omega))
                  exact ih _ _ _ _ (by assumption) (by omega) (by omega) (by omega) (by omega) (by omega) (by omega) (by omega)
            · try simp only [wn_le, wn_lt, wn_eq, wn_0, wn_1, wn_m1, wn_9, wn_8, wn_4, wn_2, wn_100] at hc38
              refine wk_v (fun v30 => ?_)
              refine wk_e (fun v31 ev31 => ?_)
              try (have hv31 : v31.toInt = x4.toInt - 1 := by rw [ev31]; exact wn_dn (by omega) (by omega))
              refine wk_g (wn_in (by first | omega | decide) (by first | omega | decide)) ?_
              refine wk_r (fun v => 0 ≤ v.toInt ∧ v.toInt ≤ 8) (wB_r (by assumption) (by omega) (by omega)) (fun v33 hv33 => ?_)
              refine wk_g (wn_in (by first | omega | decide) (by first | omega | decide)) ?_
              refine wk_r (fun v => 0 ≤ v.toInt ∧ v.toInt ≤ 8) (wB_r (by assumption) (by omega) (by omega)) (fun v35 hv35 => ?_)
              refine wk_b2 (tB_M_jumpOf (by assumption) (by omega) (by omega) (by omega) (by omega)) (fun r37 σ36 hr41 => ?_)
              have hσ36 : wB _ _ σ36 := hr41
              refine wk_e (fun v38 ev38 => ?_)
              try (have hv38 : v38.toInt = v30.toInt + r37.toInt := by rw [ev38]; exact wn_add (by omega) (by omega))
              refine wk_wB (wB_u (by assumption) (by omega) (fun hh => u_71 hh (by decide) (by decide))) (fun σ39 hσ39 => ?_)
              unfold wf_M_reckon_118
              refine wk_g (wn_in (by first | omega | decide) (by first | omega | decide)) ?_
              refine wk_r (fun v => 0 ≤ v.toInt ∧ v.toInt ≤ 8) (wB_r (by assumption) (by omega) (by omega)) (fun v13 hv13 => ?_)
              refine wk_g (wn_in (by first | omega | decide) (by first | omega | decide)) ?_
              refine wk_v (fun v15 => ?_)
              refine wk_i (fun hc42 => ?_) (fun hc42 => ?_)
              · try simp only [wn_le, wn_lt, wn_eq, wn_0, wn_1, wn_m1, wn_9, wn_8, wn_4, wn_2, wn_100] at hc42
                unfold wf_M_reckon_167
                refine wk_e (fun v17 ev17 => ?_)
                try (have hv17 : v17.toInt = x4.toInt + 1 := by rw [ev17]; exact wn_up (by omega) (by omega))
                exact ih _ _ _ _ (by assumption) (by omega) (by omega) (by omega) (by omega) (by omega) (by omega) (by omega)
              · try simp only [wn_le, wn_lt, wn_eq, wn_0, wn_1, wn_m1, wn_9, wn_8, wn_4, wn_2, wn_100] at hc42
                refine wk_g (wn_in (by first | omega | decide) (by first | omega | decide)) ?_
                refine wk_r (fun v => 0 ≤ v.toInt ∧ v.toInt ≤ 8) (wB_r (by assumption) (by omega) (by omega)) (fun v19 hv19 => ?_)
                refine wk_g (wn_in (by first | omega | decide) (by first | omega | decide)) ?_
                refine wk_v (fun v21 => ?_)
                refine wk_i (fun hc43 => ?_) (fun hc43 => ?_)
                · try simp only [wn_le, wn_lt, wn_eq, wn_0, wn_1, wn_m1, wn_9, wn_8, wn_4, wn_2, wn_100] at hc43
                  unfold wf_M_reckon_167
                  refine wk_e (fun v17 ev17 => ?_)
                  try (have hv17 : v17.toInt = x4.toInt + 1 := by rw [ev17]; exact wn_up (by omega) (by omega))
                  exact ih _ _ _ _ (by assumption) (by omega) (by omega) (by omega) (by omega) (by omega) (by omega) (by omega)
                · try simp only [wn_le, wn_lt, wn_eq, wn_0, wn_1, wn_m1, wn_9, wn_8, wn_4, wn_2, wn_100] at hc43
                  refine wk_v (fun v23 => ?_)
                  refine wk_e (fun v24 ev24 => ?_)
                  try (have hv24 : v24.toInt = v23.toInt + 1 := by rw [ev24]; exact wn_up (by omega) (by omega))
                  refine wk_wB (wB_u (by assumption) (by omega) (fun hh => u_71 hh (by decide) (by decide))) (fun σ25 hσ25 => ?_)
                  refine wk_v (fun v26 => ?_)
                  refine wk_v (fun v27 => ?_)
                  refine wk_e (fun v28 ev28 => ?_)
                  try (have hv28 : v28.toInt = v26.toInt + v27.toInt := by rw [ev28]; exact wn_add (by omega) (by omega))
                  refine wk_wB (wB_u (by assumption) (by omega) (fun hh => u_71 hh (by decide) (by decide))) (fun σ29 hσ29 => ?_)
                  unfold wf_M_reckon_167
                  refine wk_e (fun v17 ev17 => ?_)
                  try (have hv17 : v17.toInt = x4.toInt + 1 := by rw [ev17]; exact wn_up (by omega) (by omega))
                  exact ih _ _ _ _ (by assumption) (by omega) (by omega) (by omega) (by omega) (by omega) (by omega) (by omega)
theorem tt_M_reckon {m : Int} {k1 : Nat} {a2 : Int32} {σ : wc_S} (hσ : wB k1 m σ) (q0 : k1 = 85 ∨ k1 = 86) (q1 : a2.toInt ≤ 9) (q2 : a2.toInt ≤ m) : wk (wf_M_reckon k1 a2 σ) (wB k1 m) := by
  unfold wf_M_reckon
  refine wk_wB (wB_u (by assumption) (by omega) (fun hh => u_71 hh (by decide) (by decide))) (fun σ1 hσ1 => ?_)
  refine wk_wB (wB_u (by assumption) (by omega) (fun hh => u_71 hh (by decide) (by decide))) (fun σ2 hσ2 => ?_)
  refine wk_wB (wB_u (by assumption) (by omega) (fun hh => u_71 hh (by decide) (by decide))) (fun σ3 hσ3 => ?_)
  exact tt_M_reckon_20 (by omega) 16 _ _ _ _ (by assumption) (by first | omega | decide) (by first | omega | decide) (by first | omega | decide) (by first | omega | decide) (by first | omega | decide) (by first | omega | decide) (by first | omega | decide) 
theorem tt_M_order_31 {c : Nat} {σ : wc_S} {a1 s : Int32} (hσ : wJ c σ) (h : s.toInt ≤ 0 → 0 ≤ a1.toInt ∧ a1.toInt ≤ 8) : wk (wf_M_order_31 a1 s σ) (fun r => wJ c r.2) := by
  have hτ : wJ c (wc_u σ 71 0 s) := u_71 hσ (by decide) (by decide)
  show wk (if (wc_u σ 71 0 s) 71 0 ≤ 0 then _ else _) _
  rw [wu_same]
  refine wk_i (fun hc => ?_) (fun hc => wk_s hτ)
  simp only [wn_le, wn_0] at hc
  have ha := h hc
  exact wk_g (wn_in (by omega) (by omega)) (wk_s hτ)
theorem tt_M_change_31 {σ : wc_S} {a1 s : Int32} (hσ : wJ 0 σ) (h : s.toInt ≤ 0 → 0 ≤ a1.toInt ∧ a1.toInt ≤ 8) : wk (wf_M_change_31 a1 s σ) (fun r => wJ 0 r.2) := by
  have hτ : wJ 0 (wc_u σ 71 0 s) := u_71 hσ (by decide) (by decide)
  show wk (if (wc_u σ 71 0 s) 71 0 ≤ 0 then _ else _) _
  rw [wu_same]
  refine wk_i (fun hc => ?_) (fun hc => wk_s hτ)
  simp only [wn_le, wn_0] at hc
  have ha := h hc
  refine wk_rm hτ (fun v hv => ?_)
  refine wk_b1 (tt_M_reckon (wB_85 (m := 9) hτ) (by omega) (by omega) (by omega)) (fun υ hυ => ?_)
  refine wk_g (wn_in (by omega) (by omega)) ?_
  refine wk_r (fun v => 0 ≤ v.toInt ∧ v.toInt ≤ 1) (i_b hυ.1 (by omega)) (fun w hw => ?_)
  exact wk_g (wn_z hw) (wk_s hυ.1)
theorem tt_M_order {a1 : Int32} {σ : wc_S} (hσ : wJ 0 σ)  : wk (wf_M_order a1 σ) (fun r => wJ 0 r.2) := by
  unfold wf_M_order
  refine wk_v (fun v1 => ?_)
  refine wk_i (fun hc1 => ?_) (fun hc1 => ?_)
  · try simp only [wn_le, wn_lt, wn_eq, wn_0, wn_1, wn_m1, wn_9, wn_8, wn_4, wn_2, wn_100] at hc1
    exact tt_M_order_31 (by assumption) (fun h31 => by first | omega | exact absurd h31 (by decide))
  · try simp only [wn_le, wn_lt, wn_eq, wn_0, wn_1, wn_m1, wn_9, wn_8, wn_4, wn_2, wn_100] at hc1
    refine wk_rm (by assumption) (fun v3 hv3 => ?_)
    refine wk_e (fun v4 ev4 => ?_)
    try (have hv4 : v4.toInt = v3.toInt - 1 := by rw [ev4]; exact wn_dn (by omega) (by omega))
    refine wk_b2 (tt_M_in (by assumption) ) (fun r6 σ5 hr2 => ?_)
    obtain ⟨hσ5, hpσ5⟩ := hr2
    try simp only [wn_0, wn_1, wn_m1, wn_9, wn_8, wn_4, wn_2, wn_100] at hpσ5
    refine wk_i (fun hc3 => ?_) (fun hc3 => ?_)
    · try simp only [wn_le, wn_lt, wn_eq, wn_0, wn_1, wn_m1, wn_9, wn_8, wn_4, wn_2, wn_100] at hc3
      exact tt_M_order_31 (by assumption) (fun h31 => by first | omega | exact absurd h31 (by decide))
    · try simp only [wn_le, wn_lt, wn_eq, wn_0, wn_1, wn_m1, wn_9, wn_8, wn_4, wn_2, wn_100] at hc3
      exact tt_M_order_31 (by assumption) (fun h31 => by first | omega | exact absurd h31 (by decide))
theorem tt_M_change {a1 : Int32} {σ : wc_S} (hσ : wJ 0 σ)  : wk (wf_M_change a1 σ) (fun r => wJ 0 r.2) := by
  unfold wf_M_change
  refine wk_v (fun v1 => ?_)
  refine wk_i (fun hc1 => ?_) (fun hc1 => ?_)
  · try simp only [wn_le, wn_lt, wn_eq, wn_0, wn_1, wn_m1, wn_9, wn_8, wn_4, wn_2, wn_100] at hc1
    exact tt_M_change_31 (by assumption) (fun h31 => by first | omega | exact absurd h31 (by decide))
  · try simp only [wn_le, wn_lt, wn_eq, wn_0, wn_1, wn_m1, wn_9, wn_8, wn_4, wn_2, wn_100] at hc1
    refine wk_rm (by assumption) (fun v3 hv3 => ?_)
    refine wk_e (fun v4 ev4 => ?_)
    try (have hv4 : v4.toInt = v3.toInt - 1 := by rw [ev4]; exact wn_dn (by omega) (by omega))
    refine wk_b2 (tt_M_in (by assumption) ) (fun r6 σ5 hr2 => ?_)
    obtain ⟨hσ5, hpσ5⟩ := hr2
    try simp only [wn_0, wn_1, wn_m1, wn_9, wn_8, wn_4, wn_2, wn_100] at hpσ5
    refine wk_i (fun hc3 => ?_) (fun hc3 => ?_)
    · try simp only [wn_le, wn_lt, wn_eq, wn_0, wn_1, wn_m1, wn_9, wn_8, wn_4, wn_2, wn_100] at hc3
      exact tt_M_change_31 (by assumption) (fun h31 => by first | omega | exact absurd h31 (by decide))
    · try simp only [wn_le, wn_lt, wn_eq, wn_0, wn_1, wn_m1, wn_9, wn_8, wn_4, wn_2, wn_100] at hc3
      exact tt_M_change_31 (by assumption) (fun h31 => by first | omega | exact absurd h31 (by decide))
theorem tt_M_told {a1 : Int32} {σ : wc_S} (hσ : wJ 0 σ)  : wk (wf_M_told a1 σ) (fun r => wJ 0 r.2) := by
  unfold wf_M_told
  refine wk_b2 (tt_M_in (by assumption) ) (fun r2 σ1 hr1 => ?_)
  obtain ⟨hσ1, hpσ1⟩ := hr1
  try simp only [wn_0, wn_1, wn_m1, wn_9, wn_8, wn_4, wn_2, wn_100] at hpσ1
  refine wk_v (fun v3 => ?_)
  refine wk_b2 (tt_M_goes (by assumption)) (fun r5 σ4 hr2 => ?_)
  obtain ⟨hσ4, hpσ4⟩ := hr2
  try simp only [wn_0, wn_1, wn_m1, wn_9, wn_8, wn_4, wn_2, wn_100] at hpσ4
  refine wk_i (fun hc3 => ?_) (fun hc3 => ?_)
  · try simp only [wn_le, wn_lt, wn_eq, wn_0, wn_1, wn_m1, wn_9, wn_8, wn_4, wn_2, wn_100] at hc3
    exact wk_s ((show wJ 0 _ from by assumption))
  · try simp only [wn_le, wn_lt, wn_eq, wn_0, wn_1, wn_m1, wn_9, wn_8, wn_4, wn_2, wn_100] at hc3
    refine wk_rm (by assumption) (fun v7 hv7 => ?_)
    refine wk_b1 (wk_mono (tt_M_reckon (wB_85 (m := 9) (by assumption)) (by omega) (by omega) (by omega)) (fun _ h => h.1)) (fun σ8 hr4 => ?_)
    have hσ8 : wJ _ σ8 := hr4
    refine wk_i (fun hc5 => ?_) (fun hc5 => ?_)
    · try simp only [wn_le, wn_lt, wn_eq, wn_0, wn_1, wn_m1, wn_9, wn_8, wn_4, wn_2, wn_100] at hc5
      refine wk_v (fun v13 => ?_)
      exact wk_s ((show wJ 0 _ from by assumption))
    · try simp only [wn_le, wn_lt, wn_eq, wn_0, wn_1, wn_m1, wn_9, wn_8, wn_4, wn_2, wn_100] at hc5
      refine wk_i (fun hc6 => ?_) (fun hc6 => ?_)
      · try simp only [wn_le, wn_lt, wn_eq, wn_0, wn_1, wn_m1, wn_9, wn_8, wn_4, wn_2, wn_100] at hc6
        refine wk_v (fun v12 => ?_)
        exact wk_s ((show wJ 0 _ from by assumption))
      · try simp only [wn_le, wn_lt, wn_eq, wn_0, wn_1, wn_m1, wn_9, wn_8, wn_4, wn_2, wn_100] at hc6
        refine wk_v (fun v11 => ?_)
        exact wk_s ((show wJ 0 _ from by assumption))
/-! what is written nowhere is as it was -/
theorem tB_M_mayBe {k1 : Nat} {m : Int} {a2 : Int32} {σ : wc_S} (hσ : wB k1 m σ) (q0 : k1 = 85 ∨ k1 = 86) (q1 : 0 ≤ a2.toInt) (q2 : a2.toInt ≤ 8) (q3 : a2.toInt < m) : wk (wf_M_mayBe k1 a2 σ) (fun r => r.2 = σ) := by
  obtain ⟨x, h1, h2⟩ := tt_M_mayBe hσ q0 q1 q2 q3
  exact ⟨x, h1, wr_same (wr_M_mayBe k1 a2 σ x h1) (fun _ _ h => h)⟩
theorem tB_M_isGood {k1 : Nat} {m : Int} {σ : wc_S} (hσ : wB k1 m σ) (q0 : k1 = 85 ∨ k1 = 86) (hm : (σ 71 1).toInt ≤ m) : wk (wf_M_isGood k1 σ) (fun r => r.2 = σ) := by
  have L : ∀ (n : Nat) (x2 : Int32), 0 ≤ x2.toInt → x2.toInt ≤ 9 → 9 < x2.toInt + n → wk (wf_M_isGood_2 k1 n x2 σ) (fun r => r.2 = σ) := by
    intro n
    induction n with
    | zero => intro x2 c0 c1 c2; omega
    | succ n ih =>
      intro x2 c0 c1 c2
      show wk (wf_M_isGood_2_b k1 (wf_M_isGood_2 k1 n) x2 σ) _
      unfold wf_M_isGood_2_b
      refine wk_rm hσ.1 (fun v1 hv1 => ?_)
      refine wk_i (fun hc => wk_s rfl) (fun hc => ?_)
      simp only [wn_le] at hc
      refine wk_b2 (tB_M_mayBe hσ q0 (by omega) (by omega) (by omega)) (fun r u hu => ?_)
      have hu : u = σ := hu
      rw [hu]
      refine wk_i (fun hc2 => wk_s rfl) (fun hc2 => ?_)
      refine wk_e (fun v6 e6 => ?_)
      have h6 : v6.toInt = x2.toInt + 1 := by rw [e6]; exact wn_up (by omega) (by omega)
      exact ih v6 (by omega) (by omega) (by omega)
  exact L 16 0 (by decide) (by decide) (by decide)
theorem tB_M_stands {a1 a2 : Int32} {σ : wc_S} (h2 : a2.toInt ≤ 9) : wk (wf_M_stands a1 a2 σ) (fun r => r.2 = σ) := by
  have L : ∀ (n : Nat) (x3 : Int32), 0 ≤ x3.toInt → x3.toInt ≤ 9 → 9 < x3.toInt + n → wk (wf_M_stands_2 n a1 a2 x3 σ) (fun r => r.2 = σ) := by
    intro n
    induction n with
    | zero => intro x2 c0 c1 c2; omega
    | succ n ih =>
      intro x3 c0 c1 c2
      show wk (wf_M_stands_2_b (wf_M_stands_2 n) a1 a2 x3 σ) _
      unfold wf_M_stands_2_b
      refine wk_i (fun hc => wk_s rfl) (fun hc => ?_)
      simp only [wn_le] at hc
      refine wk_g (wn_in (by omega) (by omega)) ?_
      refine wk_v (fun v3 => ?_)
      refine wk_i (fun hc2 => wk_s rfl) (fun hc2 => ?_)
      refine wk_e (fun v6 e6 => ?_)
      have h6 : v6.toInt = x3.toInt + 1 := by rw [e6]; exact wn_up (by omega) (by omega)
      exact ih v6 (by omega) (by omega) (by omega)
  exact L 16 0 (by decide) (by decide) (by decide)
theorem tB_M_goes {k1 : Nat} {m : Int} {a1 a2 a3 : Int32} {σ : wc_S} (hσ : wB k1 m σ) (hk : k1 = 85 ∨ k1 = 86) : wk (wf_M_goes a1 a2 a3 σ) (fun r => (wB k1 m r.2 ∧ ∀ k i, k ≠ 71 ∨ i ≠ 0 → r.2 k i = σ k i) ∧ (r.1.toInt ≠ 0 → a1.toInt ≠ 0 ∧ a2.toInt ≠ 0 ∧ a3.toInt ≠ 0)) := by
  obtain ⟨x, h1, h2⟩ := tt_M_goes (a1 := a1) (a2 := a2) (a3 := a3) hσ.1
  have hw := wr_M_goes a1 a2 a3 σ x h1
  refine ⟨x, h1, ⟨⟨h2.1, fun i hi => ?_⟩, fun k i hk => hw k i (fun q => by unfold wS_M_goes at q; omega)⟩, h2.2⟩
  rw [hw k1 i (fun q => by unfold wS_M_goes at q; omega)]
  exact hσ.2 i hi
