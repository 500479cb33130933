theorem wn_15l (x : Int64) : 0 ≤ (x &&& 15).toInt32.toInt ∧ (x &&& 15).toInt32.toInt ≤ 15 := by
  have h : (x &&& 15).toBitVec.toNat = x.toBitVec.toNat % 16 := by
    rw [Int64.toBitVec_and]
    show (x.toBitVec &&& 15#64).toNat = _
    rw [BitVec.toNat_and]
    exact Nat.and_two_pow_sub_one_eq_mod _ 4
  have e2 : (x &&& 15).toInt = (x &&& 15).toBitVec.toInt := rfl
  have h3 : 0 ≤ (x &&& 15).toInt ∧ (x &&& 15).toInt ≤ 15 := by
    rw [e2, BitVec.toInt_eq_toNat_cond, h]
    have : x.toBitVec.toNat % 16 < 16 := Nat.mod_lt _ (by decide)
    split <;> omega
  rw [Int64.toInt_toInt32, Int.bmod_eq_of_le (by omega) (by omega)]
  exact h3
theorem wB_w {m : Int} {i : Nat} {σ : wc_S} {x : Int32} (h : wB 86 m σ) (hx : 0 ≤ x.toInt ∧ x.toInt ≤ 8) : wB 86 m (wc_u σ 86 i x) := by
  refine ⟨u_o h.1 (by decide), fun j hj => ?_⟩
  by_cases e : j = i
  · rw [e, wu_same]; exact hx
  · rw [wu_other (Or.inr e)]; exact h.2 j hj
theorem wB_x {m : Int} {i : Nat} {σ : wc_S} {x : Int32} (h : wB 86 m σ) (hi : (i : Int) = m) (hx : 0 ≤ x.toInt ∧ x.toInt ≤ 8) : wB 86 (m + 1) (wc_u σ 86 i x) := by
  refine ⟨u_o h.1 (by decide), fun j hj => ?_⟩
  by_cases e : j = i
  · rw [e, wu_same]; exact hx
  · rw [wu_other (Or.inr e)]; exact h.2 j (by omega)
theorem tB_M_reckon {k1 : Nat} {m : Int} {a2 : Int32} {σ : wc_S} (hσ : wB k1 m σ) (q0 : k1 = 85 ∨ k1 = 86) (q1 : a2.toInt ≤ 9) (q2 : a2.toInt ≤ m) : wk (wf_M_reckon k1 a2 σ) (fun τ => wB k1 m τ ∧ τ 71 1 = σ 71 1) := by
  obtain ⟨x, h1, h2⟩ := tt_M_reckon hσ q0 q1 q2
  exact ⟨x, h1, h2, wr_M_reckon k1 a2 σ x h1 71 1 (fun q => by unfold wS_M_reckon at q; omega)⟩
theorem t_tell108 {m : Int} : ∀ (n : Nat) (x4 : Int32) (σ : wc_S), wB 86 m σ → (σ 71 1).toInt ≤ m → 0 ≤ x4.toInt → x4.toInt ≤ 9 → 9 < x4.toInt + n → wk (wf_M_tell_108 n x4 σ) (wJ 0) := by
  intro n
  induction n with
  | zero => intro x4 σ hσ hm c0 c1 c2; omega
  | succ n ih =>
    intro x4 σ hσ hm c0 c1 c2
    show wk (wf_M_tell_108_b (wf_M_tell_108 n) x4 σ) _
    unfold wf_M_tell_108_b
    refine wk_rm hσ.1 (fun v8 hv8 => ?_)
    refine wk_i (fun hc => wk_s hσ.1) (fun hc => ?_)
    simp only [wn_le] at hc
    refine wk_g (wn_in (by omega) (by omega)) ?_
    refine wk_r (fun v => 0 ≤ v.toInt ∧ v.toInt ≤ 8) (wB_r hσ (by omega) (by omega)) (fun v11 hv11 => ?_)
    refine wk_g (wn_in (by omega) (by omega)) ?_
    refine wk_e (fun τ eτ => ?_)
    have hτ : wB 86 m τ := by rw [eτ]; exact wB_u hσ (by decide) (fun hh => u_8 hh (by omega) hv11)
    have h71 : (τ 71 1).toInt ≤ m := by rw [eτ, wu_other (Or.inl (by decide))]; exact hm
    refine wk_e (fun v14 e14 => ?_)
    have h14 : v14.toInt = x4.toInt + 1 := by rw [e14]; exact wn_up (by omega) (by omega)
    exact ih v14 τ hτ h71 (by omega) (by omega) (by omega)
theorem t_swaps111 {m : Int} : ∀ (n : Nat) (x4 : Int32) (σ : wc_S), wB 86 m σ → (σ 71 1).toInt ≤ m → 0 ≤ x4.toInt → x4.toInt ≤ 9 → 9 < x4.toInt + n → wk (wf_M_swaps_111 n x4 σ) (fun r => wJ 0 r.2) := by
  intro n
  induction n with
  | zero => intro x4 σ hσ hm c0 c1 c2; omega
  | succ n ih =>
    intro x4 σ hσ hm c0 c1 c2
    show wk (wf_M_swaps_111_b (wf_M_swaps_111 n) x4 σ) _
    unfold wf_M_swaps_111_b
    refine wk_rm hσ.1 (fun v8 hv8 => ?_)
    refine wk_i (fun hc => wk_s hσ.1) (fun hc => ?_)
    simp only [wn_le] at hc
    refine wk_g (wn_in (by omega) (by omega)) ?_
    refine wk_r (fun v => 0 ≤ v.toInt ∧ v.toInt ≤ 8) (wB_r hσ (by omega) (by omega)) (fun v11 hv11 => ?_)
    refine wk_g (wn_in (by omega) (by omega)) ?_
    refine wk_e (fun τ eτ => ?_)
    have hτ : wB 86 m τ := by rw [eτ]; exact wB_u hσ (by decide) (fun hh => u_8 hh (by omega) hv11)
    have h71 : (τ 71 1).toInt ≤ m := by rw [eτ, wu_other (Or.inl (by decide))]; exact hm
    refine wk_e (fun v14 e14 => ?_)
    have h14 : v14.toInt = x4.toInt + 1 := by rw [e14]; exact wn_up (by omega) (by omega)
    exact ih v14 τ hτ h71 (by omega) (by omega) (by omega)
theorem t_tell92 {m : Int} {s1 s2 : Int32} {σ : wc_S} (hσ : wJ 0 σ) (h : s1.toInt ≠ 0 → s2.toInt ≠ 0 → wB 86 m σ ∧ (σ 71 1).toInt ≤ m) : wk (wf_M_tell_92 s1 s2 σ) (wJ 0) := by
  unfold wf_M_tell_92
  by_cases hb : s1.toInt ≠ 0 ∧ s2.toInt ≠ 0
  · obtain ⟨hB, hm⟩ := h hb.1 hb.2
    refine wk_b2 (tB_M_goes hB (Or.inr rfl)) (fun r u hu => ?_)
    obtain ⟨⟨hu1, hu2⟩, hp⟩ := hu
    refine wk_i (fun _ => wk_s hu1.1) (fun _ => ?_)
    refine wk_e (fun τ eτ => ?_)
    have hτ : wB 86 m τ := by rw [eτ]; exact wB_u hu1 (by decide) (fun hh => u_71 hh (by decide) (by decide))
    have h71 : (τ 71 1).toInt ≤ m := by rw [eτ, wu_other (Or.inr (by decide))]; rw [show u 71 1 = σ 71 1 from hu2 71 1 (Or.inr (by decide))]; exact hm
    exact t_tell108 16 0 τ hτ h71 (by decide) (by decide) (by decide)
  · refine wk_b2 (tt_M_goes hσ) (fun r u hu => ?_)
    obtain ⟨hu1, hp⟩ := hu
    refine wk_i (fun _ => wk_s hu1) (fun hc => ?_)
    have hq := hp (fun e => hc (wn_eq.2 e))
    exact absurd ⟨hq.1, hq.2.1⟩ hb
theorem t_tell5 {x1 : Int64} : ∀ (n : Nat) (x3 x4 : Int32) (σ : wc_S), wJ 0 σ → (x3.toInt ≠ 0 → ∀ i : Nat, (i : Int) < x4.toInt → 0 ≤ (σ 86 i).toInt ∧ (σ 86 i).toInt ≤ 8) → 0 ≤ x4.toInt → x4.toInt ≤ 9 → 9 < x4.toInt + n → wk (wf_M_tell_5 n x1 x3 x4 σ) (wJ 0) := by
  intro n
  induction n with
  | zero => intro x3 x4 σ hσ h3 c0 c1 c2; omega
  | succ n ih =>
    intro x3 x4 σ hσ h3 c0 c1 c2
    show wk (wf_M_tell_5_b (wf_M_tell_5 n) x1 x3 x4 σ) _
    unfold wf_M_tell_5_b
    refine wk_rm hσ (fun v1 hv1 => ?_)
    refine wk_i (fun hc => ?_) (fun hc => ?_)
    · simp only [wn_le] at hc
      refine wk_i (fun e => ?_) (fun e => ?_)
      · unfold wf_M_tell_91
        exact t_tell92 (m := 0) hσ (fun h _ => absurd (wn_eq.1 e) h)
      · have hne : x3.toInt ≠ 0 := fun h => e (wn_eq.2 h)
        have hB : wB 86 x4.toInt σ := ⟨hσ, h3 hne⟩
        refine wk_b2 (tB_M_isGood hB (Or.inr rfl) (by omega)) (fun r u hu => ?_)
        have hu : u = σ := hu
        rw [hu]
        refine wk_i (fun _ => ?_) (fun _ => ?_)
        · unfold wf_M_tell_91
          exact t_tell92 (m := x4.toInt) hσ (fun _ _ => ⟨hB, by omega⟩)
        · exact t_tell92 (m := x4.toInt) hσ (fun _ _ => ⟨hB, by omega⟩)
    · simp only [wn_le] at hc
      refine wk_v (fun v18 => ?_)
      refine wk_v (fun v19 => ?_)
      refine wk_e (fun v20 e20 => ?_)
      refine wk_e (fun v21 e21 => ?_)
      have h21 : 0 ≤ v21.toInt := by rw [e21, e20]; exact (wn_15l v19).1
      have h28 : ∀ v28 : Int32, v28 = x4 + 1 → v28.toInt = x4.toInt + 1 := fun v28 e => by rw [e]; exact wn_up (by omega) (by omega)
      refine wk_g (wn_in (by omega) (by omega)) ?_
      refine wk_e (fun τ eτ => ?_)
      have hτ : wJ 0 τ := by rw [eτ]; exact u_o hσ (by decide)
      have h62 : wk (wf_M_tell_62 (wf_M_tell_5 n) x1 x4 τ) (wJ 0) := by
        unfold wf_M_tell_62 wf_M_tell_64
        refine wk_e (fun v28 e28 => ?_)
        have e := h28 v28 e28
        exact ih 0 v28 τ hτ (fun h => absurd wn_0 h) (by omega) (by omega) (by omega)
      refine wk_g (wn_in (by omega) (by omega)) ?_
      refine wk_e (fun v25 e25 => ?_)
      have e25' : v25 = v21 := by rw [e25, eτ, wu_same]
      refine wk_rm hτ (fun v26 hv26 => ?_)
      refine wk_i (fun _ => h62) (fun hc2 => ?_)
      simp only [wn_le, e25'] at hc2
      refine wk_g (wn_in (by omega) (by omega)) ?_
      refine wk_v (fun v30 => ?_)
      refine wk_b2 (tB_M_stands (by omega)) (fun r u hu => ?_)
      have hu : u = τ := hu
      rw [hu]
      refine wk_i (fun _ => ?_) (fun _ => h62)
      unfold wf_M_tell_64
      refine wk_e (fun v28 e28 => ?_)
      have e := h28 v28 e28
      refine ih x3 v28 τ hτ (fun h i hi => ?_) (by omega) (by omega) (by omega)
      by_cases ei : i = x4.toNatClampNeg
      · rw [eτ, ei, wu_same]; omega
      · rw [eτ, wu_other (Or.inr ei)]
        refine h3 h i ?_
        rw [wn_tn] at ei
        omega
theorem tt_M_tell {a1 : Int64} {σ : wc_S} (hσ : wJ 0 σ) : wk (wf_M_tell a1 σ) (wJ 0) := by
  unfold wf_M_tell
  exact t_tell5 16 1 0 σ hσ (fun _ i hi => by rw [wn_0] at hi; omega) (by decide) (by decide) (by decide)
theorem t_swaps20 {x1 x2 x3 : Int32} (p1 : 0 ≤ x1.toInt ∧ x1.toInt ≤ 8) (p2 : 0 ≤ x2.toInt ∧ x2.toInt ≤ 8) : ∀ (n : Nat) (x4 : Int32) (σ : wc_S), wB 86 x4.toInt σ → 0 ≤ x4.toInt → x4.toInt ≤ 9 → 9 < x4.toInt + n → wk (wf_M_swaps_20 n x1 x2 x3 x4 σ) (fun r => wJ 0 r.2) := by
  intro n
  induction n with
  | zero => intro x4 σ hσ c0 c1 c2; omega
  | succ n ih =>
    intro x4 σ hσ c0 c1 c2
    show wk (wf_M_swaps_20_b (wf_M_swaps_20 n) x1 x2 x3 x4 σ) _
    unfold wf_M_swaps_20_b
    refine wk_rm hσ.1 (fun v4 hv4 => ?_)
    refine wk_i (fun hc => ?_) (fun hc => ?_)
    · simp only [wn_le] at hc
      refine wk_g (wn_in (by omega) (by omega)) ?_
      refine wk_r (fun v => 0 ≤ v.toInt ∧ v.toInt ≤ 8) (i_8 hσ.1 (by omega)) (fun v7 hv7 => ?_)
      refine wk_g (wn_in (by omega) (by omega)) ?_
      refine wk_e (fun σ9 e9 => ?_)
      have h9 : wB 86 x4.toInt σ9 := by rw [e9]; exact wB_w hσ hv7
      have k9 : σ9 71 1 = σ 71 1 := by rw [e9, wu_other (Or.inl (by decide))]
      refine wk_g (wn_in (by omega) (by omega)) ?_
      refine wk_r (fun v => 0 ≤ v.toInt ∧ v.toInt ≤ 8) (i_8 h9.1 (by omega)) (fun v11 hv11 => ?_)
      refine wk_g (wn_in (by omega) (by omega)) ?_
      refine wk_e (fun σ13 e13 => ?_)
      have h13 : wB 86 x4.toInt σ13 := by rw [e13]; exact wB_w h9 hv11
      have k13 : σ13 71 1 = σ 71 1 := by rw [e13, wu_other (Or.inl (by decide))]; exact k9
      have k13' : (σ13 71 1).toInt ≤ x4.toInt := by rw [k13]; omega
      refine wk_b2 (tB_M_isGood h13 (Or.inr rfl) k13') (fun r u hu => ?_)
      have hu : u = σ13 := hu
      rw [hu]
      refine wk_i (fun _ => wk_s h13.1) (fun _ => ?_)
      refine wk_rm h13.1 (fun v17 hv17 => ?_)
      refine wk_b1 (tB_M_reckon h13 (Or.inr rfl) (by omega) (by omega)) (fun σ18 h18 => ?_)
      refine wk_v (fun v19 => ?_)
      refine wk_i (fun _ => ?_) (fun _ => wk_s h18.1.1)
      exact t_swaps111 16 0 σ18 h18.1 (by rw [h18.2]; exact k13') (by decide) (by decide) (by decide)
    · simp only [wn_le] at hc
      refine wk_g (wn_in (by omega) (by omega)) ?_
      refine wk_r (fun v => 0 ≤ v.toInt ∧ v.toInt ≤ 8) (i_8 hσ.1 (by omega)) (fun v29 hv29 => ?_)
      refine wk_g (wn_in (by omega) (by omega)) ?_
      refine wk_e (fun τ eτ => ?_)
      have hτ : wB 86 (x4.toInt + 1) τ := by rw [eτ]; exact wB_x hσ (by rw [wn_tn]; omega) hv29
      refine wk_e (fun v32 e32 => ?_)
      have h32 : v32.toInt = x4.toInt + 1 := by rw [e32]; exact wn_up (by omega) (by omega)
      exact ih v32 τ (by rw [h32]; exact hτ) (by omega) (by omega) (by omega)
theorem tt_M_swaps {a1 a2 : Int32} {σ : wc_S} (hσ : wJ 0 σ) (q0 : 0 ≤ a1.toInt) (q1 : a1.toInt ≤ 8) (q2 : 0 ≤ a2.toInt) (q3 : a2.toInt ≤ 8) : wk (wf_M_swaps a1 a2 σ) (fun r => wJ 0 r.2) := by
  unfold wf_M_swaps
  refine wk_rm hσ (fun v1 hv1 => ?_)
  refine wk_b1 (tt_M_reckon (wB_85 (m := 9) hσ) (by omega) (by omega) (by omega)) (fun σ2 h2 => ?_)
  refine wk_v (fun v3 => ?_)
  exact t_swaps20 ⟨q0, q1⟩ ⟨q2, q3⟩ 16 0 σ2 ⟨h2.1, fun i hi => by rw [wn_0] at hi; omega⟩ (by decide) (by decide) (by decide)
theorem tt_M_better_14 {k2 : Int32 → wc_S → Option (Int32 × wc_S)}  : ∀ (n : Nat) (x1 : Int32) (x2 : Int32) (σ : wc_S), wJ 0 σ → 0 ≤ x1.toInt → x1.toInt ≤ 8 → 0 ≤ x2.toInt → x2.toInt ≤ 9 → 9 < x2.toInt + n → (∀ v σ, wJ 0 σ → v.toInt = x1.toInt + 1 → wk (k2 v σ) (fun r => wJ 0 r.2)) → wk (wf_M_better_14 k2 n x1 x2 σ) (fun r => wJ 0 r.2) := by
  intro n
  induction n with
  | zero => intro x1 x2 σ hσ c0 c1 c2 c3 c4 hk2; omega
  | succ n ih =>
    intro x1 x2 σ hσ c0 c1 c2 c3 c4 hk2
    show wk (wf_M_better_14_b k2 (wf_M_better_14 k2 n) x1 x2 σ) _
    unfold wf_M_better_14_b
    refine wk_rm (by assumption) (fun v4 hv4 => ?_)
    refine wk_i (fun hc1 => ?_) (fun hc1 => ?_)
    · try simp only [wn_le, wn_lt, wn_eq, wn_0, wn_1, wn_m1, wn_9, wn_8, wn_4, wn_2, wn_100] at hc1
      refine wk_e (fun v6 ev6 => ?_)
      try (have hv6 : v6.toInt = x1.toInt + 1 := by rw [ev6]; exact wn_up (by omega) (by omega))
      exact hk2 _ _ (by assumption) (by omega)
    · try simp only [wn_le, wn_lt, wn_eq, wn_0, wn_1, wn_m1, wn_9, wn_8, wn_4, wn_2, wn_100] at hc1
      refine wk_b2 (tt_M_swaps (by assumption) (by omega) (by omega) (by omega) (by omega)) (fun r8 σ7 hr2 => ?_)
      have hσ7 : wJ _ σ7 := hr2
      refine wk_i (fun hc3 => ?_) (fun hc3 => ?_)
      · try simp only [wn_le, wn_lt, wn_eq, wn_0, wn_1, wn_m1, wn_9, wn_8, wn_4, wn_2, wn_100] at hc3
        refine wk_e (fun v10 ev10 => ?_)
        try (have hv10 : v10.toInt = x2.toInt + 1 := by rw [ev10]; exact wn_up (by omega) (by omega))
        exact ih _ _ _ (by assumption) (by omega) (by omega) (by omega) (by omega) (by omega) (by assumption)
      · try simp only [wn_le, wn_lt, wn_eq, wn_0, wn_1, wn_m1, wn_9, wn_8, wn_4, wn_2, wn_100] at hc3
        exact wk_s ((show wJ 0 _ from by assumption))
theorem tt_M_better_2   : ∀ (n : Nat) (x1 : Int32) (σ : wc_S), wJ 0 σ → 0 ≤ x1.toInt → x1.toInt ≤ 9 → 9 < x1.toInt + n → wk (wf_M_better_2  n x1 σ) (fun r => wJ 0 r.2) := by
  intro n
  induction n with
  | zero => intro x1 σ hσ c0 c1 c2; omega
  | succ n ih =>
    intro x1 σ hσ c0 c1 c2
    show wk (wf_M_better_2_b (wf_M_better_2  n) x1 σ) _
    unfold wf_M_better_2_b
    refine wk_rm (by assumption) (fun v1 hv1 => ?_)
    refine wk_i (fun hc1 => ?_) (fun hc1 => ?_)
    · try simp only [wn_le, wn_lt, wn_eq, wn_0, wn_1, wn_m1, wn_9, wn_8, wn_4, wn_2, wn_100] at hc1
      exact wk_s ((show wJ 0 _ from by assumption))
    · try simp only [wn_le, wn_lt, wn_eq, wn_0, wn_1, wn_m1, wn_9, wn_8, wn_4, wn_2, wn_100] at hc1
      refine wk_e (fun v3 ev3 => ?_)
      try (have hv3 : v3.toInt = x1.toInt + 1 := by rw [ev3]; exact wn_up (by omega) (by omega))
      exact tt_M_better_14  16 _ _ _ (by assumption) (by first | omega | decide) (by first | omega | decide) (by first | omega | decide) (by first | omega | decide) (by first | omega | decide) (fun v σ hσ e => ih _ _ hσ (by omega) (by omega) (by omega))
theorem tt_M_better  {σ : wc_S} (hσ : wJ 0 σ)  : wk (wf_M_better σ) (fun r => wJ 0 r.2) := by
  unfold wf_M_better
  exact tt_M_better_2  16 _ _ (by assumption) (by first | omega | decide) (by first | omega | decide) (by first | omega | decide) 
theorem tt_M_improve_23   : ∀ (n : Nat) (x1 : Int32) (x2 : Int32) (σ : wc_S), wJ 0 σ → x1.toInt ≤ 100 → 0 ≤ x2.toInt → x2.toInt ≤ 100 → 100 < x2.toInt + n → wk (wf_M_improve_23  n x1 x2 σ) (fun r => wJ 0 r.2) := by
  intro n
  induction n with
  | zero => intro x1 x2 σ hσ c0 c1 c2 c3; omega
  | succ n ih =>
    intro x1 x2 σ hσ c0 c1 c2 c3
    show wk (wf_M_improve_23_b (wf_M_improve_23  n) x1 x2 σ) _
    unfold wf_M_improve_23_b
    refine wk_i (fun hc1 => ?_) (fun hc1 => ?_)
    · try simp only [wn_le, wn_lt, wn_eq, wn_0, wn_1, wn_m1, wn_9, wn_8, wn_4, wn_2, wn_100] at hc1
      exact wk_s ((show wJ 0 _ from by assumption))
    · try simp only [wn_le, wn_lt, wn_eq, wn_0, wn_1, wn_m1, wn_9, wn_8, wn_4, wn_2, wn_100] at hc1
      refine wk_b2 (tt_M_better (by assumption) ) (fun r9 σ8 hr2 => ?_)
      have hσ8 : wJ _ σ8 := hr2
      refine wk_i (fun hc3 => ?_) (fun hc3 => ?_)
      · try simp only [wn_le, wn_lt, wn_eq, wn_0, wn_1, wn_m1, wn_9, wn_8, wn_4, wn_2, wn_100] at hc3
        exact wk_s ((show wJ 0 _ from by assumption))
      · try simp only [wn_le, wn_lt, wn_eq, wn_0, wn_1, wn_m1, wn_9, wn_8, wn_4, wn_2, wn_100] at hc3
        refine wk_e (fun v11 ev11 => ?_)
        try (have hv11 : v11.toInt = x2.toInt + 1 := by rw [ev11]; exact wn_up (by omega) (by omega))
        exact ih _ _ _ (by assumption) (by omega) (by omega) (by omega) (by omega)
theorem tt_M_improve {a1 : Int32} {σ : wc_S} (hσ : wJ 0 σ)  : wk (wf_M_improve a1 σ) (fun r => wJ 0 r.2) := by
  unfold wf_M_improve
  refine wk_v (fun v1 => ?_)
  refine wk_b2 (tt_M_in (by assumption) ) (fun r3 σ2 hr1 => ?_)
  obtain ⟨hσ2, hpσ2⟩ := hr1
  try simp only [wn_0, wn_1, wn_m1, wn_9, wn_8, wn_4, wn_2, wn_100] at hpσ2
  refine wk_b2 (tt_M_goes (by assumption)) (fun r5 σ4 hr2 => ?_)
  obtain ⟨hσ4, hpσ4⟩ := hr2
  try simp only [wn_0, wn_1, wn_m1, wn_9, wn_8, wn_4, wn_2, wn_100] at hpσ4
  refine wk_i (fun hc3 => ?_) (fun hc3 => ?_)
  · try simp only [wn_le, wn_lt, wn_eq, wn_0, wn_1, wn_m1, wn_9, wn_8, wn_4, wn_2, wn_100] at hc3
    exact wk_s ((show wJ 0 _ from by assumption))
  · try simp only [wn_le, wn_lt, wn_eq, wn_0, wn_1, wn_m1, wn_9, wn_8, wn_4, wn_2, wn_100] at hc3
    exact tt_M_improve_23 128 _ _ _ (by assumption) (by first | omega | decide) (by first | omega | decide) (by first | omega | decide) (by first | omega | decide)
