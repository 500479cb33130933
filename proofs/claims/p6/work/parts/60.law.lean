theorem wn_p2 {x : Int32} (h1 : 0 ≤ x.toInt) (h2 : x.toInt < 1000000) : (x + 2).toInt = x.toInt + 2 := by
  have e : (2 : Int32).toInt = 2 := rfl
  rw [wn_add (by rw [e]; omega) (by rw [e]; omega), e]
theorem wn_p3 {x : Int32} (h1 : 0 ≤ x.toInt) (h2 : x.toInt < 1000000) : (x + 3).toInt = x.toInt + 3 := by
  have e : (3 : Int32).toInt = 3 := rfl
  rw [wn_add (by rw [e]; omega) (by rw [e]; omega), e]
theorem wn_p4 {x : Int32} (h1 : 0 ≤ x.toInt) (h2 : x.toInt < 1000000) : (x + 4).toInt = x.toInt + 4 := by
  have e : (4 : Int32).toInt = 4 := rfl
  rw [wn_add (by rw [e]; omega) (by rw [e]; omega), e]
theorem wn_p5 {x : Int32} (h1 : 0 ≤ x.toInt) (h2 : x.toInt < 1000000) : (x + 5).toInt = x.toInt + 5 := by
  have e : (5 : Int32).toInt = 5 := rfl
  rw [wn_add (by rw [e]; omega) (by rw [e]; omega), e]
theorem wn_s5 {x : Int32} (h1 : 0 ≤ x.toInt) (h2 : x.toInt < 1000000) : (x - 5).toInt = x.toInt - 5 := by
  have e : (5 : Int32).toInt = 5 := rfl
  rw [wn_sub (by rw [e]; omega) (by rw [e]; omega), e]
theorem wn_of {L : Nat} (h : L ≤ 2560) : (Int32.ofNat L).toInt = L := by
  rw [Int32.toInt_ofNat']
  show (L : Int).bmod 4294967296 = L
  exact Int.bmod_eq_of_le (by omega) (by omega)
theorem lp_112 {L : Nat} {xs : Nat → Int32} {k : Nat → Int32 → wc_S → Option (Int32 × wc_S)} {t : Nat} {x4 : Int32} {σ : wc_S} (hσ : wQ σ) (hi1 : wc_in (x4 + 1) L = true) (hi2 : wc_in (x4 + 2) L = true) (hi3 : wc_in (x4 + 3) L = true) (hi4 : wc_in (x4 + 4) L = true) (hk : ∀ τ, wQ τ → wk (wf_law_704 L xs k t x4 τ) (fun r => r.1 = 1)) : wk (wf_law_112 L xs k t x4 σ) (fun r => r.1 = 1) := by
  unfold wf_law_112
  try simp only [wk_st, wk_gd, hi1, hi2, hi3, hi4, true_and]
  refine wk_b2 (tQ_coil hσ) (fun r u hu => ?_)
  try simp only [wk_st, wk_gd, hi1, hi2, hi3, hi4, true_and]
  exact wk_b2 hu.2 (fun v u2 hu2 => hk u2 hu2.1)
theorem lp_176 {L : Nat} {xs : Nat → Int32} {k : Nat → Int32 → wc_S → Option (Int32 × wc_S)} {t : Nat} {x4 : Int32} {σ : wc_S} (hσ : wQ σ) (hi1 : wc_in (x4 + 1) L = true) (hi2 : wc_in (x4 + 2) L = true) (hi3 : wc_in (x4 + 3) L = true) (hi4 : wc_in (x4 + 4) L = true) (hk : ∀ τ, wQ τ → wk (wf_law_704 L xs k t x4 τ) (fun r => r.1 = 1)) : wk (wf_law_176 L xs k t x4 σ) (fun r => r.1 = 1) := by
  unfold wf_law_176
  try simp only [wk_st, wk_gd, hi1, hi2, hi3, hi4, true_and]
  refine wk_b2 (tQ_table hσ) (fun r u hu => ?_)
  try simp only [wk_st, wk_gd, hi1, hi2, hi3, hi4, true_and]
  exact wk_b2 hu.2 (fun v u2 hu2 => hk u2 hu2.1)
theorem lp_240 {L : Nat} {xs : Nat → Int32} {k : Nat → Int32 → wc_S → Option (Int32 × wc_S)} {t : Nat} {x4 : Int32} {σ : wc_S} (hσ : wQ σ) (hi1 : wc_in (x4 + 1) L = true) (hi2 : wc_in (x4 + 2) L = true) (hi3 : wc_in (x4 + 3) L = true) (hi4 : wc_in (x4 + 4) L = true) (hk : ∀ τ, wQ τ → wk (wf_law_704 L xs k t x4 τ) (fun r => r.1 = 1)) : wk (wf_law_240 L xs k t x4 σ) (fun r => r.1 = 1) := by
  unfold wf_law_240
  try simp only [wk_st, wk_gd, hi1, hi2, hi3, hi4, true_and]
  refine wk_b2 (tQ_group hσ) (fun r u hu => ?_)
  try simp only [wk_st, wk_gd, hi1, hi2, hi3, hi4, true_and]
  exact wk_b2 hu.2 (fun v u2 hu2 => hk u2 hu2.1)
theorem lp_292 {L : Nat} {xs : Nat → Int32} {k : Nat → Int32 → wc_S → Option (Int32 × wc_S)} {t : Nat} {x4 : Int32} {σ : wc_S} (hσ : wQ σ) (hi1 : wc_in (x4 + 1) L = true) (hi2 : wc_in (x4 + 2) L = true) (hi3 : wc_in (x4 + 3) L = true) (hi4 : wc_in (x4 + 4) L = true) (hk : ∀ τ, wQ τ → wk (wf_law_704 L xs k t x4 τ) (fun r => r.1 = 1)) : wk (wf_law_292 L xs k t x4 σ) (fun r => r.1 = 1) := by
  unfold wf_law_292
  try simp only [wk_st, wk_gd, hi1, hi2, hi3, hi4, true_and]
  refine wk_b2 (tQ_urgent hσ) (fun r u hu => ?_)
  try simp only [wk_st, wk_gd, hi1, hi2, hi3, hi4, true_and]
  exact wk_b1 hu.2 (fun u2 hu2 => hk u2 hu2.1)
theorem lp_329 {L : Nat} {xs : Nat → Int32} {k : Nat → Int32 → wc_S → Option (Int32 × wc_S)} {t : Nat} {x4 : Int32} {σ : wc_S} (hσ : wQ σ) (hi1 : wc_in (x4 + 1) L = true) (hi2 : wc_in (x4 + 2) L = true) (hi3 : wc_in (x4 + 3) L = true) (hi4 : wc_in (x4 + 4) L = true) (hk : ∀ τ, wQ τ → wk (wf_law_704 L xs k t x4 τ) (fun r => r.1 = 1)) : wk (wf_law_329 L xs k t x4 σ) (fun r => r.1 = 1) := by
  unfold wf_law_329
  try simp only [wk_st, wk_gd, hi1, hi2, hi3, hi4, true_and]
  refine wk_b2 (tQ_old hσ) (fun r u hu => ?_)
  try simp only [wk_st, wk_gd, hi1, hi2, hi3, hi4, true_and]
  refine wk_b1 hu.2 (fun u2 hu2 => ?_)
  refine wk_b2 (Q := fun r3 => r3.1 = u2 71 0 ∧ r3.2 = u2) ⟨_, rfl, rfl, rfl⟩ (fun r3 u3 hu3 => ?_)
  obtain ⟨h31, h32⟩ := hu3
  have h32 : u3 = u2 := h32
  have h31 : r3 = u2 71 0 := h31
  rw [h32]
  exact wk_i (fun _ => hk u2 hu2.1) (fun hne => absurd (h31.trans hu2.2) hne)
theorem lp_377 {L : Nat} {xs : Nat → Int32} {k : Nat → Int32 → wc_S → Option (Int32 × wc_S)} {t : Nat} {x4 : Int32} {σ : wc_S} (hσ : wQ σ) (hi1 : wc_in (x4 + 1) L = true) (hi2 : wc_in (x4 + 2) L = true) (hi3 : wc_in (x4 + 3) L = true) (hi4 : wc_in (x4 + 4) L = true) (hk : ∀ τ, wQ τ → wk (wf_law_704 L xs k t x4 τ) (fun r => r.1 = 1)) : wk (wf_law_377 L xs k t x4 σ) (fun r => r.1 = 1) := by
  unfold wf_law_377
  try simp only [wk_st, wk_gd, hi1, hi2, hi3, hi4, true_and]
  refine wk_b2 (tQ_rules hσ) (fun r u hu => ?_)
  try simp only [wk_st, wk_gd, hi1, hi2, hi3, hi4, true_and]
  exact wk_b1 hu.2 (fun u2 hu2 => hk u2 hu2.1)
theorem lp_438 {L : Nat} {xs : Nat → Int32} {k : Nat → Int32 → wc_S → Option (Int32 × wc_S)} {t : Nat} {x4 : Int32} {σ : wc_S} (hσ : wQ σ) (hi1 : wc_in (x4 + 1) L = true) (hi2 : wc_in (x4 + 2) L = true) (hi3 : wc_in (x4 + 3) L = true) (hi4 : wc_in (x4 + 4) L = true) (hk : ∀ τ, wQ τ → wk (wf_law_704 L xs k t x4 τ) (fun r => r.1 = 1)) : wk (wf_law_438 L xs k t x4 σ) (fun r => r.1 = 1) := by
  unfold wf_law_438
  try simp only [wk_st, wk_gd, hi1, hi2, hi3, hi4, true_and]
  refine wk_b2 (tI_K_run hσ) (fun r u hu => ?_)
  have hu : wQ u := hu
  try simp only [wk_st, wk_gd, hi1, hi2, hi3, hi4, true_and]
  refine wk_b2 (tI_M_run hu) (fun r2 u2 hu2 => ?_)
  exact hk u2 hu2
theorem lp_466 {L : Nat} {xs : Nat → Int32} {k : Nat → Int32 → wc_S → Option (Int32 × wc_S)} {t : Nat} {x4 : Int32} {σ : wc_S} (hσ : wQ σ) (hi1 : wc_in (x4 + 1) L = true) (hi2 : wc_in (x4 + 2) L = true) (hi3 : wc_in (x4 + 3) L = true) (hi4 : wc_in (x4 + 4) L = true) (hk : ∀ τ, wQ τ → wk (wf_law_704 L xs k t x4 τ) (fun r => r.1 = 1)) : wk (wf_law_466 L xs k t x4 σ) (fun r => r.1 = 1) := by
  unfold wf_law_466
  try simp only [wk_st, wk_gd, hi1, hi2, hi3, hi4, true_and]
  refine wk_b2 (tI_K_proved hσ) (fun r u hu => ?_)
  have hu : wQ u := hu
  try simp only [wk_st, wk_gd, hi1, hi2, hi3, hi4, true_and]
  refine wk_b2 (tI_M_proved hu) (fun r2 u2 hu2 => ?_)
  exact hk u2 hu2
theorem lp_482 {L : Nat} {xs : Nat → Int32} {k : Nat → Int32 → wc_S → Option (Int32 × wc_S)} {t : Nat} {x4 : Int32} {σ : wc_S} (hσ : wQ σ) (hi1 : wc_in (x4 + 1) L = true) (hi2 : wc_in (x4 + 2) L = true) (hi3 : wc_in (x4 + 3) L = true) (hi4 : wc_in (x4 + 4) L = true) (hk : ∀ τ, wQ τ → wk (wf_law_704 L xs k t x4 τ) (fun r => r.1 = 1)) : wk (wf_law_482 L xs k t x4 σ) (fun r => r.1 = 1) := by
  unfold wf_law_482
  try simp only [wk_st, wk_gd, hi1, hi2, hi3, hi4, true_and]
  refine wk_b2 (tI_K_order hσ) (fun r u hu => ?_)
  have hu : wQ u := hu
  try simp only [wk_st, wk_gd, hi1, hi2, hi3, hi4, true_and]
  refine wk_b2 (tI_M_order hu) (fun r2 u2 hu2 => ?_)
  exact hk u2 hu2
theorem lp_510 {L : Nat} {xs : Nat → Int32} {k : Nat → Int32 → wc_S → Option (Int32 × wc_S)} {t : Nat} {x4 : Int32} {σ : wc_S} (hσ : wQ σ) (hi1 : wc_in (x4 + 1) L = true) (hi2 : wc_in (x4 + 2) L = true) (hi3 : wc_in (x4 + 3) L = true) (hi4 : wc_in (x4 + 4) L = true) (hk : ∀ τ, wQ τ → wk (wf_law_704 L xs k t x4 τ) (fun r => r.1 = 1)) : wk (wf_law_510 L xs k t x4 σ) (fun r => r.1 = 1) := by
  unfold wf_law_510
  try simp only [wk_st, wk_gd, hi1, hi2, hi3, hi4, true_and]
  refine wk_b2 (tI_K_told hσ) (fun r u hu => ?_)
  have hu : wQ u := hu
  try simp only [wk_st, wk_gd, hi1, hi2, hi3, hi4, true_and]
  refine wk_b2 (tI_M_told hu) (fun r2 u2 hu2 => ?_)
  exact hk u2 hu2
theorem lp_538 {L : Nat} {xs : Nat → Int32} {k : Nat → Int32 → wc_S → Option (Int32 × wc_S)} {t : Nat} {x4 : Int32} {σ : wc_S} (hσ : wQ σ) (hi1 : wc_in (x4 + 1) L = true) (hi2 : wc_in (x4 + 2) L = true) (hi3 : wc_in (x4 + 3) L = true) (hi4 : wc_in (x4 + 4) L = true) (hk : ∀ τ, wQ τ → wk (wf_law_704 L xs k t x4 τ) (fun r => r.1 = 1)) : wk (wf_law_538 L xs k t x4 σ) (fun r => r.1 = 1) := by
  unfold wf_law_538
  try simp only [wk_st, wk_gd, hi1, hi2, hi3, hi4, true_and]
  refine wk_b2 (tI_K_change hσ) (fun r u hu => ?_)
  have hu : wQ u := hu
  try simp only [wk_st, wk_gd, hi1, hi2, hi3, hi4, true_and]
  refine wk_b2 (tI_M_change hu) (fun r2 u2 hu2 => ?_)
  exact hk u2 hu2
theorem lp_566 {L : Nat} {xs : Nat → Int32} {k : Nat → Int32 → wc_S → Option (Int32 × wc_S)} {t : Nat} {x4 : Int32} {σ : wc_S} (hσ : wQ σ) (hi1 : wc_in (x4 + 1) L = true) (hi2 : wc_in (x4 + 2) L = true) (hi3 : wc_in (x4 + 3) L = true) (hi4 : wc_in (x4 + 4) L = true) (hk : ∀ τ, wQ τ → wk (wf_law_704 L xs k t x4 τ) (fun r => r.1 = 1)) : wk (wf_law_566 L xs k t x4 σ) (fun r => r.1 = 1) := by
  unfold wf_law_566
  try simp only [wk_st, wk_gd, hi1, hi2, hi3, hi4, true_and]
  refine wk_b2 (tI_K_jump hσ) (fun r u hu => ?_)
  have hu : wQ u := hu
  try simp only [wk_st, wk_gd, hi1, hi2, hi3, hi4, true_and]
  refine wk_b2 (tI_M_jump hu) (fun r2 u2 hu2 => ?_)
  exact hk u2 hu2
theorem lp_606 {L : Nat} {xs : Nat → Int32} {k : Nat → Int32 → wc_S → Option (Int32 × wc_S)} {t : Nat} {x4 : Int32} {σ : wc_S} (hσ : wQ σ) (hi1 : wc_in (x4 + 1) L = true) (hi2 : wc_in (x4 + 2) L = true) (hi3 : wc_in (x4 + 3) L = true) (hi4 : wc_in (x4 + 4) L = true) (hk : ∀ τ, wQ τ → wk (wf_law_704 L xs k t x4 τ) (fun r => r.1 = 1)) : wk (wf_law_606 L xs k t x4 σ) (fun r => r.1 = 1) := by
  unfold wf_law_606
  try simp only [wk_st, wk_gd, hi1, hi2, hi3, hi4, true_and]
  refine wk_b2 (tI_W_bound hσ) (fun r u hu => ?_)
  have hu : wQ u := hu
  try simp only [wk_st, wk_gd, hi1, hi2, hi3, hi4, true_and]
  refine wk_b2 (tI_M_bound hu) (fun r2 u2 hu2 => ?_)
  exact hk u2 hu2
theorem lp_619 {L : Nat} {xs : Nat → Int32} {k : Nat → Int32 → wc_S → Option (Int32 × wc_S)} {t : Nat} {x4 : Int32} {σ : wc_S} (hσ : wQ σ) (hi1 : wc_in (x4 + 1) L = true) (hi2 : wc_in (x4 + 2) L = true) (hi3 : wc_in (x4 + 3) L = true) (hi4 : wc_in (x4 + 4) L = true) (hk : ∀ τ, wQ τ → wk (wf_law_704 L xs k t x4 τ) (fun r => r.1 = 1)) : wk (wf_law_619 L xs k t x4 σ) (fun r => r.1 = 1) := by
  unfold wf_law_619
  try simp only [wk_st, wk_gd, hi1, hi2, hi3, hi4, true_and]
  refine wk_b2 (tI_K_tell hσ) (fun r u hu => ?_)
  have hu : wQ u := hu
  try simp only [wk_st, wk_gd, hi1, hi2, hi3, hi4, true_and]
  refine wk_b1 (tI_M_tell hu) (fun u2 hu2 => ?_)
  exact hk u2 hu2
theorem lp_676 {L : Nat} {xs : Nat → Int32} {k : Nat → Int32 → wc_S → Option (Int32 × wc_S)} {t : Nat} {x4 : Int32} {σ : wc_S} (hσ : wQ σ) (hi1 : wc_in (x4 + 1) L = true) (hi2 : wc_in (x4 + 2) L = true) (hi3 : wc_in (x4 + 3) L = true) (hi4 : wc_in (x4 + 4) L = true) (hk : ∀ τ, wQ τ → wk (wf_law_704 L xs k t x4 τ) (fun r => r.1 = 1)) : wk (wf_law_676 L xs k t x4 σ) (fun r => r.1 = 1) := by
  unfold wf_law_676
  try simp only [wk_st, wk_gd, hi1, hi2, hi3, hi4, true_and]
  refine wk_b2 (tI_K_improve hσ) (fun r u hu => ?_)
  have hu : wQ u := hu
  try simp only [wk_st, wk_gd, hi1, hi2, hi3, hi4, true_and]
  refine wk_b2 (tI_M_improve hu) (fun r2 u2 hu2 => ?_)
  exact hk u2 hu2
theorem law_goes {L : Nat} (hL : L ≤ 2560) {xs : Nat → Int32} : ∀ (n t : Nat) (x4 : Int32) (σ : wc_S), wQ σ → x4.toInt = 5 * t → 5 * t ≤ L + 4 → 600 ≤ t + n → wk (wf_law_23 L xs n t x4 σ) (fun r => r.1 = 1) := by
  intro n
  induction n with
  | zero => intro t x4 σ hσ h4 h5 h6; omega
  | succ n ih =>
    intro t x4 σ hσ h4 h5 h6
    show wk (wf_law_23_b L xs (wf_law_23 L xs n) t x4 σ) _
    unfold wf_law_23_b
    refine wk_g (decide_eq_true (by omega)) ?_
    refine wk_e (fun v1 e1 => ?_)
    have h1 : v1.toInt = L := by rw [e1]; exact wn_of hL
    refine wk_e (fun v2 e2 => ?_)
    have h2 : v2.toInt = v1.toInt - 5 := by rw [e2]; exact wn_s5 (by omega) (by omega)
    refine wk_i (fun _ => wk_s rfl) (fun hc => ?_)
    simp only [wn_lt] at hc
    have a1 : (x4 + 1).toInt = x4.toInt + 1 := wn_up (by omega) (by omega)
    have a2 : (x4 + 2).toInt = x4.toInt + 2 := wn_p2 (by omega) (by omega)
    have a3 : (x4 + 3).toInt = x4.toInt + 3 := wn_p3 (by omega) (by omega)
    have a4 : (x4 + 4).toInt = x4.toInt + 4 := wn_p4 (by omega) (by omega)
    have a5 : (x4 + 5).toInt = x4.toInt + 5 := wn_p5 (by omega) (by omega)
    have hi1 : wc_in (x4 + 1) L = true := wn_in (by omega) (by omega)
    have hi2 : wc_in (x4 + 2) L = true := wn_in (by omega) (by omega)
    have hi3 : wc_in (x4 + 3) L = true := wn_in (by omega) (by omega)
    have hi4 : wc_in (x4 + 4) L = true := wn_in (by omega) (by omega)
    have hk : ∀ τ, wQ τ → wk (wf_law_704 L xs (wf_law_23 L xs n) t x4 τ) (fun r => r.1 = 1) := fun τ hτ => ih (t + 1) (x4 + 5) τ hτ (by omega) (by omega) (by omega)
    refine wk_g (wn_in (by omega) (by omega)) ?_
    refine wk_v (fun v5 => ?_)
    refine wk_v (fun v6 => ?_)
    exact wk_i (fun _ => lp_112 hσ hi1 hi2 hi3 hi4 hk) (fun _ => (wk_i (fun _ => lp_176 hσ hi1 hi2 hi3 hi4 hk) (fun _ => (wk_i (fun _ => lp_240 hσ hi1 hi2 hi3 hi4 hk) (fun _ => (wk_i (fun _ => lp_292 hσ hi1 hi2 hi3 hi4 hk) (fun _ => (wk_i (fun _ => lp_329 hσ hi1 hi2 hi3 hi4 hk) (fun _ => (wk_i (fun _ => lp_377 hσ hi1 hi2 hi3 hi4 hk) (fun _ => (wk_i (fun _ => lp_438 hσ hi1 hi2 hi3 hi4 hk) (fun _ => (wk_i (fun _ => lp_466 hσ hi1 hi2 hi3 hi4 hk) (fun _ => (wk_i (fun _ => lp_482 hσ hi1 hi2 hi3 hi4 hk) (fun _ => (wk_i (fun _ => lp_510 hσ hi1 hi2 hi3 hi4 hk) (fun _ => (wk_i (fun _ => lp_538 hσ hi1 hi2 hi3 hi4 hk) (fun _ => (wk_i (fun _ => lp_566 hσ hi1 hi2 hi3 hi4 hk) (fun _ => (wk_i (fun _ => lp_606 hσ hi1 hi2 hi3 hi4 hk) (fun _ => (wk_i (fun _ => lp_619 hσ hi1 hi2 hi3 hi4 hk) (fun _ => (wk_i (fun _ => lp_676 hσ hi1 hi2 hi3 hi4 hk) (fun _ => (hk σ hσ))))))))))))))))))))))))))))))
theorem wJ_start : wJ 0 wc_0 := by
  intro k i
  unfold wI wc_0
  refine ⟨?_, ?_, ?_, ?_, ?_, ?_, ?_, ?_, ?_⟩
  · rintro ⟨rfl, rfl⟩; decide
  · rintro ⟨h | h, rfl⟩ <;> subst h <;> exact ⟨by decide, by decide, fun _ => by decide⟩
  · rintro ⟨rfl, rfl⟩; exact ⟨by decide, by decide, fun _ => by decide⟩
  · rintro ⟨h | h, rfl⟩ <;> subst h <;> exact ⟨by decide, by decide, fun _ => by decide⟩
  · intro h
    have e1 : k ≠ 1 := by omega
    have e2 : k ≠ 71 := by omega
    rw [if_neg e1, if_neg e2]; decide
  · intro h
    have e1 : k ≠ 1 := by omega
    have e2 : k ≠ 71 := by omega
    rw [if_neg e1, if_neg e2]; decide
  · rintro ⟨rfl, rfl⟩; decide
  · rintro ⟨rfl, rfl⟩; exact ⟨by decide, by decide, fun _ => by decide⟩
  · rintro ⟨rfl, rfl⟩; exact ⟨by decide, by decide, fun _ => by decide⟩
theorem wp_main (L : Nat) (hL : L ≤ 2560) (xs : Nat → Int32) : ∃ res : Int32 × wc_S, wf_law_23 L xs 600 0 0 wc_0 = some res ∧ res.1 = 1 := law_goes hL 600 0 0 wc_0 ⟨wJ_start, wQ_start⟩ rfl (by omega) (by omega)
