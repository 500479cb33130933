theorem tt_M_table_71 {x1 x2 x3 x4 s1 s2 s3 : Int32} {σ : wc_S} (hσ : wJ 0 σ) (h : s1.toInt ≠ 0 → s2.toInt ≠ 0 → s3.toInt ≠ 0 → (0 ≤ x1.toInt ∧ x1.toInt ≤ 1) ∧ (σ 78 x1.toNatClampNeg).toInt ≤ 7) : wk (wf_M_table_71 x1 x2 x3 x4 s1 s2 s3 σ) (fun r => wJ 0 r.2) := by
  unfold wf_M_table_71
  refine wk_b2 (tB_M_goes (wB_85 (m := 0) hσ) (Or.inl rfl)) (fun r σ7 hu => ?_)
  obtain ⟨⟨hu1, hu2⟩, hp⟩ := hu
  have h7 : wJ 0 σ7 := hu1.1
  refine wk_i (fun _ => wk_s h7) (fun hc => ?_)
  have hq := hp (fun e => hc (wn_eq.2 e))
  obtain ⟨hx, hr⟩ := h hq.1 hq.2.1 hq.2.2
  refine wk_e (fun v10 e10 => ?_)
  have h10 : v10.toInt = 8 * x1.toInt := by rw [e10]; exact wn_m8 hx.1 hx.2
  refine wk_g (wn_in (by omega) (by omega)) ?_
  refine wk_e (fun v12 e12 => ?_)
  have h12 : 0 ≤ v12.toInt ∧ v12.toInt ≤ 7 := by
    rw [e12]
    refine ⟨(i_8 h7 (by omega)).1, ?_⟩
    rw [show σ7 78 x1.toNatClampNeg = σ 78 x1.toNatClampNeg from hu2 78 _ (Or.inl (by decide))]
    exact hr
  refine wk_e (fun v13 e13 => ?_)
  have h13 : v13.toInt = v10.toInt + v12.toInt := by rw [e13]; exact wn_add (by omega) (by omega)
  refine wk_g (wn_in (by omega) (by omega)) ?_
  refine wk_e (fun σ15 e15 => ?_)
  have h15 : wJ 0 σ15 := by rw [e15]; exact u_o h7 (by decide)
  have k15 : σ15 78 x1.toNatClampNeg = v12 := by rw [e15, wu_other (Or.inl (by decide)), e12]
  refine wk_g (wn_in (by omega) (by omega)) ?_
  refine wk_e (fun σ17 e17 => ?_)
  have h17 : wJ 0 σ17 := by rw [e17]; exact u_o h15 (by decide)
  have k17 : σ17 78 x1.toNatClampNeg = v12 := by rw [e17, wu_other (Or.inl (by decide)), k15]
  refine wk_g (wn_in (by omega) (by omega)) ?_
  refine wk_e (fun σ19 e19 => ?_)
  have h19 : wJ 0 σ19 := by rw [e19]; exact u_o h17 (by decide)
  have k19 : σ19 78 x1.toNatClampNeg = v12 := by rw [e19, wu_other (Or.inl (by decide)), k17]
  refine wk_g (wn_in (by omega) (by omega)) ?_
  refine wk_e (fun v21 e21 => ?_)
  have h21 : v21 = v12 := by rw [e21, k19]
  refine wk_e (fun v22 e22 => ?_)
  have h22 : v22.toInt = v12.toInt + 1 := by rw [e22, h21]; exact wn_up (by omega) (by omega)
  refine wk_g (wn_in (by omega) (by omega)) ?_
  refine wk_w (u_8 h19 (by omega) (by omega)) (fun σ24 h24 => ?_)
  refine wk_b1 (tt_M_gone h24) (fun σ25 h25 => ?_)
  refine wk_g (wn_in (by omega) (by omega)) ?_
  refine wk_v (fun v27 => ?_)
  exact wk_s h25
theorem tt_M_table_50 {x1 x2 x3 x4 x5 s1 s2 : Int32} {σ : wc_S} (hσ : wJ 0 σ) (h5 : x5.toInt ≠ 0 → 0 ≤ x1.toInt ∧ x1.toInt ≤ 1) : wk (wf_M_table_50 x1 x2 x3 x4 x5 s1 s2 σ) (fun r => wJ 0 r.2) := by
  unfold wf_M_table_50
  refine wk_i (fun _ => ?_) (fun hc => ?_)
  · unfold wf_M_table_70
    exact tt_M_table_71 hσ (fun _ _ h => absurd wn_0 h)
  · have hx := h5 (fun e => hc (wn_eq.2 e))
    refine wk_g (wn_in (by omega) (by omega)) ?_
    refine wk_e (fun v29 e29 => ?_)
    refine wk_i (fun _ => ?_) (fun hc2 => ?_)
    · unfold wf_M_table_70
      exact tt_M_table_71 hσ (fun _ _ h => absurd wn_0 h)
    · simp only [wn_le, wn_8, e29] at hc2
      exact tt_M_table_71 hσ (fun _ _ _ => ⟨hx, by omega⟩)
theorem tt_M_table {a1 : Int32} {a2 : Int32} {a3 : Int32} {a4 : Int32} {σ : wc_S} (hσ : wJ 0 σ)  : wk (wf_M_table a1 a2 a3 a4 σ) (fun r => wJ 0 r.2) := by
  unfold wf_M_table
  refine wk_b2 (tt_M_in (by assumption) ) (fun r2 σ1 hr1 => ?_)
  obtain ⟨hσ1, hpσ1⟩ := hr1
  try simp only [wn_0, wn_1, wn_m1, wn_9, wn_8, wn_4, wn_2, wn_100] at hpσ1
  refine wk_b2 (tt_M_in (by assumption) ) (fun r4 σ3 hr2 => ?_)
  obtain ⟨hσ3, hpσ3⟩ := hr2
  try simp only [wn_0, wn_1, wn_m1, wn_9, wn_8, wn_4, wn_2, wn_100] at hpσ3
  refine wk_i (fun hc3 => ?_) (fun hc3 => ?_)
  · try simp only [wn_le, wn_lt, wn_eq, wn_0, wn_1, wn_m1, wn_9, wn_8, wn_4, wn_2, wn_100] at hc3
    unfold wf_M_table_49
    exact tt_M_table_50 (by assumption) (fun h5 => by omega)
  · try simp only [wn_le, wn_lt, wn_eq, wn_0, wn_1, wn_m1, wn_9, wn_8, wn_4, wn_2, wn_100] at hc3
    refine wk_b2 (tt_M_in (by assumption) ) (fun r32 σ31 hr4 => ?_)
    obtain ⟨hσ31, hpσ31⟩ := hr4
    try simp only [wn_0, wn_1, wn_m1, wn_9, wn_8, wn_4, wn_2, wn_100] at hpσ31
    refine wk_i (fun hc5 => ?_) (fun hc5 => ?_)
    · try simp only [wn_le, wn_lt, wn_eq, wn_0, wn_1, wn_m1, wn_9, wn_8, wn_4, wn_2, wn_100] at hc5
      unfold wf_M_table_49
      exact tt_M_table_50 (by assumption) (fun h5 => by omega)
    · try simp only [wn_le, wn_lt, wn_eq, wn_0, wn_1, wn_m1, wn_9, wn_8, wn_4, wn_2, wn_100] at hc5
      refine wk_b2 (tt_M_in (by assumption) ) (fun r35 σ34 hr6 => ?_)
      obtain ⟨hσ34, hpσ34⟩ := hr6
      try simp only [wn_0, wn_1, wn_m1, wn_9, wn_8, wn_4, wn_2, wn_100] at hpσ34
      refine wk_i (fun hc7 => ?_) (fun hc7 => ?_)
      · try simp only [wn_le, wn_lt, wn_eq, wn_0, wn_1, wn_m1, wn_9, wn_8, wn_4, wn_2, wn_100] at hc7
        unfold wf_M_table_49
        exact tt_M_table_50 (by assumption) (fun h5 => by omega)
      · try simp only [wn_le, wn_lt, wn_eq, wn_0, wn_1, wn_m1, wn_9, wn_8, wn_4, wn_2, wn_100] at hc7
        exact tt_M_table_50 (by assumption) (fun h5 => by omega)
/-! the model's search comes to an end: its row of tried coils counts upwards, as digits do -/
def wW (f : Nat → Nat) (x : Nat) : Nat := match x with
  | 0 => 0
  | x + 1 => wW f x * 11 + (f x + 1)
theorem wW_cong {f g : Nat → Nat} : ∀ (x : Nat), (∀ i, i < x → f i = g i) → wW f x = wW g x := by
  intro x
  induction x with
  | zero => intro _; rfl
  | succ x ih =>
    intro h
    show wW f x * 11 + (f x + 1) = wW g x * 11 + (g x + 1)
    rw [ih (fun i hi => h i (by omega)), h x (by omega)]
theorem wW_le {f : Nat → Nat} : ∀ (x : Nat), (∀ i, i < x → f i ≤ 9) → wW f x + 1 ≤ 11 ^ x := by
  intro x
  induction x with
  | zero => intro _; exact Nat.le_refl _
  | succ x ih =>
    intro h
    have h1 := ih (fun i hi => h i (by omega))
    have h2 := h x (by omega)
    show wW f x * 11 + (f x + 1) + 1 ≤ 11 ^ x * 11
    omega
def wD (σ : wc_S) (i : Nat) : Nat := (σ 86 i).toInt.toNat
/-- how far the row of tried coils has come, x of them set -/
def wN (σ : wc_S) (x : Nat) : Nat := wW (wD σ) x * 11 ^ (9 - x)
theorem wN_lt {σ : wc_S} {x : Nat} (hx : x ≤ 9) (h : ∀ i, i < x → wD σ i ≤ 9) : wN σ x < 11 ^ 9 := by
  have h1 := wW_le x h
  have h2 : (wW (wD σ) x + 1) * 11 ^ (9 - x) ≤ 11 ^ x * 11 ^ (9 - x) := Nat.mul_le_mul_right _ h1
  have h3 : 11 ^ x * 11 ^ (9 - x) = 11 ^ 9 := by rw [← Nat.pow_add]; congr 1; omega
  have h4 : 0 < 11 ^ (9 - x) := Nat.pow_pos (by decide)
  rw [h3, Nat.add_mul, Nat.one_mul] at h2
  unfold wN
  omega
/-- one more at the last place -/
theorem wN_inc {σ τ : wc_S} {x : Nat} (hx : x < 9) (h : ∀ i, i < x → wD τ i = wD σ i) (h1 : wD τ x = wD σ x + 1) : wN σ (x + 1) + 1 ≤ wN τ (x + 1) := by
  unfold wN
  show (wW (wD σ) x * 11 + (wD σ x + 1)) * 11 ^ (9 - (x + 1)) + 1 ≤ (wW (wD τ) x * 11 + (wD τ x + 1)) * 11 ^ (9 - (x + 1))
  rw [wW_cong x h, h1]
  have h4 : 0 < 11 ^ (9 - (x + 1)) := Nat.pow_pos (by decide)
  have : (wW (wD σ) x * 11 + (wD σ x + 1 + 1)) * 11 ^ (9 - (x + 1)) = (wW (wD σ) x * 11 + (wD σ x + 1)) * 11 ^ (9 - (x + 1)) + 11 ^ (9 - (x + 1)) := by
    rw [show wW (wD σ) x * 11 + (wD σ x + 1 + 1) = (wW (wD σ) x * 11 + (wD σ x + 1)) + 1 from rfl, Nat.add_mul, Nat.one_mul]
  rw [this]
  omega
/-- one place deeper -/
theorem wN_deep {σ τ : wc_S} {x : Nat} (hx : x + 1 < 9) (h : ∀ i, i < x + 1 → wD τ i = wD σ i) : wN σ (x + 1) + 1 ≤ wN τ (x + 2) := by
  unfold wN
  show wW (wD σ) (x + 1) * 11 ^ (9 - (x + 1)) + 1 ≤ (wW (wD τ) (x + 1) * 11 + (wD τ (x + 1) + 1)) * 11 ^ (9 - (x + 2))
  rw [wW_cong (x + 1) h]
  have e : 11 ^ (9 - (x + 1)) = 11 * 11 ^ (9 - (x + 2)) := by rw [← Nat.pow_succ']; congr 1; omega
  have h4 : 0 < 11 ^ (9 - (x + 2)) := Nat.pow_pos (by decide)
  rw [e, Nat.add_mul, ← Nat.mul_assoc]
  have : 11 ^ (9 - (x + 2)) ≤ (wD τ (x + 1) + 1) * 11 ^ (9 - (x + 2)) := Nat.le_mul_of_pos_left _ (by omega)
  omega
/-- one place back, and one more there -/
theorem wN_pop {σ τ : wc_S} {x : Nat} (hx : x + 1 < 9) (h : ∀ i, i < x → wD τ i = wD σ i) (h1 : wD τ x = wD σ x + 1) (h9 : wD σ (x + 1) ≤ 9) : wN σ (x + 2) + 1 ≤ wN τ (x + 1) := by
  unfold wN
  show ((wW (wD σ) x * 11 + (wD σ x + 1)) * 11 + (wD σ (x + 1) + 1)) * 11 ^ (9 - (x + 2)) + 1 ≤ (wW (wD τ) x * 11 + (wD τ x + 1)) * 11 ^ (9 - (x + 1))
  rw [wW_cong x h, h1]
  have e : 11 ^ (9 - (x + 1)) = 11 * 11 ^ (9 - (x + 2)) := by rw [← Nat.pow_succ']; congr 1; omega
  have h4 : 0 < 11 ^ (9 - (x + 2)) := Nat.pow_pos (by decide)
  rw [e, ← Nat.mul_assoc]
  have : ((wW (wD σ) x * 11 + (wD σ x + 1)) * 11 + (wD σ (x + 1) + 1)) + 1 ≤ (wW (wD σ) x * 11 + (wD σ x + 1 + 1)) * 11 := by omega
  have h5 := Nat.mul_le_mul_right (11 ^ (9 - (x + 2))) this
  rw [Nat.add_mul, Nat.one_mul] at h5
  omega
