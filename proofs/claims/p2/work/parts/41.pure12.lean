theorem tt_M_run_291  {σ : wc_S} (hσ : wJ 0 σ)  : wk (wf_M_run_291 σ) (fun r => wJ 0 r.2) := by
  unfold wf_M_run_291
  refine wk_v (fun v14 => ?_)
  refine wk_i (fun hc1 => ?_) (fun hc1 => ?_)
  · try simp only [wn_le, wn_lt, wn_eq, wn_0, wn_1, wn_m1, wn_9, wn_8, wn_4, wn_2, wn_100] at hc1
    exact wk_s ((show wJ 0 _ from by assumption))
  · try simp only [wn_le, wn_lt, wn_eq, wn_0, wn_1, wn_m1, wn_9, wn_8, wn_4, wn_2, wn_100] at hc1
    refine wk_rm (by assumption) (fun v16 hv16 => ?_)
    exact wk_s ((show wJ 0 _ from by assumption))
theorem tC_M_reckon {m : Int} {a2 : Int32} {σ : wc_S} (hσ : wB 86 m σ) (q1 : a2.toInt ≤ 9) (q2 : a2.toInt ≤ m) : wk (wf_M_reckon 86 a2 σ) (fun τ => wJ 0 τ ∧ (∀ i, τ 86 i = σ 86 i) ∧ τ 71 1 = σ 71 1) := by
  obtain ⟨x, h1, h2⟩ := tt_M_reckon hσ (Or.inr rfl) q1 q2
  have hw := wr_M_reckon 86 a2 σ x h1
  exact ⟨x, h1, h2.1, fun i => hw 86 i (fun q => by unfold wS_M_reckon at q; omega), hw 71 1 (fun q => by unfold wS_M_reckon at q; omega)⟩
theorem t_run61 {c : Int} (hc : 1 ≤ c ∧ c ≤ 9) : ∀ (n x : Nat) (x2 x3 x4 : Int32) (σ : wc_S), wJ 0 σ → (σ 71 1).toInt = c → x4.toInt = x → (x : Int) < c → (∀ i : Nat, i < x → 0 ≤ (σ 86 i).toInt ∧ (σ 86 i).toInt < c) → 0 ≤ (σ 86 x).toInt → (σ 86 x).toInt ≤ c → 11 ^ 9 ≤ wN σ (x + 1) + n → wk (wf_M_run_61 n x2 x3 x4 σ) (fun r => wJ 0 r.2) := by
  intro n
  induction n with
  | zero =>
    intro x x2 x3 x4 σ hσ hcnt hx4 hxc hpre hd0 hd1 hN
    have h := wN_lt (σ := σ) (x := x + 1) (by omega) (fun i hi => by
      unfold wD
      by_cases e : i = x
      · rw [e]; omega
      · have := hpre i (by omega); omega)
    omega
  | succ n ih =>
    intro x x2 x3 x4 σ hσ hcnt hx4 hxc hpre hd0 hd1 hN
    have ex : x4.toNatClampNeg = x := by rw [wn_tn]; omega
    have inc : ∀ (y2 y3 : Int32) (τ : wc_S), wJ 0 τ → (∀ i, τ 86 i = σ 86 i) → τ 71 1 = σ 71 1 → (σ 86 x).toInt < c → ∀ v : Int32, v = τ 86 x4.toNatClampNeg + 1 → wk (wf_M_run_61 n y2 y3 x4 (wc_u τ 86 x4.toNatClampNeg v)) (fun r => wJ 0 r.2) := by
      intro y2 y3 τ hτ h86 h71 hlt v ev
      rw [ex] at ev ⊢
      have hv : v.toInt = (σ 86 x).toInt + 1 := by rw [ev, h86]; exact wn_up (by omega) (by omega)
      have d1 : wD (wc_u τ 86 x v) x = wD σ x + 1 := by unfold wD; rw [wu_same, hv]; omega
      have d2 : ∀ i, i < x → wD (wc_u τ 86 x v) i = wD σ i := fun i hi => by unfold wD; rw [wu_other (Or.inr (by omega)), h86]
      have hN2 := wN_inc (σ := σ) (τ := wc_u τ 86 x v) (x := x) (by omega) d2 d1
      refine ih x y2 y3 x4 _ (u_o hτ (by decide)) ?_ hx4 hxc ?_ ?_ ?_ (by omega)
      · rw [wu_other (Or.inl (by decide)), h71]; exact hcnt
      · intro i hi; rw [wu_other (Or.inr (by omega)), h86]; exact hpre i hi
      · rw [wu_same, hv]; omega
      · rw [wu_same, hv]; omega
    have deep : ∀ (y2 y3 : Int32) (τ : wc_S), wJ 0 τ → (∀ i, τ 86 i = σ 86 i) → τ 71 1 = σ 71 1 → (σ 86 x).toInt < c → (x : Int) + 1 < c → ∀ v : Int32, v.toInt = x + 1 → wk (wf_M_run_61 n y2 y3 v (wc_u τ 86 v.toNatClampNeg 0)) (fun r => wJ 0 r.2) := by
      intro y2 y3 τ hτ h86 h71 hlt hx1 v hv
      have ev : v.toNatClampNeg = x + 1 := by rw [wn_tn]; omega
      rw [ev]
      have d2 : ∀ i, i < x + 1 → wD (wc_u τ 86 (x + 1) 0) i = wD σ i := fun i hi => by unfold wD; rw [wu_other (Or.inr (by omega)), h86]
      have hN2 : wN σ (x + 1) + 1 ≤ wN (wc_u τ 86 (x + 1) 0) (x + 1 + 1) := wN_deep (σ := σ) (τ := wc_u τ 86 (x + 1) 0) (x := x) (by omega) d2
      refine ih (x + 1) y2 y3 v _ (u_o hτ (by decide)) ?_ (by omega) (by omega) ?_ ?_ ?_ (by omega)
      · rw [wu_other (Or.inl (by decide)), h71]; exact hcnt
      · intro i hi; rw [wu_other (Or.inr (by omega)), h86]
        by_cases e : i = x
        · rw [e]; omega
        · exact hpre i (by omega)
      · rw [wu_same, wn_0]; omega
      · rw [wu_same, wn_0]; omega
    have cp : ∀ (n' : Nat) (y2 y3 x5 : Int32) (τ : wc_S), wJ 0 τ → (∀ i, τ 86 i = σ 86 i) → τ 71 1 = σ 71 1 → (σ 86 x).toInt < c → (x : Int) + 1 = c → 0 ≤ x5.toInt → x5.toInt ≤ 9 → 9 < x5.toInt + n' → wk (wf_M_run_234 (wf_M_run_61 n) n' y2 y3 x4 x5 τ) (fun r => wJ 0 r.2) := by
      intro n'
      induction n' with
      | zero => intro y2 y3 x5 τ hτ h86 h71 hlt hx1 c0 c1 c2; omega
      | succ n' ih2 =>
        intro y2 y3 x5 τ hτ h86 h71 hlt hx1 c0 c1 c2
        show wk (wf_M_run_234_b (wf_M_run_61 n) (wf_M_run_234 (wf_M_run_61 n) n') y2 y3 x4 x5 τ) _
        unfold wf_M_run_234_b
        refine wk_rm hτ (fun v57 hv57 => ?_)
        rw [h71, hcnt] at hv57
        refine wk_i (fun hc1 => ?_) (fun hc1 => ?_)
        · refine wk_g (wn_in (by omega) (by omega)) ?_
          refine wk_e (fun v60 e60 => ?_)
          refine wk_e (fun v61 e61 => ?_)
          refine wk_g (wn_in (by omega) (by omega)) ?_
          refine wk_e (fun σ63 e63 => ?_)
          rw [e63]
          exact inc y2 y3 τ hτ h86 h71 hlt v61 (by rw [e61, e60])
        · simp only [wn_le] at hc1
          refine wk_g (wn_in (by omega) (by omega)) ?_
          have hb : 0 ≤ (τ 86 x5.toNatClampNeg).toInt ∧ (τ 86 x5.toNatClampNeg).toInt ≤ 8 := by
            rw [h86, wn_tn]
            by_cases e : x5.toInt.toNat = x
            · rw [e]; omega
            · have := hpre x5.toInt.toNat (by omega); omega
          refine wk_r (fun v => 0 ≤ v.toInt ∧ v.toInt ≤ 8) hb (fun v65 hv65 => ?_)
          refine wk_g (wn_in (by omega) (by omega)) ?_
          refine wk_e (fun σ67 e67 => ?_)
          refine wk_e (fun v68 e68 => ?_)
          have h68 : v68.toInt = x5.toInt + 1 := by rw [e68]; exact wn_up (by omega) (by omega)
          refine ih2 y2 y3 v68 σ67 ?_ ?_ ?_ hlt hx1 (by omega) (by omega) (by omega)
          · rw [e67]; exact u_8 hτ (by omega) hv65
          · intro i; rw [e67, wu_other (Or.inl (by decide))]; exact h86 i
          · rw [e67, wu_other (Or.inl (by decide))]; exact h71
    have pop : (σ 86 x).toInt = c → wk (wf_M_run_89 (wf_M_run_61 n) x2 x3 x4 σ) (fun r => wJ 0 r.2) := by
      intro hfull
      unfold wf_M_run_89
      refine wk_e (fun v19 e19 => ?_)
      have h19 : v19.toInt = x4.toInt - 1 := by
        rw [e19, wn_add (by rw [wn_m1]; omega) (by rw [wn_m1]; omega), wn_m1]; omega
      refine wk_i (fun hneg => ?_) (fun hneg => ?_)
      · simp only [wn_lt, wn_0] at hneg
        have x0 : x = 0 := by omega
        subst x0
        have hN1 : wN σ (0 + 1) = (0 * 11 + (wD σ 0 + 1)) * 11 ^ 8 := rfl
        have hD : wD σ 0 ≤ 9 := by unfold wD; omega
        have hn : ∃ k, n = k + 1 := ⟨n - 1, by omega⟩
        obtain ⟨k, rfl⟩ := hn
        show wk (wf_M_run_61_b (wf_M_run_61 k) x2 x3 v19 σ) _
        unfold wf_M_run_61_b
        refine wk_i (fun _ => tt_M_run_291 hσ) (fun hq => ?_)
        simp only [wn_lt, wn_0] at hq
        omega
      · simp only [wn_lt, wn_0] at hneg
        have hy : ∃ y, x = y + 1 := ⟨x - 1, by omega⟩
        obtain ⟨y, rfl⟩ := hy
        have ey : v19.toNatClampNeg = y := by rw [wn_tn]; omega
        refine wk_g (wn_in (by omega) (by omega)) ?_
        refine wk_e (fun v22 e22 => ?_)
        refine wk_e (fun v23 e23 => ?_)
        refine wk_g (wn_in (by omega) (by omega)) ?_
        refine wk_e (fun σ25 e25 => ?_)
        rw [ey] at e22 e25
        have hy2 := hpre y (by omega)
        have h23 : v23.toInt = (σ 86 y).toInt + 1 := by rw [e23, e22]; exact wn_up (by omega) (by omega)
        have d1 : wD σ25 y = wD σ y + 1 := by unfold wD; rw [e25, wu_same, h23]; omega
        have d2 : ∀ i, i < y → wD σ25 i = wD σ i := fun i hi => by unfold wD; rw [e25, wu_other (Or.inr (by omega))]
        have hN2 : wN σ (y + 1 + 1) + 1 ≤ wN σ25 (y + 1) := wN_pop (σ := σ) (τ := σ25) (x := y) (by omega) d2 d1 (by unfold wD; omega)
        refine ih y x2 x3 v19 σ25 ?_ ?_ (by omega) (by omega) ?_ ?_ ?_ (by omega)
        · rw [e25]; exact u_o hσ (by decide)
        · rw [e25, wu_other (Or.inl (by decide))]; exact hcnt
        · intro i hi; rw [e25, wu_other (Or.inr (by omega))]; exact hpre i (by omega)
        · rw [e25, wu_same, h23]; omega
        · rw [e25, wu_same, h23]; omega
    show wk (wf_M_run_61_b (wf_M_run_61 n) x2 x3 x4 σ) _
    unfold wf_M_run_61_b
    refine wk_i (fun _ => tt_M_run_291 hσ) (fun _ => ?_)
    refine wk_rm hσ (fun v17 hv17 => ?_)
    refine wk_i (fun h17 => ?_) (fun h17 => ?_)
    · have := wn_eq.1 h17; omega
    refine wk_g (wn_in (by omega) (by omega)) ?_
    refine wk_e (fun v27 e27 => ?_)
    refine wk_rm hσ (fun v28 hv28 => ?_)
    refine wk_i (fun h27 => ?_) (fun h27 => ?_)
    · refine pop ?_
      have := wn_eq.1 h27
      rw [e27, ex] at this
      omega
    have hlt : (σ 86 x).toInt < c := by
      have h : ¬ v27.toInt = v28.toInt := fun h => h27 (wn_eq.2 h)
      rw [e27, ex] at h
      omega
    have hB : wB 86 (x + 1) σ := ⟨hσ, fun i hi => by
      by_cases e : i = x
      · rw [e]; omega
      · have := hpre i (by omega); omega⟩
    have i140 : wk (wf_M_run_140 (wf_M_run_61 n) x2 x3 x4 σ) (fun r => wJ 0 r.2) := by
      unfold wf_M_run_140
      refine wk_g (wn_in (by omega) (by omega)) ?_
      refine wk_e (fun v60 e60 => ?_)
      refine wk_e (fun v61 e61 => ?_)
      refine wk_g (wn_in (by omega) (by omega)) ?_
      refine wk_e (fun σ63 e63 => ?_)
      rw [e63]
      exact inc x2 x3 σ hσ (fun _ => rfl) rfl hlt v61 (by rw [e61, e60])
    refine wk_g (wn_in (by omega) (by omega)) ?_
    refine wk_v (fun v31 => ?_)
    refine wk_b2 (tB_M_stands (by omega)) (fun r33 u hu => ?_)
    have hu : u = σ := hu
    rw [hu]
    refine wk_i (fun _ => ?_) (fun _ => i140)
    refine wk_b2 (tB_M_mayBe hB (Or.inr rfl) (by omega) (by omega) (by omega)) (fun r41 u2 hu2 => ?_)
    have hu2 : u2 = σ := hu2
    rw [hu2]
    refine wk_i (fun _ => i140) (fun _ => ?_)
    refine wk_i (fun _ => ?_) (fun _ => ?_)
    · refine wk_w (u_71 hσ (by decide) (by decide)) (fun σ76 h76 => ?_)
      exact tt_M_run_291 h76
    refine wk_v (fun v44 => ?_)
    refine wk_e (fun v45 e45 => ?_)
    have h45 : v45.toInt = x4.toInt + 1 := by rw [e45]; exact wn_up (by omega) (by omega)
    refine wk_b1 (tC_M_reckon hB (by omega) (by omega)) (fun σ46 h46 => ?_)
    obtain ⟨h46, k86, k71⟩ := h46
    have i210 : wk (wf_M_run_210 (wf_M_run_61 n) x2 v44 x4 σ46) (fun r => wJ 0 r.2) := by
      unfold wf_M_run_210
      refine wk_rm h46 (fun v49 hv49 => ?_)
      rw [k71, hcnt] at hv49
      refine wk_e (fun v50 e50 => ?_)
      have h50 : v50.toInt = v49.toInt - 1 := by rw [e50]; exact wn_dn (by omega) (by omega)
      refine wk_i (fun hl => ?_) (fun hl => ?_)
      · have hl := wn_eq.1 hl
        refine wk_e (fun σ55 e55 => ?_)
        refine wk_v (fun v56 => ?_)
        refine cp 16 v56 v44 0 σ55 ?_ ?_ ?_ hlt (by omega) (by decide) (by decide) (by decide)
        · rw [e55]; exact u_71 h46 (by decide) (by decide)
        · intro i; rw [e55, wu_other (Or.inl (by decide))]; exact k86 i
        · rw [e55, wu_other (Or.inr (by decide))]; exact k71
      · have hl : ¬ x4.toInt = v50.toInt := fun h => hl (wn_eq.2 h)
        refine wk_e (fun v52 e52 => ?_)
        have h52 : v52.toInt = x4.toInt + 1 := by rw [e52]; exact wn_up (by omega) (by omega)
        refine wk_g (wn_in (by omega) (by omega)) ?_
        refine wk_e (fun σ54 e54 => ?_)
        rw [e54]
        exact deep x2 v44 σ46 h46 k86 k71 hlt (by omega) v52 (by omega)
    refine wk_v (fun v47 => ?_)
    refine wk_i (fun _ => i210) (fun _ => ?_)
    refine wk_v (fun v69 => ?_)
    refine wk_i (fun _ => i210) (fun _ => ?_)
    refine wk_g (wn_in (by omega) (by omega)) ?_
    refine wk_e (fun v60 e60 => ?_)
    refine wk_e (fun v61 e61 => ?_)
    refine wk_g (wn_in (by omega) (by omega)) ?_
    refine wk_e (fun σ63 e63 => ?_)
    rw [e63]
    exact inc x2 v44 σ46 h46 k86 k71 hlt v61 (by rw [e61, e60])
theorem tt_M_run {a1 : Int32} {σ : wc_S} (hσ : wJ 0 σ) : wk (wf_M_run a1 σ) (fun r => wJ 0 r.2) := by
  unfold wf_M_run
  refine wk_b2 (tt_M_in hσ) (fun r2 σ1 h1 => ?_)
  refine wk_b2 (tt_M_goes h1.1) (fun r4 σ3 h3 => ?_)
  refine wk_i (fun _ => wk_s h3.1) (fun _ => ?_)
  refine wk_w (u_71 h3.1 (by decide) (by decide)) (fun σ6 h6 => ?_)
  refine wk_w (u_71 h6 (by decide) (by decide)) (fun σ7 h7 => ?_)
  refine wk_w (u_71 h7 (by decide) (by decide)) (fun σ8 h8 => ?_)
  refine wk_g rfl ?_
  refine wk_e (fun σ10 e10 => ?_)
  have h10 : wJ 0 σ10 := by rw [e10]; exact u_o h8 (by decide)
  refine wk_rm h10 (fun v11 hv11 => ?_)
  refine wk_i (fun _ => ?_) (fun hne => ?_)
  · exact wk_w (u_71 h10 (by decide) (by decide)) (fun σ77 h77 => wk_s h77)
  · have hne : ¬ v11.toInt = 0 := fun h => hne (wn_eq.2 h)
    have d0 : (σ10 86 0).toInt = 0 := by rw [e10, show ((0 : Int32).toNatClampNeg) = 0 from rfl, wu_same]; rfl
    exact t_run61 (c := v11.toInt) (by omega) wc_big 0 0 a1 0 σ10 h10 (by omega) rfl (by omega) (fun i hi => by omega) (by omega) (by omega) (by
      have : (11 : Nat) ^ 9 ≤ wc_big := by decide
      omega)
