/-! class and model stay tied over every call -/
def wQ (σ : wc_S) : Prop := wJ 0 σ ∧ qT σ
theorem tI_K_run {a1 : Int32} {σ : wc_S} (hσ : wQ σ) : wk (wf_K_run a1 σ) (fun r => wQ r.2) := by
  obtain ⟨x, e, h⟩ := tt_K_run (a1 := a1) hσ.1
  have hw := wr_K_run a1 σ x e
  exact ⟨x, e, h, qT_keep (fun k i hd => hw k i (fun q => by unfold wS_K_run at q; unfold qD at hd; omega)) hσ.2⟩
theorem tI_M_run {a1 : Int32} {σ : wc_S} (hσ : wQ σ) : wk (wf_M_run a1 σ) (fun r => wQ r.2) := by
  obtain ⟨x, e, h⟩ := tt_M_run (a1 := a1) hσ.1
  have hw := wr_M_run a1 σ x e
  exact ⟨x, e, h, qT_keep (fun k i hd => hw k i (fun q => by unfold wS_M_run at q; unfold qD at hd; omega)) hσ.2⟩
theorem tI_K_proved {σ : wc_S} (hσ : wQ σ) : wk (wf_K_proved  σ) (fun r => wQ r.2) := by
  obtain ⟨x, e, h⟩ := tt_K_proved  hσ.1
  have hw := wr_K_proved  σ x e
  exact ⟨x, e, h, qT_keep (fun k i hd => hw k i (fun q => by unfold wS_K_proved at q; unfold qD at hd; omega)) hσ.2⟩
theorem tI_M_proved {σ : wc_S} (hσ : wQ σ) : wk (wf_M_proved  σ) (fun r => wQ r.2) := by
  obtain ⟨x, e, h⟩ := tt_M_proved  hσ.1
  have hw := wr_M_proved  σ x e
  exact ⟨x, e, h, qT_keep (fun k i hd => hw k i (fun q => by unfold wS_M_proved at q; unfold qD at hd; omega)) hσ.2⟩
theorem tI_K_order {a1 : Int32} {σ : wc_S} (hσ : wQ σ) : wk (wf_K_order a1 σ) (fun r => wQ r.2) := by
  obtain ⟨x, e, h⟩ := tt_K_order (a1 := a1) hσ.1
  have hw := wr_K_order a1 σ x e
  exact ⟨x, e, h, qT_keep (fun k i hd => hw k i (fun q => by unfold wS_K_order at q; unfold qD at hd; omega)) hσ.2⟩
theorem tI_M_order {a1 : Int32} {σ : wc_S} (hσ : wQ σ) : wk (wf_M_order a1 σ) (fun r => wQ r.2) := by
  obtain ⟨x, e, h⟩ := tt_M_order (a1 := a1) hσ.1
  have hw := wr_M_order a1 σ x e
  exact ⟨x, e, h, qT_keep (fun k i hd => hw k i (fun q => by unfold wS_M_order at q; unfold qD at hd; omega)) hσ.2⟩
theorem tI_K_told {a1 : Int32} {σ : wc_S} (hσ : wQ σ) : wk (wf_K_told a1 σ) (fun r => wQ r.2) := by
  obtain ⟨x, e, h⟩ := tt_K_told (a1 := a1) hσ.1
  have hw := wr_K_told a1 σ x e
  exact ⟨x, e, h, qT_keep (fun k i hd => hw k i (fun q => by unfold wS_K_told at q; unfold qD at hd; omega)) hσ.2⟩
theorem tI_M_told {a1 : Int32} {σ : wc_S} (hσ : wQ σ) : wk (wf_M_told a1 σ) (fun r => wQ r.2) := by
  obtain ⟨x, e, h⟩ := tt_M_told (a1 := a1) hσ.1
  have hw := wr_M_told a1 σ x e
  exact ⟨x, e, h, qT_keep (fun k i hd => hw k i (fun q => by unfold wS_M_told at q; unfold qD at hd; omega)) hσ.2⟩
theorem tI_K_change {a1 : Int32} {σ : wc_S} (hσ : wQ σ) : wk (wf_K_change a1 σ) (fun r => wQ r.2) := by
  obtain ⟨x, e, h⟩ := tt_K_change (a1 := a1) hσ.1
  have hw := wr_K_change a1 σ x e
  exact ⟨x, e, h, qT_keep (fun k i hd => hw k i (fun q => by unfold wS_K_change at q; unfold qD at hd; omega)) hσ.2⟩
theorem tI_M_change {a1 : Int32} {σ : wc_S} (hσ : wQ σ) : wk (wf_M_change a1 σ) (fun r => wQ r.2) := by
  obtain ⟨x, e, h⟩ := tt_M_change (a1 := a1) hσ.1
  have hw := wr_M_change a1 σ x e
  exact ⟨x, e, h, qT_keep (fun k i hd => hw k i (fun q => by unfold wS_M_change at q; unfold qD at hd; omega)) hσ.2⟩
theorem tI_K_jump {a1 a2 : Int32} {σ : wc_S} (hσ : wQ σ) : wk (wf_K_jump a1 a2 σ) (fun r => wQ r.2) := by
  obtain ⟨x, e, h⟩ := tt_K_jump (a1 := a1) (a2 := a2) hσ.1
  have hw := wr_K_jump a1 a2 σ x e
  exact ⟨x, e, h, qT_keep (fun k i hd => hw k i (fun q => by unfold wS_K_jump at q; unfold qD at hd; omega)) hσ.2⟩
theorem tI_M_jump {a1 a2 : Int32} {σ : wc_S} (hσ : wQ σ) : wk (wf_M_jump a1 a2 σ) (fun r => wQ r.2) := by
  obtain ⟨x, e, h⟩ := tt_M_jump (a1 := a1) (a2 := a2) hσ.1
  have hw := wr_M_jump a1 a2 σ x e
  exact ⟨x, e, h, qT_keep (fun k i hd => hw k i (fun q => by unfold wS_M_jump at q; unfold qD at hd; omega)) hσ.2⟩
theorem tI_K_tell {a1 : Int64} {σ : wc_S} (hσ : wQ σ) : wk (wf_K_tell a1 σ) (fun r => wQ r.2) := by
  obtain ⟨x, e, h⟩ := tt_K_tell (a1 := a1) hσ.1
  have hw := wr_K_tell a1 σ x e
  exact ⟨x, e, h, qT_keep (fun k i hd => hw k i (fun q => by unfold wS_K_tell at q; unfold qD at hd; omega)) hσ.2⟩
theorem tI_M_tell {a1 : Int64} {σ : wc_S} (hσ : wQ σ) : wk (wf_M_tell a1 σ) (wQ) := by
  obtain ⟨x, e, h⟩ := tt_M_tell (a1 := a1) hσ.1
  have hw := wr_M_tell a1 σ x e
  exact ⟨x, e, h, qT_keep (fun k i hd => hw k i (fun q => by unfold wS_M_tell at q; unfold qD at hd; omega)) hσ.2⟩
theorem tI_K_improve {a1 : Int32} {σ : wc_S} (hσ : wQ σ) : wk (wf_K_improve a1 σ) (fun r => wQ r.2) := by
  obtain ⟨x, e, h⟩ := tt_K_improve (a1 := a1) hσ.1
  have hw := wr_K_improve a1 σ x e
  exact ⟨x, e, h, qT_keep (fun k i hd => hw k i (fun q => by unfold wS_K_improve at q; unfold qD at hd; omega)) hσ.2⟩
theorem tI_M_improve {a1 : Int32} {σ : wc_S} (hσ : wQ σ) : wk (wf_M_improve a1 σ) (fun r => wQ r.2) := by
  obtain ⟨x, e, h⟩ := tt_M_improve (a1 := a1) hσ.1
  have hw := wr_M_improve a1 σ x e
  exact ⟨x, e, h, qT_keep (fun k i hd => hw k i (fun q => by unfold wS_M_improve at q; unfold qD at hd; omega)) hσ.2⟩
theorem tI_W_bound {σ : wc_S} (hσ : wQ σ) : wk (wf_W_bound σ) (fun r => wQ r.2) := by
  obtain ⟨x, e, h⟩ := tt_W_bound hσ.1
  have hw := wr_W_bound σ x e
  exact ⟨x, e, h, qT_keep (fun k i hd => hw k i (fun q => by unfold wS_W_bound at q; unfold qD at hd; omega)) hσ.2⟩
theorem tI_M_bound {σ : wc_S} (hσ : wQ σ) : wk (wf_M_bound σ) (fun r => wQ r.2) := by
  obtain ⟨x, e, h⟩ := tt_M_bound hσ.1
  have hw := wr_M_bound σ x e
  exact ⟨x, e, h, qT_keep (fun k i hd => hw k i (fun q => by unfold wS_M_bound at q; unfold qD at hd; omega)) hσ.2⟩
theorem qT_coil {σ y : wc_S} {a b c d : Int32} (hT : qT σ) (ha : ¬ a < 1 ∧ a ≤ 2000) (hK : ∀ k i, 0 < k → k < 9 ∨ 17 < k → k < 71 → y k i = uC a b c d (σ 1 10) σ k i) (hM : ∀ k i, (72 ≤ k ∧ k < 88) ∨ (k = 71 ∧ (i = 1 ∨ i = 12 ∨ i = 16)) → y k i = uMC a b c d (σ 71 1) σ k i) (hP : qP y) : qT y := by
  obtain ⟨⟨h1, h2, h3, h4, h5⟩, hc, hr, hb, -⟩ := hT
  refine ⟨⟨?_, ?_, ?_, ?_, ?_⟩, fun k i k2 k7 => ?_, fun k i k3 i8 => ?_, fun i => ?_, hP⟩
  · rw [hK 1 10 (by decide) (by decide) (by decide), hM 71 1 (by decide)]; simp [uC, uMC, wu_at, h1]
  · rw [hK 1 11 (by decide) (by decide) (by decide), hM 71 16 (by decide)]; simp [uC, uMC, wu_at, h2]
  · rw [hK 26 3 (by decide) (by decide) (by decide), hM 71 12 (by decide)]; simp [uC, uMC, wu_at, h3]
  · rw [hK 18 3 (by decide) (by decide) (by decide), hM 78 0 (by decide)]; simp [uC, uMC, wu_at, h4]
  · rw [hK 22 3 (by decide) (by decide) (by decide), hM 78 1 (by decide)]; simp [uC, uMC, wu_at, h5]
  · rw [hK k i (by omega) (by omega) (by omega), hM (k + 70) i (by omega)]
    have e := hc k i k2 k7
    have kk : k = 2 ∨ k = 3 ∨ k = 4 ∨ k = 5 ∨ k = 6 ∨ k = 7 := by omega
    rcases kk with rfl | rfl | rfl | rfl | rfl | rfl <;> (simp [uC, uMC, wu_at, h1] at e ⊢; try rw [e])
  · rw [hK (19 + k) i (by omega) (by omega) (by omega), hM (79 + k) i (by omega), hK (23 + k) i (by omega) (by omega) (by omega), hM (79 + k) (8 + i) (by omega)]
    have e := hr k i k3 i8
    have kk : k = 0 ∨ k = 1 ∨ k = 2 := by omega
    rcases kk with rfl | rfl | rfl <;> (simp [uC, uMC, wu_at] at e ⊢; exact e)
  · rw [hK 2 i (by omega) (by omega) (by omega), hK 21 i (by omega) (by omega) (by omega), hK 25 i (by omega) (by omega) (by omega)]
    have e := hb i
    have ha2 : 0 ≤ a.toInt ∧ a.toInt ≤ 2000 := by
      have q := ha
      rw [wn_lt, wn_le, wn_1, show (2000 : Int32).toInt = 2000 from rfl] at q; omega
    simp [uC, wu_at]
    refine ⟨?_, e.2⟩
    split
    · exact ha2
    · exact e.1
theorem qT_group {σ y : wc_S} {a b c : Int32} (hT : qT σ)  (hK : ∀ k i, 0 < k → k < 9 ∨ 17 < k → k < 71 → y k i = uG a b c (σ 26 3) σ k i) (hM : ∀ k i, (72 ≤ k ∧ k < 88) ∨ (k = 71 ∧ (i = 1 ∨ i = 12 ∨ i = 16)) → y k i = uMG a b c (σ 71 12) σ k i) (hP : qP y) : qT y := by
  obtain ⟨⟨h1, h2, h3, h4, h5⟩, hc, hr, hb, -⟩ := hT
  refine ⟨⟨?_, ?_, ?_, ?_, ?_⟩, fun k i k2 k7 => ?_, fun k i k3 i8 => ?_, fun i => ?_, hP⟩
  · rw [hK 1 10 (by decide) (by decide) (by decide), hM 71 1 (by decide)]; simp [uG, uMG, wu_at, h1]
  · rw [hK 1 11 (by decide) (by decide) (by decide), hM 71 16 (by decide)]; simp [uG, uMG, wu_at, h2]
  · rw [hK 26 3 (by decide) (by decide) (by decide), hM 71 12 (by decide)]; simp [uG, uMG, wu_at, h3]
  · rw [hK 18 3 (by decide) (by decide) (by decide), hM 78 0 (by decide)]; simp [uG, uMG, wu_at, h4]
  · rw [hK 22 3 (by decide) (by decide) (by decide), hM 78 1 (by decide)]; simp [uG, uMG, wu_at, h5]
  · rw [hK k i (by omega) (by omega) (by omega), hM (k + 70) i (by omega)]
    have e := hc k i k2 k7
    have kk : k = 2 ∨ k = 3 ∨ k = 4 ∨ k = 5 ∨ k = 6 ∨ k = 7 := by omega
    rcases kk with rfl | rfl | rfl | rfl | rfl | rfl <;> (simp [uG, uMG, wu_at] at e ⊢; exact e)
  · rw [hK (19 + k) i (by omega) (by omega) (by omega), hM (79 + k) i (by omega), hK (23 + k) i (by omega) (by omega) (by omega), hM (79 + k) (8 + i) (by omega)]
    have e := hr k i k3 i8
    have kk : k = 0 ∨ k = 1 ∨ k = 2 := by omega
    rcases kk with rfl | rfl | rfl <;> (simp [uG, uMG, wu_at] at e ⊢; exact e)
  · rw [hK 2 i (by omega) (by omega) (by omega), hK 21 i (by omega) (by omega) (by omega), hK 25 i (by omega) (by omega) (by omega)]
    have e := hb i
    simp [uG, wu_at]; exact e
theorem qT_urgent {σ y : wc_S} {a b : Int32} (hT : qT σ)  (hK : ∀ k i, 0 < k → k < 9 ∨ 17 < k → k < 71 → y k i = wc_u σ 6 a.toNatClampNeg b k i) (hM : ∀ k i, (72 ≤ k ∧ k < 88) ∨ (k = 71 ∧ (i = 1 ∨ i = 12 ∨ i = 16)) → y k i = wc_u σ 76 a.toNatClampNeg b k i) (hP : qP y) : qT y := by
  obtain ⟨⟨h1, h2, h3, h4, h5⟩, hc, hr, hb, -⟩ := hT
  refine ⟨⟨?_, ?_, ?_, ?_, ?_⟩, fun k i k2 k7 => ?_, fun k i k3 i8 => ?_, fun i => ?_, hP⟩
  · rw [hK 1 10 (by decide) (by decide) (by decide), hM 71 1 (by decide)]; simp [wu_at, h1]
  · rw [hK 1 11 (by decide) (by decide) (by decide), hM 71 16 (by decide)]; simp [wu_at, h2]
  · rw [hK 26 3 (by decide) (by decide) (by decide), hM 71 12 (by decide)]; simp [wu_at, h3]
  · rw [hK 18 3 (by decide) (by decide) (by decide), hM 78 0 (by decide)]; simp [wu_at, h4]
  · rw [hK 22 3 (by decide) (by decide) (by decide), hM 78 1 (by decide)]; simp [wu_at, h5]
  · rw [hK k i (by omega) (by omega) (by omega), hM (k + 70) i (by omega)]
    have e := hc k i k2 k7
    have kk : k = 2 ∨ k = 3 ∨ k = 4 ∨ k = 5 ∨ k = 6 ∨ k = 7 := by omega
    rcases kk with rfl | rfl | rfl | rfl | rfl | rfl <;> (simp [wu_at] at e ⊢; try rw [e])
  · rw [hK (19 + k) i (by omega) (by omega) (by omega), hM (79 + k) i (by omega), hK (23 + k) i (by omega) (by omega) (by omega), hM (79 + k) (8 + i) (by omega)]
    have e := hr k i k3 i8
    have kk : k = 0 ∨ k = 1 ∨ k = 2 := by omega
    rcases kk with rfl | rfl | rfl <;> (simp [wu_at] at e ⊢; exact e)
  · rw [hK 2 i (by omega) (by omega) (by omega), hK 21 i (by omega) (by omega) (by omega), hK 25 i (by omega) (by omega) (by omega)]
    have e := hb i
    simp [wu_at]; exact e
theorem qT_old {σ y : wc_S} {a b : Int32} (hT : qT σ)  (hK : ∀ k i, 0 < k → k < 9 ∨ 17 < k → k < 71 → y k i = wc_u σ 7 a.toNatClampNeg b k i) (hM : ∀ k i, (72 ≤ k ∧ k < 88) ∨ (k = 71 ∧ (i = 1 ∨ i = 12 ∨ i = 16)) → y k i = wc_u σ 77 a.toNatClampNeg b k i) (hP : qP y) : qT y := by
  obtain ⟨⟨h1, h2, h3, h4, h5⟩, hc, hr, hb, -⟩ := hT
  refine ⟨⟨?_, ?_, ?_, ?_, ?_⟩, fun k i k2 k7 => ?_, fun k i k3 i8 => ?_, fun i => ?_, hP⟩
  · rw [hK 1 10 (by decide) (by decide) (by decide), hM 71 1 (by decide)]; simp [wu_at, h1]
  · rw [hK 1 11 (by decide) (by decide) (by decide), hM 71 16 (by decide)]; simp [wu_at, h2]
  · rw [hK 26 3 (by decide) (by decide) (by decide), hM 71 12 (by decide)]; simp [wu_at, h3]
  · rw [hK 18 3 (by decide) (by decide) (by decide), hM 78 0 (by decide)]; simp [wu_at, h4]
  · rw [hK 22 3 (by decide) (by decide) (by decide), hM 78 1 (by decide)]; simp [wu_at, h5]
  · rw [hK k i (by omega) (by omega) (by omega), hM (k + 70) i (by omega)]
    have e := hc k i k2 k7
    have kk : k = 2 ∨ k = 3 ∨ k = 4 ∨ k = 5 ∨ k = 6 ∨ k = 7 := by omega
    rcases kk with rfl | rfl | rfl | rfl | rfl | rfl <;> (simp [wu_at] at e ⊢; try rw [e])
  · rw [hK (19 + k) i (by omega) (by omega) (by omega), hM (79 + k) i (by omega), hK (23 + k) i (by omega) (by omega) (by omega), hM (79 + k) (8 + i) (by omega)]
    have e := hr k i k3 i8
    have kk : k = 0 ∨ k = 1 ∨ k = 2 := by omega
    rcases kk with rfl | rfl | rfl <;> (simp [wu_at] at e ⊢; exact e)
  · rw [hK 2 i (by omega) (by omega) (by omega), hK 21 i (by omega) (by omega) (by omega), hK 25 i (by omega) (by omega) (by omega)]
    have e := hb i
    simp [wu_at]; exact e
theorem qT_rules {σ y : wc_S} {a b c d : Int32} (hT : qT σ)  (hK : ∀ k i, 0 < k → k < 9 ∨ 17 < k → k < 71 → y k i = wc_u (wc_u (wc_u (wc_u σ 1 11 a) 1 12 b) 1 13 c) 1 14 d k i) (hM : ∀ k i, (72 ≤ k ∧ k < 88) ∨ (k = 71 ∧ (i = 1 ∨ i = 12 ∨ i = 16)) → y k i = wc_u (wc_u (wc_u (wc_u σ 71 16 a) 71 17 b) 71 18 c) 71 19 d k i) (hP : qP y) : qT y := by
  obtain ⟨⟨h1, h2, h3, h4, h5⟩, hc, hr, hb, -⟩ := hT
  refine ⟨⟨?_, ?_, ?_, ?_, ?_⟩, fun k i k2 k7 => ?_, fun k i k3 i8 => ?_, fun i => ?_, hP⟩
  · rw [hK 1 10 (by decide) (by decide) (by decide), hM 71 1 (by decide)]; simp [wu_at, h1]
  · rw [hK 1 11 (by decide) (by decide) (by decide), hM 71 16 (by decide)]; simp [wu_at, h2]
  · rw [hK 26 3 (by decide) (by decide) (by decide), hM 71 12 (by decide)]; simp [wu_at, h3]
  · rw [hK 18 3 (by decide) (by decide) (by decide), hM 78 0 (by decide)]; simp [wu_at, h4]
  · rw [hK 22 3 (by decide) (by decide) (by decide), hM 78 1 (by decide)]; simp [wu_at, h5]
  · rw [hK k i (by omega) (by omega) (by omega), hM (k + 70) i (by omega)]
    have e := hc k i k2 k7
    have kk : k = 2 ∨ k = 3 ∨ k = 4 ∨ k = 5 ∨ k = 6 ∨ k = 7 := by omega
    rcases kk with rfl | rfl | rfl | rfl | rfl | rfl <;> (simp [wu_at] at e ⊢; exact e)
  · rw [hK (19 + k) i (by omega) (by omega) (by omega), hM (79 + k) i (by omega), hK (23 + k) i (by omega) (by omega) (by omega), hM (79 + k) (8 + i) (by omega)]
    have e := hr k i k3 i8
    have kk : k = 0 ∨ k = 1 ∨ k = 2 := by omega
    rcases kk with rfl | rfl | rfl <;> (simp [wu_at] at e ⊢; exact e)
  · rw [hK 2 i (by omega) (by omega) (by omega), hK 21 i (by omega) (by omega) (by omega), hK 25 i (by omega) (by omega) (by omega)]
    have e := hb i
    simp [wu_at]; exact e
theorem qT_table0 {σ y : wc_S} {a b c : Int32} (hT : qT σ) (hJ : wJ 0 σ) (hl : σ 18 3 < 8) (ha : ¬ c < 0 ∧ c ≤ 10000) (hK : ∀ k i, 0 < k → k < 9 ∨ 17 < k → k < 71 → y k i = uR 18 a b c (σ 18 3) σ k i) (hM : ∀ k i, (72 ≤ k ∧ k < 88) ∨ (k = 71 ∧ (i = 1 ∨ i = 12 ∨ i = 16)) → y k i = uMR 0 a b c (σ 78 0) σ k i) (hP : qP y) : qT y := by
  obtain ⟨⟨h1, h2, h3, h4, h5⟩, hc, hr, hb, -⟩ := hT
  have hn := i_8 hJ (k := 78) (i := 0) (by omega)
  have hl2 : (σ 78 0).toInt < 8 := by rw [← h4]; rw [wn_lt, wn_8] at hl; exact hl
  have en : (σ 78 0).toNatClampNeg < 8 := by rw [wn_tn]; omega
  have enk : (σ 18 3) = σ 78 0 := h4
  refine ⟨⟨?_, ?_, ?_, ?_, ?_⟩, fun k i k2 k7 => ?_, fun k i k3 i8 => ?_, fun i => ?_, hP⟩
  · rw [hK 1 10 (by decide) (by decide) (by decide), hM 71 1 (by decide)]; simp [uR, uMR, wu_at, h1]
  · rw [hK 1 11 (by decide) (by decide) (by decide), hM 71 16 (by decide)]; simp [uR, uMR, wu_at, h2]
  · rw [hK 26 3 (by decide) (by decide) (by decide), hM 71 12 (by decide)]; simp [uR, uMR, wu_at, h3]
  · rw [hK 18 3 (by decide) (by decide) (by decide), hM 78 0 (by decide)]; simp [uR, uMR, wu_at, h4]
  · rw [hK 22 3 (by decide) (by decide) (by decide), hM 78 1 (by decide)]; simp [uR, uMR, wu_at, h5]
  · rw [hK k i (by omega) (by omega) (by omega), hM (k + 70) i (by omega)]
    have e := hc k i k2 k7
    have kk : k = 2 ∨ k = 3 ∨ k = 4 ∨ k = 5 ∨ k = 6 ∨ k = 7 := by omega
    rcases kk with rfl | rfl | rfl | rfl | rfl | rfl <;> (simp [uR, uMR, wu_at] at e ⊢; exact e)
  · rw [hK (19 + k) i (by omega) (by omega) (by omega), hM (79 + k) i (by omega), hK (23 + k) i (by omega) (by omega) (by omega), hM (79 + k) (8 + i) (by omega)]
    have e := hr k i k3 i8
    have kk : k = 0 ∨ k = 1 ∨ k = 2 := by omega
    rcases kk with rfl | rfl | rfl <;> (simp only [uR, uMR, wu_at, h4]; simp; exact ⟨by split <;> first | rfl | (simp at e; exact e.1), by rw [if_neg (by omega)]; simp at e; exact e.2⟩)
  · rw [hK 2 i (by omega) (by omega) (by omega), hK 21 i (by omega) (by omega) (by omega), hK 25 i (by omega) (by omega) (by omega)]
    have e := hb i
    have ha2 : 0 ≤ c.toInt ∧ c.toInt ≤ 10000 := by
      have q := ha
      rw [wn_lt, wn_le, wn_0, show (10000 : Int32).toInt = 10000 from rfl] at q; omega
    simp [uR, wu_at]
    refine ⟨e.1, ?_, ?_⟩
    · split
      · exact ha2
      · exact e.2.1
    · exact e.2.2
theorem qT_table1 {σ y : wc_S} {a b c : Int32} (hT : qT σ) (hJ : wJ 0 σ) (hl : σ 22 3 < 8) (ha : ¬ c < 0 ∧ c ≤ 10000) (hK : ∀ k i, 0 < k → k < 9 ∨ 17 < k → k < 71 → y k i = uR 22 a b c (σ 22 3) σ k i) (hM : ∀ k i, (72 ≤ k ∧ k < 88) ∨ (k = 71 ∧ (i = 1 ∨ i = 12 ∨ i = 16)) → y k i = uMR 1 a b c (σ 78 1) σ k i) (hP : qP y) : qT y := by
  obtain ⟨⟨h1, h2, h3, h4, h5⟩, hc, hr, hb, -⟩ := hT
  have hn := i_8 hJ (k := 78) (i := 1) (by omega)
  have hl2 : (σ 78 1).toInt < 8 := by rw [← h5]; rw [wn_lt, wn_8] at hl; exact hl
  have en : (σ 78 1).toNatClampNeg < 8 := by rw [wn_tn]; omega
  have enk : (σ 22 3) = σ 78 1 := h5
  refine ⟨⟨?_, ?_, ?_, ?_, ?_⟩, fun k i k2 k7 => ?_, fun k i k3 i8 => ?_, fun i => ?_, hP⟩
  · rw [hK 1 10 (by decide) (by decide) (by decide), hM 71 1 (by decide)]; simp [uR, uMR, wu_at, h1]
  · rw [hK 1 11 (by decide) (by decide) (by decide), hM 71 16 (by decide)]; simp [uR, uMR, wu_at, h2]
  · rw [hK 26 3 (by decide) (by decide) (by decide), hM 71 12 (by decide)]; simp [uR, uMR, wu_at, h3]
  · rw [hK 18 3 (by decide) (by decide) (by decide), hM 78 0 (by decide)]; simp [uR, uMR, wu_at, h4]
  · rw [hK 22 3 (by decide) (by decide) (by decide), hM 78 1 (by decide)]; simp [uR, uMR, wu_at, h5]
  · rw [hK k i (by omega) (by omega) (by omega), hM (k + 70) i (by omega)]
    have e := hc k i k2 k7
    have kk : k = 2 ∨ k = 3 ∨ k = 4 ∨ k = 5 ∨ k = 6 ∨ k = 7 := by omega
    rcases kk with rfl | rfl | rfl | rfl | rfl | rfl <;> (simp [uR, uMR, wu_at] at e ⊢; exact e)
  · rw [hK (19 + k) i (by omega) (by omega) (by omega), hM (79 + k) i (by omega), hK (23 + k) i (by omega) (by omega) (by omega), hM (79 + k) (8 + i) (by omega)]
    have e := hr k i k3 i8
    have kk : k = 0 ∨ k = 1 ∨ k = 2 := by omega
    rcases kk with rfl | rfl | rfl <;> (simp only [uR, uMR, wu_at, h5]; simp; exact ⟨by rw [if_neg (by omega)]; simp at e; exact e.1, by split <;> first | rfl | (simp at e; exact e.2)⟩)
  · rw [hK 2 i (by omega) (by omega) (by omega), hK 21 i (by omega) (by omega) (by omega), hK 25 i (by omega) (by omega) (by omega)]
    have e := hb i
    have ha2 : 0 ≤ c.toInt ∧ c.toInt ≤ 10000 := by
      have q := ha
      rw [wn_lt, wn_le, wn_0, show (10000 : Int32).toInt = 10000 from rfl] at q; omega
    simp [uR, wu_at]
    refine ⟨e.1, ?_, ?_⟩
    · exact e.2.1
    · split
      · exact ha2
      · exact e.2.2
