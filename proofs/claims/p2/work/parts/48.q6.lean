theorem tQ_coil {a b c d : Int32} {σ : wc_S} (hσ : wQ σ) : wk (wf_K_coil a b c d σ) (fun r => wJ 0 r.2 ∧ wk (wf_M_coil a b c d r.2) (fun s => wQ s.2 ∧ s.2 71 0 = r.1 ∧ (r.1 = 0 → s.2 88 0 = s.1))) := by
  obtain ⟨hJ, hT⟩ := hσ
  obtain ⟨x, e, h, hx⟩ := wk_pk (tt_K_coil (a1 := a) (a2 := b) (a3 := c) (a4 := d) hJ) (pq_Kcoil a b c d σ hJ)
  have hw := wr_K_coil a b c d σ x e
  have mm : ∀ k i, 71 ≤ k → k < 88 → x.2 k i = σ k i := fun k i h1 h2 => hw k i (fun q => by unfold wS_K_coil at q; omega)
  refine ⟨x, e, h, ?_⟩
  obtain ⟨y, e2, h2, hy⟩ := wk_pk (tt_M_coil (a1 := a) (a2 := b) (a3 := c) (a4 := d) h) (pq_Mcoil a b c d x.2)
  have hw2 := wr_M_coil a b c d x.2 y e2
  have cl : ∀ k i, k < 71 ∨ k = 88 → y.2 k i = x.2 k i := fun k i h1 => hw2 k i (fun q => by unfold wS_M_coil at q; omega)
  have T := hT
  obtain ⟨⟨h1, h2', h3, h4, h5⟩, -, -, -, hP⟩ := hT
  have hr : y.2 71 0 = x.1 := by rw [hy.1, hx.1, mm 71 1 (by decide) (by decide), h1]
  by_cases h0 : x.1 = 0
  · obtain ⟨hK, hKP, hK8⟩ := hx.2.1 h0
    obtain ⟨hM, hMr⟩ := hy.2.1 (hr.trans h0)
    have ha : ¬ a < 1 ∧ a ≤ 2000 := by
      have q := hx.1.symm.trans h0
      unfold wR_coil at q
      by_cases hh : ¬ a < 1 ∧ a ≤ 2000
      · exact hh
      · rw [if_neg (fun z => hh z.1)] at q; exact absurd q (by decide)
    have T2 : qT y.2 := by
      refine qT_coil (a := a) (b := b) (c := c) (d := d) T ha (fun k i g0 g1 g2 => ?_) (fun k i g => ?_) (qP_keep (fun k i g => cl k i (by omega)) (hKP hP))
      · rw [cl k i (by omega)]; exact hK k i g0 g1 (by omega)
      · rw [hM k i (by omega), mm 71 1 (by decide) (by decide)]; exact uMC_cong (mm k i (by omega) (by omega))
    refine ⟨y, e2, ⟨h2, T2⟩, hr, fun _ => ?_⟩
    rw [cl 88 0 (by decide), hK8, hMr, mm 71 1 (by decide) (by decide), h1]
    exact (Int32.add_sub_cancel _ _).symm
  · have ex : x.2 = σ := hx.2.2 h0
    have ky := hy.2.2 (by rw [hr]; exact h0)
    have T2 : qT y.2 := qT_keep (fun k i hd => by rw [ky k i (by unfold qD at hd; omega), ex]) T
    exact ⟨y, e2, ⟨h2, T2⟩, hr, fun q => absurd q h0⟩
theorem tQ_group {a b c : Int32} {σ : wc_S} (hσ : wQ σ) : wk (wf_K_group a b c σ) (fun r => wJ 0 r.2 ∧ wk (wf_M_group a b c r.2) (fun s => wQ s.2 ∧ s.2 71 0 = r.1 ∧ (r.1 = 0 → s.2 88 0 = s.1))) := by
  obtain ⟨hJ, hT⟩ := hσ
  obtain ⟨x, e, h, hx⟩ := wk_pk (tt_K_group (a1 := a) (a2 := b) (a3 := c) hJ) (pq_Kgroup a b c σ hJ)
  have hw := wr_K_group a b c σ x e
  have mm : ∀ k i, 71 ≤ k → k < 88 → x.2 k i = σ k i := fun k i h1 h2 => hw k i (fun q => by unfold wS_K_group at q; omega)
  refine ⟨x, e, h, ?_⟩
  obtain ⟨y, e2, h2, hy⟩ := wk_pk (tt_M_group (a1 := a) (a2 := b) (a3 := c) h) (pq_Mgroup a b c x.2)
  have hw2 := wr_M_group a b c x.2 y e2
  have cl : ∀ k i, k < 71 ∨ k = 88 → y.2 k i = x.2 k i := fun k i h1 => hw2 k i (fun q => by unfold wS_M_group at q; omega)
  have T := hT
  obtain ⟨⟨h1, h2', h3, h4, h5⟩, -, -, -, hP⟩ := hT
  have hr : y.2 71 0 = x.1 := by rw [hy.1, hx.1, mm 71 12 (by decide) (by decide), h3]
  by_cases h0 : x.1 = 0
  · obtain ⟨hK, hKP, hK8⟩ := hx.2.1 h0
    obtain ⟨hM, hMr⟩ := hy.2.1 (hr.trans h0)
    have T2 : qT y.2 := by
      refine qT_group (a := a) (b := b) (c := c) T (fun k i g0 g1 g2 => ?_) (fun k i g => ?_) (qP_keep (fun k i g => cl k i (by omega)) (hKP hP))
      · rw [cl k i (by omega)]; exact hK k i g0 g1 (by omega)
      · rw [hM k i (by omega), mm 71 12 (by decide) (by decide)]; exact uMG_cong (mm k i (by omega) (by omega))
    refine ⟨y, e2, ⟨h2, T2⟩, hr, fun _ => ?_⟩
    rw [cl 88 0 (by decide), hK8, hMr, mm 71 12 (by decide) (by decide), h3]
  · have ex : x.2 = σ := hx.2.2 h0
    have ky := hy.2.2 (by rw [hr]; exact h0)
    have T2 : qT y.2 := qT_keep (fun k i hd => by rw [ky k i (by unfold qD at hd; omega), ex]) T
    exact ⟨y, e2, ⟨h2, T2⟩, hr, fun q => absurd q h0⟩
theorem tQ_table {k a b c : Int32} {σ : wc_S} (hσ : wQ σ) : wk (wf_K_table k a b c σ) (fun r => wJ 0 r.2 ∧ wk (wf_M_table k a b c r.2) (fun s => wQ s.2 ∧ s.2 71 0 = r.1 ∧ (r.1 = 0 → s.2 88 0 = s.1))) := by
  obtain ⟨hJ, hT⟩ := hσ
  obtain ⟨x, e, h, hx⟩ := wk_pk (tt_K_table (a1 := k) (a2 := a) (a3 := b) (a4 := c) hJ) (pq_Ktable k a b c σ hJ)
  have hw := wr_K_table k a b c σ x e
  have mm : ∀ k i, 71 ≤ k → k < 88 → x.2 k i = σ k i := fun k i h1 h2 => hw k i (fun q => by unfold wS_K_table at q; omega)
  refine ⟨x, e, h, ?_⟩
  obtain ⟨y, e2, h2, hy⟩ := wk_pk (tt_M_table (a1 := k) (a2 := a) (a3 := b) (a4 := c) h) (pq_Mtable k a b c x.2 h)
  have hw2 := wr_M_table k a b c x.2 y e2
  have cl : ∀ k i, k < 71 ∨ k = 88 → y.2 k i = x.2 k i := fun k i h1 => hw2 k i (fun q => by unfold wS_M_table at q; omega)
  have T := hT
  obtain ⟨⟨h1, h2', h3, h4, h5⟩, -, -, -, hP⟩ := hT
  have hb : ∀ kk : k = 0 ∨ k = 1, σ (qb k) 3 = σ 78 k.toInt.toNat := by
    intro kk
    rcases kk with rfl | rfl
    · exact h4
    · exact h5
  have kn : x.2 78 k.toInt.toNat = σ 78 k.toInt.toNat := mm 78 _ (by decide) (by decide)
  have hk01 : ∀ {n : Int32}, wR_table k a b c n ≠ 1 → k = 0 ∨ k = 1 := by
    intro n q
    unfold wR_table at q
    by_cases hk : ¬ k < 0 ∧ k ≤ 1
    · have q := hk
      rw [wn_lt, wn_le, wn_0, wn_1] at q
      rw [wn_eq, wn_eq, wn_0, wn_1]; omega
    · rw [if_neg hk] at q; exact absurd rfl q
  have hR : wR_table k a b c (σ (qb k) 3) = wR_table k a b c (σ 78 k.toInt.toNat) := by
    by_cases hk : ¬ k < 0 ∧ k ≤ 1
    · rw [hb (by
        have q := hk
        rw [wn_lt, wn_le, wn_0, wn_1] at q
        rw [wn_eq, wn_eq, wn_0, wn_1]; omega)]
    · unfold wR_table; rw [if_neg hk, if_neg hk]
  have hr : y.2 71 0 = x.1 := by rw [hy.1, hx.1, kn, hR]
  by_cases h0 : x.1 = 0
  · obtain ⟨hK, hKP, hK8⟩ := hx.2.1 h0
    obtain ⟨hM, hMr⟩ := hy.2.1 (hr.trans h0)
    have q0 := hx.1.symm.trans h0
    have kk : k = 0 ∨ k = 1 := hk01 (by rw [q0]; decide)
    have hl : σ (qb k) 3 < 8 ∧ (¬ c < 0 ∧ c ≤ 10000) := by
      unfold wR_table at q0
      split at q0
      · split at q0
        · rename_i hc
          split at q0
          · rename_i hl
            exact ⟨hl, hc.2.2⟩
          · exact absurd q0 (by decide)
        · exact absurd q0 (by decide)
      · exact absurd q0 (by decide)
    have T2 : qT y.2 := by
      have P2 : qP y.2 := qP_keep (fun k i g => cl k i (by omega)) hKP
      have gK : ∀ j i, 0 < j → j < 9 ∨ 17 < j → j < 71 → y.2 j i = uR (qb k) a b c (σ (qb k) 3) σ j i := fun j i g0 g1 g2 => by
        rw [cl j i (by omega)]; exact hK j i g0 g1 (by omega)
      have gM : ∀ j i, (72 ≤ j ∧ j < 88) ∨ (j = 71 ∧ (i = 1 ∨ i = 12 ∨ i = 16)) → y.2 j i = uMR k.toInt.toNat a b c (σ 78 k.toInt.toNat) σ j i := fun j i g => by
        rw [hM j i (by omega), kn]; exact uMR_cong (mm j i (by omega) (by omega))
      rcases kk with rfl | rfl
      · exact qT_table0 T hJ hl.1 hl.2 gK gM P2
      · exact qT_table1 T hJ hl.1 hl.2 gK gM P2
    refine ⟨y, e2, ⟨h2, T2⟩, hr, fun _ => ?_⟩
    rw [cl 88 0 (by decide), hK8, hMr, kn, hb kk]
  · have ex : x.2 = σ := hx.2.2 h0
    have ky := hy.2.2 (by rw [hr]; exact h0)
    have T2 : qT y.2 := qT_keep (fun k i hd => by rw [ky k i (by unfold qD at hd; omega), ex]) T
    exact ⟨y, e2, ⟨h2, T2⟩, hr, fun q => absurd q h0⟩
theorem tQ_urgent {a b : Int32} {σ : wc_S} (hσ : wQ σ) : wk (wf_K_urgent a b σ) (fun r => wJ 0 r.2 ∧ wk (wf_M_urgent a b r.2) (fun τ => wQ τ ∧ τ 71 0 = r.1)) := by
  obtain ⟨hJ, hT⟩ := hσ
  obtain ⟨x, e, h, hx⟩ := wk_pk (tt_K_urgent (a1 := a) (a2 := b) hJ) (pq_Kurgent a b σ)
  have hw := wr_K_urgent a b σ x e
  have mm : ∀ k i, 71 ≤ k → k < 88 → x.2 k i = σ k i := fun k i h1 h2 => hw k i (fun q => by unfold wS_K_urgent at q; omega)
  refine ⟨x, e, h, ?_⟩
  obtain ⟨y, e2, h2, hy⟩ := wk_pk (tt_M_urgent (a1 := a) (a2 := b) h) (pq_Murgent a b h)
  have hw2 := wr_M_urgent a b x.2 y e2
  have cl : ∀ k i, k < 71 ∨ k = 88 → y k i = x.2 k i := fun k i h1 => hw2 k i (fun q => by unfold wS_M_urgent at q; omega)
  have T := hT
  obtain ⟨⟨h1, h2', h3, h4, h5⟩, -, -, -, hP⟩ := hT
  have hr : y 71 0 = x.1 := by rw [hy.1, hx.1, mm 71 1 (by decide) (by decide), h1]
  by_cases h0 : x.1 = 0
  · have hK := hx.2.1 h0
    have hM := hy.2.1 (hr.trans h0)
    have T2 : qT y := by
      refine qT_urgent (a := a) (b := b) T (fun k i g0 g1 g2 => ?_) (fun k i g => ?_) (qP_keep (fun k i g => ?_) hP)
      · rw [cl k i (by omega)]; exact hK k i g0
      · rw [hM k i (by omega)]; exact wu_cong (mm k i (by omega) (by omega))
      · rw [cl k i (by omega), hK k i (by omega)]; exact wu_other (by omega)
    exact ⟨y, e2, ⟨h2, T2⟩, hr⟩
  · have ex : x.2 = σ := hx.2.2 h0
    have ky := hy.2.2 (by rw [hr]; exact h0)
    have T2 : qT y := qT_keep (fun k i hd => by rw [ky k i (by unfold qD at hd; omega), ex]) T
    exact ⟨y, e2, ⟨h2, T2⟩, hr⟩
theorem tQ_old {a b : Int32} {σ : wc_S} (hσ : wQ σ) : wk (wf_K_old a b σ) (fun r => wJ 0 r.2 ∧ wk (wf_M_old a b r.2) (fun τ => wQ τ ∧ τ 71 0 = r.1)) := by
  obtain ⟨hJ, hT⟩ := hσ
  obtain ⟨x, e, h, hx⟩ := wk_pk (tt_K_old (a1 := a) (a2 := b) hJ) (pq_Kold a b σ)
  have hw := wr_K_old a b σ x e
  have mm : ∀ k i, 71 ≤ k → k < 88 → x.2 k i = σ k i := fun k i h1 h2 => hw k i (fun q => by unfold wS_K_old at q; omega)
  refine ⟨x, e, h, ?_⟩
  obtain ⟨y, e2, h2, hy⟩ := wk_pk (tt_M_old (a1 := a) (a2 := b) h) (pq_Mold a b h)
  have hw2 := wr_M_old a b x.2 y e2
  have cl : ∀ k i, k < 71 ∨ k = 88 → y k i = x.2 k i := fun k i h1 => hw2 k i (fun q => by unfold wS_M_old at q; omega)
  have T := hT
  obtain ⟨⟨h1, h2', h3, h4, h5⟩, -, -, -, hP⟩ := hT
  have hr : y 71 0 = x.1 := by rw [hy.1, hx.1, mm 71 1 (by decide) (by decide), h1]
  by_cases h0 : x.1 = 0
  · have hK := hx.2.1 h0
    have hM := hy.2.1 (hr.trans h0)
    have T2 : qT y := by
      refine qT_old (a := a) (b := b) T (fun k i g0 g1 g2 => ?_) (fun k i g => ?_) (qP_keep (fun k i g => ?_) hP)
      · rw [cl k i (by omega)]; exact hK k i g0
      · rw [hM k i (by omega)]; exact wu_cong (mm k i (by omega) (by omega))
      · rw [cl k i (by omega), hK k i (by omega)]; exact wu_other (by omega)
    exact ⟨y, e2, ⟨h2, T2⟩, hr⟩
  · have ex : x.2 = σ := hx.2.2 h0
    have ky := hy.2.2 (by rw [hr]; exact h0)
    have T2 : qT y := qT_keep (fun k i hd => by rw [ky k i (by unfold qD at hd; omega), ex]) T
    exact ⟨y, e2, ⟨h2, T2⟩, hr⟩
theorem tQ_rules {a b c d : Int32} {σ : wc_S} (hσ : wQ σ) : wk (wf_K_rules a b c d σ) (fun r => wJ 0 r.2 ∧ wk (wf_M_rules a b c d r.2) (fun τ => wQ τ ∧ τ 71 0 = r.1)) := by
  obtain ⟨hJ, hT⟩ := hσ
  obtain ⟨x, e, h, hx⟩ := wk_pk (tt_K_rules (a1 := a) (a2 := b) (a3 := c) (a4 := d) hJ) (pq_Krules a b c d σ)
  have hw := wr_K_rules a b c d σ x e
  have mm : ∀ k i, 71 ≤ k → k < 88 → x.2 k i = σ k i := fun k i h1 h2 => hw k i (fun q => by unfold wS_K_rules at q; omega)
  refine ⟨x, e, h, ?_⟩
  obtain ⟨y, e2, h2, hy⟩ := wk_pk (tt_M_rules (a1 := a) (a2 := b) (a3 := c) (a4 := d) h) (pq_Mrules a b c d x.2)
  have hw2 := wr_M_rules a b c d x.2 y e2
  have cl : ∀ k i, k < 71 ∨ k = 88 → y k i = x.2 k i := fun k i h1 => hw2 k i (fun q => by unfold wS_M_rules at q; omega)
  have T := hT
  obtain ⟨⟨h1, h2', h3, h4, h5⟩, -, -, -, hP⟩ := hT
  have hr : y 71 0 = x.1 := by rw [hy.1, hx.1]
  by_cases h0 : x.1 = 0
  · have hK := hx.2.1 h0
    have hM := hy.2.1 (hr.trans h0)
    have T2 : qT y := by
      refine qT_rules (a := a) (b := b) (c := c) (d := d) T (fun k i g0 g1 g2 => ?_) (fun k i g => ?_) (qP_keep (fun k i g => ?_) hP)
      · rw [cl k i (by omega)]; exact hK k i g0
      · rw [hM k i (by omega)]; exact wu_cong (wu_cong (wu_cong (wu_cong (mm k i (by omega) (by omega)))))
      · rw [cl k i (by omega), hK k i (by omega)]; rw [wu_other (by omega), wu_other (by omega), wu_other (by omega), wu_other (by omega)]
    exact ⟨y, e2, ⟨h2, T2⟩, hr⟩
  · have ex : x.2 = σ := hx.2.2 h0
    have ky := hy.2.2 (by rw [hr]; exact h0)
    have T2 : qT y := qT_keep (fun k i hd => by rw [ky k i (by unfold qD at hd; omega), ex]) T
    exact ⟨y, e2, ⟨h2, T2⟩, hr⟩
theorem wQ_start : qT wc_0 := by
  refine ⟨⟨rfl, rfl, rfl, rfl, rfl⟩, fun k i k2 k7 => ?_, fun k i k3 i8 => ?_, fun i => ⟨?_, ?_, ?_⟩, fun a b _ ha hb => ?_⟩
  · have kk : k = 2 ∨ k = 3 ∨ k = 4 ∨ k = 5 ∨ k = 6 ∨ k = 7 := by omega
    rcases kk with rfl | rfl | rfl | rfl | rfl | rfl <;> rfl
  · have kk : k = 0 ∨ k = 1 ∨ k = 2 := by omega
    rcases kk with rfl | rfl | rfl <;> exact ⟨rfl, rfl⟩
  · show 0 ≤ (0 : Int32).toInt ∧ (0 : Int32).toInt ≤ 2000; decide
  · show 0 ≤ (0 : Int32).toInt ∧ (0 : Int32).toInt ≤ 10000; decide
  · show 0 ≤ (0 : Int32).toInt ∧ (0 : Int32).toInt ≤ 10000; decide
  · have : (wc_0 1 10).toInt = 0 := rfl
    omega
