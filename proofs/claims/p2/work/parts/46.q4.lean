def qb (k : Int32) : Nat := if k = 0 then 18 else 22
def wR_table (k a b c n : Int32) : Int32 := if ¬ k < 0 ∧ k ≤ 1 then (if (¬ a < 0 ∧ a ≤ 1000) ∧ (¬ b < a ∧ b ≤ 1000) ∧ (¬ c < 0 ∧ c ≤ 10000) then (if n < 8 then 0 else 3) else 2) else 1
theorem pq_Ktable (k a b c : Int32) (σ : wc_S) (hJ : wJ 0 σ) : pk (wf_K_table k a b c σ) (fun r => r.1 = wR_table k a b c (σ (qb k) 3) ∧ (r.1 = 0 → (∀ j i, 0 < j → j < 9 ∨ 17 < j → j < 88 → r.2 j i = uR (qb k) a b c (σ (qb k) 3) σ j i) ∧ qP r.2 ∧ r.2 88 0 = σ (qb k) 3 + 1) ∧ (r.1 ≠ 0 → r.2 = σ)) := by
  by_cases hk : ¬ k < 0 ∧ k ≤ 1
  · have key : ∀ bb, bb = 18 ∨ bb = 22 → pk (wc_cti (wf_W_table_84 a b c bb σ) (fun k9 σ3 => if k9 = 0 then some (1, σ3) else if k9 = 2 then some (2, σ3) else if k9 = 3 then some (3, σ3) else none) (fun r2 σ1 => wc_gd (wc_in 0 1) (wc_st (wc_u σ1 88 ((0 : Int32).toNatClampNeg) r2) fun σ5 => some (0, σ5)))) (fun r : Int32 × wc_S => r.1 = (if σ bb 3 < 8 then 0 else 3) ∧ (r.1 = 0 → (∀ j i, 0 < j → j < 9 ∨ 17 < j → j < 88 → r.2 j i = uR bb a b c (σ bb 3) σ j i) ∧ qP r.2 ∧ r.2 88 0 = σ bb 3 + 1) ∧ (r.1 ≠ 0 → r.2 = σ)) := by
      intro bb hbb
      refine pk_cti (pq_table84 hbb hJ) ?_ ?_
      · intro k u hq
        rcases hq with ⟨r, u2, hq, _⟩ | ⟨hq, hn⟩
        · cases hq
        · cases hq
          rw [if_neg hn]
          exact pk_s ⟨rfl, (fun h => absurd (show (3 : Int32) = 0 from h) (by decide)), fun _ => rfl⟩
      · intro r u hq
        rcases hq with ⟨r2, u2, hq, hl, g1, g2, g3⟩ | ⟨hq, hn⟩
        · cases hq
          rw [if_pos hl]
          refine pk_g (fun _ => pk_s ⟨rfl, (fun _ => ⟨fun k i h0 hk h88 => ?_, ?_, ?_⟩), fun h => absurd rfl h⟩)
          · exact (wu_other (Or.inl (by omega))).trans (g2 k i h0 hk)
          · exact qP_keep (fun k i hk => wu_other (Or.inl (by omega))) g3
          · exact g1
        · cases hq
    by_cases h0 : ¬ a < 0 ∧ a ≤ 1000
    · skip
      by_cases h1 : ¬ b < a ∧ b ≤ 1000
      · skip
        by_cases h2 : ¬ c < 0 ∧ c ≤ 10000
        · skip
          have e : wR_table k a b c (σ (qb k) 3) = if σ (qb k) 3 < 8 then 0 else 3 := by unfold wR_table; rw [if_pos hk, if_pos ⟨h0, h1, h2⟩]
          rw [e]
          unfold wf_K_table wf_W_table
          rw [ob0 hk, if_pos rfl, ob0 h0, if_pos rfl, ob0 h1, if_pos rfl, ob0 h2, if_pos rfl]
          by_cases hz : k = 0
          · rw [if_pos hz, show qb k = 18 from if_pos hz]; exact key 18 (Or.inl rfl)
          · rw [if_neg hz, show qb k = 22 from if_neg hz]; exact key 22 (Or.inr rfl)
        · have e : wR_table k a b c (σ (qb k) 3) = 2 := by unfold wR_table; rw [if_pos hk, if_neg (fun h => h2 h.2.2)]
          rw [e]
          unfold wf_K_table wf_W_table
          rw [ob0 hk, if_pos rfl, ob0 h0, if_pos rfl, ob0 h1, if_pos rfl, ob1 h2, if_neg (by decide)]
          exact pk_s ⟨rfl, (fun h => absurd (show (2 : Int32) = 0 from h) (by decide)), fun _ => rfl⟩
      · have e : wR_table k a b c (σ (qb k) 3) = 2 := by unfold wR_table; rw [if_pos hk, if_neg (fun h => h1 h.2.1)]
        rw [e]
        unfold wf_K_table wf_W_table
        rw [ob0 hk, if_pos rfl, ob0 h0, if_pos rfl, ob1 h1, if_neg (by decide)]
        exact pk_s ⟨rfl, (fun h => absurd (show (2 : Int32) = 0 from h) (by decide)), fun _ => rfl⟩
    · have e : wR_table k a b c (σ (qb k) 3) = 2 := by unfold wR_table; rw [if_pos hk, if_neg (fun h => h0 h.1)]
      rw [e]
      unfold wf_K_table wf_W_table
      rw [ob0 hk, if_pos rfl, ob1 h0, if_neg (by decide)]
      exact pk_s ⟨rfl, (fun h => absurd (show (2 : Int32) = 0 from h) (by decide)), fun _ => rfl⟩
  · have e : wR_table k a b c (σ (qb k) 3) = 1 := by unfold wR_table; rw [if_neg hk]
    rw [e]
    unfold wf_K_table wf_W_table
    rw [ob1 hk, if_neg (by decide)]
    exact pk_s ⟨rfl, (fun h => absurd (show (1 : Int32) = 0 from h) (by decide)), fun _ => rfl⟩
theorem pq_Mtable71 (k a b c : Int32) (hk : k = 0 ∨ k = 1) (σ : wc_S) (hJ : wJ 0 σ) (hl : σ 78 k.toInt.toNat < 8) : pk (wf_M_table_71 k a b c 1 1 1 σ) (fun r => r.2 71 0 = 0 ∧ (r.2 71 0 = 0 → (∀ j i, j ≠ 71 ∨ (i ≠ 0 ∧ i ≠ 20 ∧ i ≠ 22) → r.2 j i = uMR k.toInt.toNat a b c (σ 78 k.toInt.toNat) σ j i) ∧ r.1 = σ 78 k.toInt.toNat + 1) ∧ (r.2 71 0 ≠ 0 → ∀ j i, j ≠ 71 ∨ i ≠ 0 → r.2 j i = σ j i)) := by
  have hk' : 0 ≤ k.toInt ∧ k.toInt ≤ 1 := by rcases hk with rfl | rfl <;> decide
  have h8 := wn_m8 hk'.1 hk'.2
  have bn := i_8 hJ (k := 78) (i := k.toInt.toNat) (by omega)
  unfold wf_M_table_71
  rw [e_goes, if_neg (by decide), if_neg (by decide), if_neg (by decide), b2s, if_neg (by decide)]
  have z0 : ∀ j i, j ≠ 71 ∨ i ≠ 0 → wc_u σ 71 0 0 j i = σ j i := fun k i h => wu_other (by omega)
  refine pk_e (fun v10 e10 => pk_g (fun _ => pk_e (fun v12 e12 => pk_e (fun v13 e13 => ?_))))
  have c12 : v12 = σ 78 k.toInt.toNat := by rw [e12, wn_tn, z0 _ _ (by omega)]
  have c13 : v13.toNatClampNeg = 8 * k.toInt.toNat + (σ 78 k.toInt.toNat).toNatClampNeg := by
    rw [wn_tn, wn_tn, e13, c12, e10, wn_add (by omega) (by omega), h8]; omega
  refine pk_g (fun _ => pk_e (fun τ0 d0 => pk_g (fun _ => pk_e (fun τ1 d1 => pk_g (fun _ => pk_e (fun τ2 d2 => ?_))))))
  refine pk_g (fun _ => pk_e (fun v21 e21 => pk_e (fun v22 e22 => pk_g (fun _ => pk_e (fun τ dT => ?_)))))
  have c21 : v21 = σ 78 k.toInt.toNat := by rw [e21, wn_tn, d2, wu_other (Or.inl (by decide)), d1, wu_other (Or.inl (by decide)), d0, wu_other (Or.inl (by decide)), z0 _ _ (by omega)]
  refine pk_b1 pk_gone (fun u hu => pk_g (fun _ => pk_e (fun v27 e27 => ?_)))
  have hT : τ = uMR k.toInt.toNat a b c (σ 78 k.toInt.toNat) (wc_u σ 71 0 0) := by rw [dT, e22, c21, d2, d1, d0, c13]; rfl
  have cz : u 71 0 = 0 := by rw [hu 71 0 (Or.inr ⟨by decide, by decide⟩), hT]; simp [uMR, wu_at]
  refine pk_s ⟨cz, (fun _ => ⟨fun j i hk => ?_, ?_⟩), fun h => absurd cz h⟩
  · refine (hu j i (by omega)).trans ?_
    rw [hT]; exact uMR_cong (z0 j i (by omega))
  · show v27 = _
    rw [e27, wn_tn, hu 78 _ (by omega), hT]; simp [uMR, wu_at]
theorem pq_Mtable50 (k a b c s1 s2 : Int32) (hs1 : s1 = 0 ∨ (s1 = 1 ∧ (k = 0 ∨ k = 1))) (hs2 : s2 = 0 ∨ s2 = 1) (σ : wc_S) (hJ : wJ 0 σ) : pk (wf_M_table_50 k a b c s1 s1 s2 σ) (fun r => r.2 71 0 = (if s1 = 0 then 1 else if s2 = 0 then 2 else if σ 78 k.toInt.toNat < 8 then 0 else 3) ∧ (r.2 71 0 = 0 → (∀ j i, j ≠ 71 ∨ (i ≠ 0 ∧ i ≠ 20 ∧ i ≠ 22) → r.2 j i = uMR k.toInt.toNat a b c (σ 78 k.toInt.toNat) σ j i) ∧ r.1 = σ 78 k.toInt.toNat + 1) ∧ (r.2 71 0 ≠ 0 → ∀ j i, j ≠ 71 ∨ i ≠ 0 → r.2 j i = σ j i)) := by
  unfold wf_M_table_50
  rcases hs1 with rfl | ⟨rfl, hk⟩
  · rw [if_pos rfl, if_pos rfl]
    unfold wf_M_table_70 wf_M_table_71
    rw [e_goes, if_pos rfl]
    exact pk_s ⟨rfl, (fun h => absurd (show (1 : Int32) = 0 from h) (by decide)), fun _ j i hk => wu_other (by omega)⟩
  · rw [if_neg (by decide), if_neg (by decide)]
    refine pk_g (fun _ => pk_e (fun v29 e29 => ?_))
    rw [wn_tn] at e29
    refine pk_i (fun hc => ?_) (fun hc => ?_)
    · have hn : ¬ σ 78 k.toInt.toNat < 8 := by
        rw [e29, wn_le] at hc; rw [wn_lt]; omega
      rw [if_neg hn]
      unfold wf_M_table_70 wf_M_table_71
      rw [e_goes, if_neg (by decide)]
      rcases hs2 with rfl | rfl
      · rw [if_pos rfl, if_pos rfl]
        exact pk_s ⟨rfl, (fun h => absurd (show (2 : Int32) = 0 from h) (by decide)), fun _ j i hk => wu_other (by omega)⟩
      · rw [if_neg (by decide), if_pos rfl, if_neg (by decide)]
        exact pk_s ⟨rfl, (fun h => absurd (show (3 : Int32) = 0 from h) (by decide)), fun _ j i hk => wu_other (by omega)⟩
    · have hn : σ 78 k.toInt.toNat < 8 := by
        rw [e29, wn_le] at hc; rw [wn_lt]; omega
      rw [if_pos hn]
      rcases hs2 with rfl | rfl
      · rw [if_pos rfl]
        unfold wf_M_table_71
        rw [e_goes, if_neg (by decide), if_pos rfl]
        exact pk_s ⟨rfl, (fun h => absurd (show (2 : Int32) = 0 from h) (by decide)), fun _ j i hk => wu_other (by omega)⟩
      · rw [if_neg (by decide)]
        exact pq_Mtable71 k a b c hk σ hJ hn
theorem pq_Mtable (k a b c : Int32) (σ : wc_S) (hJ : wJ 0 σ) : pk (wf_M_table k a b c σ) (fun r => r.2 71 0 = wR_table k a b c (σ 78 k.toInt.toNat) ∧ (r.2 71 0 = 0 → (∀ j i, j ≠ 71 ∨ (i ≠ 0 ∧ i ≠ 20 ∧ i ≠ 22) → r.2 j i = uMR k.toInt.toNat a b c (σ 78 k.toInt.toNat) σ j i) ∧ r.1 = σ 78 k.toInt.toNat + 1) ∧ (r.2 71 0 ≠ 0 → ∀ j i, j ≠ 71 ∨ i ≠ 0 → r.2 j i = σ j i)) := by
  by_cases hk : ¬ k < 0 ∧ k ≤ 1
  · have hk2 : k = 0 ∨ k = 1 := by
      have q := hk
      rw [wn_lt, wn_le, wn_0, wn_1] at q
      rw [wn_eq, wn_eq, wn_0, wn_1]; omega
    by_cases h0 : ¬ a < 0 ∧ a ≤ 1000
    · skip
      by_cases h1 : ¬ b < a ∧ b ≤ 1000
      · skip
        by_cases h2 : ¬ c < 0 ∧ c ≤ 10000
        · skip
          have e : wR_table k a b c (σ 78 k.toInt.toNat) = if σ 78 k.toInt.toNat < 8 then 0 else 3 := by unfold wR_table; rw [if_pos hk, if_pos ⟨h0, h1, h2⟩]
          rw [e]
          unfold wf_M_table
          rw [mb1 hk, mb1 h0, if_neg (by decide), mb1 h1, if_neg (by decide), mb1 h2, if_neg (by decide)]
          exact pk_mono (pq_Mtable50 k a b c 1 1 (Or.inr ⟨rfl, hk2⟩) (Or.inr rfl) σ hJ) (fun r h => by rw [if_neg (by decide), if_neg (by decide)] at h; exact h)
        · have e : wR_table k a b c (σ 78 k.toInt.toNat) = 2 := by unfold wR_table; rw [if_pos hk, if_neg (fun h => h2 h.2.2)]
          rw [e]
          unfold wf_M_table
          rw [mb1 hk, mb1 h0, if_neg (by decide), mb1 h1, if_neg (by decide), mb0 h2, if_pos rfl]
          exact pk_mono (pq_Mtable50 k a b c 1 0 (Or.inr ⟨rfl, hk2⟩) (Or.inl rfl) σ hJ) (fun r h => by rw [if_neg (by decide), if_pos rfl] at h; exact h)
      · have e : wR_table k a b c (σ 78 k.toInt.toNat) = 2 := by unfold wR_table; rw [if_pos hk, if_neg (fun h => h1 h.2.1)]
        rw [e]
        unfold wf_M_table
        rw [mb1 hk, mb1 h0, if_neg (by decide), mb0 h1, if_pos rfl]
        exact pk_mono (pq_Mtable50 k a b c 1 0 (Or.inr ⟨rfl, hk2⟩) (Or.inl rfl) σ hJ) (fun r h => by rw [if_neg (by decide), if_pos rfl] at h; exact h)
    · have e : wR_table k a b c (σ 78 k.toInt.toNat) = 2 := by unfold wR_table; rw [if_pos hk, if_neg (fun h => h0 h.1)]
      rw [e]
      unfold wf_M_table
      rw [mb1 hk, mb0 h0, if_pos rfl]
      exact pk_mono (pq_Mtable50 k a b c 1 0 (Or.inr ⟨rfl, hk2⟩) (Or.inl rfl) σ hJ) (fun r h => by rw [if_neg (by decide), if_pos rfl] at h; exact h)
  · have e : wR_table k a b c (σ 78 k.toInt.toNat) = 1 := by unfold wR_table; rw [if_neg hk]
    rw [e]
    by_cases h0 : ¬ a < 0 ∧ a ≤ 1000
    · skip
      by_cases h1 : ¬ b < a ∧ b ≤ 1000
      · skip
        by_cases h2 : ¬ c < 0 ∧ c ≤ 10000
        · skip
          unfold wf_M_table
          rw [mb0 hk, mb1 h0, if_neg (by decide), mb1 h1, if_neg (by decide), mb1 h2, if_neg (by decide)]
          exact pk_mono (pq_Mtable50 k a b c 0 1 (Or.inl rfl) (Or.inr rfl) σ hJ) (fun r h => by rw [if_pos rfl] at h; exact h)
        · unfold wf_M_table
          rw [mb0 hk, mb1 h0, if_neg (by decide), mb1 h1, if_neg (by decide), mb0 h2, if_pos rfl]
          exact pk_mono (pq_Mtable50 k a b c 0 0 (Or.inl rfl) (Or.inl rfl) σ hJ) (fun r h => by rw [if_pos rfl] at h; exact h)
      · unfold wf_M_table
        rw [mb0 hk, mb1 h0, if_neg (by decide), mb0 h1, if_pos rfl]
        exact pk_mono (pq_Mtable50 k a b c 0 0 (Or.inl rfl) (Or.inl rfl) σ hJ) (fun r h => by rw [if_pos rfl] at h; exact h)
    · unfold wf_M_table
      rw [mb0 hk, mb0 h0, if_pos rfl]
      exact pk_mono (pq_Mtable50 k a b c 0 0 (Or.inl rfl) (Or.inl rfl) σ hJ) (fun r h => by rw [if_pos rfl] at h; exact h)
theorem e_noCoil (a : Int32) (σ : wc_S) : wf_W_isNoCoil a σ = some (if a < 0 ∨ ¬ a < σ 1 10 then 1 else 0, σ) := by
  show (if a < 0 then some ((1 : Int32), σ) else if a < σ 1 10 then some (0, σ) else some (1, σ)) = _
  by_cases h : a < 0
  · rw [if_pos h, if_pos (Or.inl h)]
  · rw [if_neg h]
    by_cases h2 : a < σ 1 10
    · rw [if_pos h2, if_neg (by intro q; rcases q with q | q; exact h q; exact q h2)]
    · rw [if_neg h2, if_pos (Or.inr h2)]
theorem e_isCoil {c : Nat} {a : Int32} {σ : wc_S} (hσ : wJ c σ) : wf_M_isCoil a σ = some (if a < 0 ∨ ¬ a < σ 71 1 then 0 else 1, σ) := by
  have hm := i_m hσ
  have hd : (σ 71 1 - 1).toInt = (σ 71 1).toInt - 1 := wn_dn hm.1 (by omega)
  show (wc_b2 (wf_M_in a 0 (σ 71 1 - 1) σ) fun r4 σ3 => wc_gd (wc_z r4) (some (r4, σ3))) = _
  by_cases h : a < 0 ∨ ¬ a < σ 71 1
  · rw [if_pos h, mb0 (by
      intro q
      rcases h with h | h
      · exact q.1 h
      · have q2 := q.2
        rw [wn_le] at q2; rw [wn_lt] at h
        omega)]
    rfl
  · rw [if_neg h, mb1 (by
      refine ⟨fun q => h (Or.inl q), ?_⟩
      have h2 : a < σ 71 1 := Decidable.byContradiction (fun q => h (Or.inr q))
      rw [wn_lt] at h2; rw [wn_le]
      omega)]
    rfl
def wR_urgent (a b n : Int32) : Int32 := if a < 0 ∨ ¬ a < n then 1 else if ¬ b < 0 ∧ b ≤ 8 then 0 else 2
theorem pq_Kurgent (a b : Int32) (σ : wc_S) : pk (wf_K_urgent a b σ) (fun r => r.1 = wR_urgent a b (σ 1 10) ∧ (r.1 = 0 → ∀ k i, 0 < k → r.2 k i = wc_u σ 6 a.toNatClampNeg b k i) ∧ (r.1 ≠ 0 → r.2 = σ)) := by
  unfold wf_K_urgent wf_W_urgent wR_urgent
  rw [e_noCoil, b2s]
  by_cases h : a < 0 ∨ ¬ a < σ 1 10
  · rw [if_pos h, if_pos h, if_neg (by decide)]
    exact pk_s ⟨rfl, (fun h => absurd (show (1 : Int32) = 0 from h) (by decide)), fun _ => rfl⟩
  · rw [if_neg h, if_neg h, if_pos rfl]
    by_cases hb : ¬ b < 0 ∧ b ≤ 8
    · rw [ob0 hb, if_pos rfl, if_pos hb]
      refine pk_ctv (Q := fun q => ∃ u, q = .inr u ∧ ∀ k i, 0 < k → u k i = wc_u σ 6 a.toNatClampNeg b k i) ?_ (fun k u h => by obtain ⟨_, h, _⟩ := h; cases h) (fun u hu => ?_)
      · exact pk_b1 pk_forget (fun u hu => pk_g (fun _ => pk_e (fun τ eτ => pk_s ⟨τ, rfl, fun k i hk => by rw [eτ]; exact wu_cong (hu k i (by omega))⟩)))
      · obtain ⟨u2, h1, h2⟩ := hu
        cases h1
        exact pk_s ⟨rfl, (fun _ => h2), fun h => absurd rfl h⟩
    · rw [ob1 hb, if_neg (by decide), if_neg hb]
      exact pk_s ⟨rfl, (fun h => absurd (show (2 : Int32) = 0 from h) (by decide)), fun _ => rfl⟩
theorem pq_Murgent (a b : Int32) {σ : wc_S} (hσ : wJ 0 σ) : pk (wf_M_urgent a b σ) (fun τ => τ 71 0 = wR_urgent a b (σ 71 1) ∧ (τ 71 0 = 0 → ∀ k i, k ≠ 71 ∨ (i ≠ 0 ∧ i ≠ 20 ∧ i ≠ 22) → τ k i = wc_u σ 76 a.toNatClampNeg b k i) ∧ (τ 71 0 ≠ 0 → ∀ k i, k ≠ 71 ∨ i ≠ 0 → τ k i = σ k i)) := by
  unfold wf_M_urgent wR_urgent
  rw [e_isCoil hσ, b2s]
  by_cases h : a < 0 ∨ ¬ a < σ 71 1
  · rw [if_pos h, if_pos h]
    by_cases hb : ¬ b < 0 ∧ b ≤ 8
    · rw [mb1 hb, e_goes, if_pos rfl, b2s, if_pos rfl]
      exact pk_s ⟨rfl, (fun h => absurd (show (1 : Int32) = 0 from h) (by decide)), fun _ k i hk => wu_other (by omega)⟩
    · rw [mb0 hb, e_goes, if_pos rfl, b2s, if_pos rfl]
      exact pk_s ⟨rfl, (fun h => absurd (show (1 : Int32) = 0 from h) (by decide)), fun _ k i hk => wu_other (by omega)⟩
  · rw [if_neg h, if_neg h]
    by_cases hb : ¬ b < 0 ∧ b ≤ 8
    · rw [mb1 hb, e_goes, if_neg (by decide), if_neg (by decide), if_neg (by decide), b2s, if_neg (by decide), if_pos hb]
      refine pk_g (fun _ => pk_e (fun σ9 e9 => pk_b1 pk_gone (fun u hu => ?_)))
      have cz : u 71 0 = 0 := by rw [hu 71 0 (Or.inr ⟨by decide, by decide⟩), e9, wu_other (Or.inl (by decide)), wu_same]
      refine pk_s ⟨cz, (fun _ k i hk => ?_), fun h => absurd cz h⟩
      rw [hu k i (by omega), e9]; exact wu_cong (wu_other (by omega))
    · rw [mb0 hb, e_goes, if_neg (by decide), if_pos rfl, b2s, if_pos rfl, if_neg hb]
      exact pk_s ⟨rfl, (fun h => absurd (show (2 : Int32) = 0 from h) (by decide)), fun _ k i hk => wu_other (by omega)⟩
def wR_old (a b n : Int32) : Int32 := if a < 0 ∨ ¬ a < n then 1 else if ¬ b < (-1) ∧ b ≤ 8 then 0 else 2
theorem pq_Kold (a b : Int32) (σ : wc_S) : pk (wf_K_old a b σ) (fun r => r.1 = wR_old a b (σ 1 10) ∧ (r.1 = 0 → ∀ k i, 0 < k → r.2 k i = wc_u σ 7 a.toNatClampNeg b k i) ∧ (r.1 ≠ 0 → r.2 = σ)) := by
  unfold wf_K_old wf_W_old wR_old
  rw [e_noCoil, b2s]
  by_cases h : a < 0 ∨ ¬ a < σ 1 10
  · rw [if_pos h, if_pos h, if_neg (by decide)]
    exact pk_s ⟨rfl, (fun h => absurd (show (1 : Int32) = 0 from h) (by decide)), fun _ => rfl⟩
  · rw [if_neg h, if_neg h, if_pos rfl]
    by_cases hb : ¬ b < (-1) ∧ b ≤ 8
    · rw [ob0 hb, if_pos rfl, if_pos hb]
      refine pk_ctv (Q := fun q => ∃ u, q = .inr u ∧ ∀ k i, 0 < k → u k i = wc_u σ 7 a.toNatClampNeg b k i) ?_ (fun k u h => by obtain ⟨_, h, _⟩ := h; cases h) (fun u hu => ?_)
      · exact pk_b1 pk_forget (fun u hu => pk_g (fun _ => pk_e (fun τ eτ => pk_s ⟨τ, rfl, fun k i hk => by rw [eτ]; exact wu_cong (hu k i (by omega))⟩)))
      · obtain ⟨u2, h1, h2⟩ := hu
        cases h1
        exact pk_s ⟨rfl, (fun _ => h2), fun h => absurd rfl h⟩
    · rw [ob1 hb, if_neg (by decide), if_neg hb]
      exact pk_s ⟨rfl, (fun h => absurd (show (2 : Int32) = 0 from h) (by decide)), fun _ => rfl⟩
theorem pq_Mold (a b : Int32) {σ : wc_S} (hσ : wJ 0 σ) : pk (wf_M_old a b σ) (fun τ => τ 71 0 = wR_old a b (σ 71 1) ∧ (τ 71 0 = 0 → ∀ k i, k ≠ 71 ∨ (i ≠ 0 ∧ i ≠ 20 ∧ i ≠ 22) → τ k i = wc_u σ 77 a.toNatClampNeg b k i) ∧ (τ 71 0 ≠ 0 → ∀ k i, k ≠ 71 ∨ i ≠ 0 → τ k i = σ k i)) := by
  unfold wf_M_old wR_old
  rw [e_isCoil hσ, b2s]
  by_cases h : a < 0 ∨ ¬ a < σ 71 1
  · rw [if_pos h, if_pos h]
    by_cases hb : ¬ b < (-1) ∧ b ≤ 8
    · rw [mb1 hb, e_goes, if_pos rfl, b2s, if_pos rfl]
      exact pk_s ⟨rfl, (fun h => absurd (show (1 : Int32) = 0 from h) (by decide)), fun _ k i hk => wu_other (by omega)⟩
    · rw [mb0 hb, e_goes, if_pos rfl, b2s, if_pos rfl]
      exact pk_s ⟨rfl, (fun h => absurd (show (1 : Int32) = 0 from h) (by decide)), fun _ k i hk => wu_other (by omega)⟩
  · rw [if_neg h, if_neg h]
    by_cases hb : ¬ b < (-1) ∧ b ≤ 8
    · rw [mb1 hb, e_goes, if_neg (by decide), if_neg (by decide), if_neg (by decide), b2s, if_neg (by decide), if_pos hb]
      refine pk_g (fun _ => pk_e (fun σ9 e9 => pk_b1 pk_gone (fun u hu => ?_)))
      have cz : u 71 0 = 0 := by rw [hu 71 0 (Or.inr ⟨by decide, by decide⟩), e9, wu_other (Or.inl (by decide)), wu_same]
      refine pk_s ⟨cz, (fun _ k i hk => ?_), fun h => absurd cz h⟩
      rw [hu k i (by omega), e9]; exact wu_cong (wu_other (by omega))
    · rw [mb0 hb, e_goes, if_neg (by decide), if_pos rfl, b2s, if_pos rfl, if_neg hb]
      exact pk_s ⟨rfl, (fun h => absurd (show (2 : Int32) = 0 from h) (by decide)), fun _ k i hk => wu_other (by omega)⟩
def wR_rules (a b c d : Int32) : Int32 := if (¬ a < 0 ∧ a ≤ 9) ∧ (¬ b < 1 ∧ b ≤ 1000) ∧ (¬ c < 0 ∧ c ≤ 10000) ∧ (¬ d < 0 ∧ d ≤ 10000) then 0 else 1
theorem pq_Krules (a b c d : Int32) (σ : wc_S) : pk (wf_K_rules a b c d σ) (fun r => r.1 = wR_rules a b c d ∧ (r.1 = 0 → ∀ k i, 0 < k → r.2 k i = wc_u (wc_u (wc_u (wc_u σ 1 11 a) 1 12 b) 1 13 c) 1 14 d k i) ∧ (r.1 ≠ 0 → r.2 = σ)) := by
  by_cases h0 : ¬ a < 0 ∧ a ≤ 9
  · skip
    by_cases h1 : ¬ b < 1 ∧ b ≤ 1000
    · skip
      by_cases h2 : ¬ c < 0 ∧ c ≤ 10000
      · skip
        by_cases h3 : ¬ d < 0 ∧ d ≤ 10000
        · skip
          have e : wR_rules a b c d = 0 := by unfold wR_rules; rw [if_pos ⟨h0, h1, h2, h3⟩]
          rw [e]
          unfold wf_K_rules wf_W_rules
          rw [ob0 h0, if_pos rfl, ob0 h1, if_pos rfl, ob0 h2, if_pos rfl, ob0 h3, if_pos rfl]
          refine pk_ctv (Q := fun q => ∃ u, q = .inr u ∧ ∀ k i, 0 < k → u k i = wc_u (wc_u (wc_u (wc_u σ 1 11 a) 1 12 b) 1 13 c) 1 14 d k i) ?_ (fun k u h => by obtain ⟨_, h, _⟩ := h; cases h) (fun u hu => ?_)
          · refine pk_b1 pk_forget (fun u hu => pk_e (fun σ14 e14 => pk_e (fun σ15 e15 => pk_e (fun σ16 e16 => pk_e (fun σ17 e17 => pk_s ⟨σ17, rfl, fun k i hk => ?_⟩)))))
            rw [e17, e16, e15, e14]; exact wu_cong (wu_cong (wu_cong (wu_cong (hu k i (by omega)))))
          · obtain ⟨u2, h1, h2⟩ := hu
            cases h1
            exact pk_s ⟨rfl, (fun _ => h2), fun h => absurd rfl h⟩
        · have e : wR_rules a b c d = 1 := by unfold wR_rules; rw [if_neg (fun h => h3 h.2.2.2)]
          rw [e]
          unfold wf_K_rules wf_W_rules
          rw [ob0 h0, if_pos rfl, ob0 h1, if_pos rfl, ob0 h2, if_pos rfl, ob1 h3, if_neg (by decide)]
          exact pk_s ⟨rfl, (fun h => absurd (show (1 : Int32) = 0 from h) (by decide)), fun _ => rfl⟩
      · have e : wR_rules a b c d = 1 := by unfold wR_rules; rw [if_neg (fun h => h2 h.2.2.1)]
        rw [e]
        unfold wf_K_rules wf_W_rules
        rw [ob0 h0, if_pos rfl, ob0 h1, if_pos rfl, ob1 h2, if_neg (by decide)]
        exact pk_s ⟨rfl, (fun h => absurd (show (1 : Int32) = 0 from h) (by decide)), fun _ => rfl⟩
    · have e : wR_rules a b c d = 1 := by unfold wR_rules; rw [if_neg (fun h => h1 h.2.1)]
      rw [e]
      unfold wf_K_rules wf_W_rules
      rw [ob0 h0, if_pos rfl, ob1 h1, if_neg (by decide)]
      exact pk_s ⟨rfl, (fun h => absurd (show (1 : Int32) = 0 from h) (by decide)), fun _ => rfl⟩
  · have e : wR_rules a b c d = 1 := by unfold wR_rules; rw [if_neg (fun h => h0 h.1)]
    rw [e]
    unfold wf_K_rules wf_W_rules
    rw [ob1 h0, if_neg (by decide)]
    exact pk_s ⟨rfl, (fun h => absurd (show (1 : Int32) = 0 from h) (by decide)), fun _ => rfl⟩
theorem pq_Mrules (a b c d : Int32) (σ : wc_S) : pk (wf_M_rules a b c d σ) (fun τ => τ 71 0 = wR_rules a b c d ∧ (τ 71 0 = 0 → ∀ k i, k ≠ 71 ∨ (i ≠ 0 ∧ i ≠ 20 ∧ i ≠ 22) → τ k i = wc_u (wc_u (wc_u (wc_u σ 71 16 a) 71 17 b) 71 18 c) 71 19 d k i) ∧ (τ 71 0 ≠ 0 → ∀ k i, k ≠ 71 ∨ i ≠ 0 → τ k i = σ k i)) := by
  by_cases h0 : ¬ a < 0 ∧ a ≤ 9
  · skip
    by_cases h1 : ¬ b < 1 ∧ b ≤ 1000
    · skip
      by_cases h2 : ¬ c < 0 ∧ c ≤ 10000
      · skip
        by_cases h3 : ¬ d < 0 ∧ d ≤ 10000
        · skip
          have e : wR_rules a b c d = 0 := by unfold wR_rules; rw [if_pos ⟨h0, h1, h2, h3⟩]
          rw [e]
          unfold wf_M_rules
          rw [mb1 h0, if_neg (by decide), mb1 h1, if_neg (by decide), mb1 h2, if_neg (by decide), mb1 h3, if_neg (by decide)]
          unfold wf_M_rules_50
          rw [e_goes, if_neg (by decide), if_neg (by decide), if_neg (by decide), b2s, if_neg (by decide)]
          refine pk_e (fun σ14 e14 => pk_e (fun σ15 e15 => pk_e (fun σ16 e16 => pk_e (fun σ17 e17 => pk_b1 pk_gone (fun u hu => ?_)))))
          have cz : u 71 0 = 0 := by rw [hu 71 0 (Or.inr ⟨by decide, by decide⟩), e17, e16, e15, e14]; simp [wu_at]
          refine pk_s ⟨cz, (fun _ k i hk => ?_), fun h => absurd cz h⟩
          rw [hu k i (by omega), e17, e16, e15, e14]; exact wu_cong (wu_cong (wu_cong (wu_cong (wu_other (by omega)))))
        · have e : wR_rules a b c d = 1 := by unfold wR_rules; rw [if_neg (fun h => h3 h.2.2.2)]
          rw [e]
          unfold wf_M_rules
          rw [mb1 h0, if_neg (by decide), mb1 h1, if_neg (by decide), mb1 h2, if_neg (by decide), mb0 h3, if_pos rfl]
          unfold wf_M_rules_49 wf_M_rules_50
          rw [e_goes, if_pos rfl, b2s, if_pos rfl]
          exact pk_s ⟨rfl, (fun h => absurd (show (1 : Int32) = 0 from h) (by decide)), fun _ k i hk => wu_other (by omega)⟩
      · have e : wR_rules a b c d = 1 := by unfold wR_rules; rw [if_neg (fun h => h2 h.2.2.1)]
        rw [e]
        unfold wf_M_rules
        rw [mb1 h0, if_neg (by decide), mb1 h1, if_neg (by decide), mb0 h2, if_pos rfl]
        unfold wf_M_rules_49 wf_M_rules_50
        rw [e_goes, if_pos rfl, b2s, if_pos rfl]
        exact pk_s ⟨rfl, (fun h => absurd (show (1 : Int32) = 0 from h) (by decide)), fun _ k i hk => wu_other (by omega)⟩
    · have e : wR_rules a b c d = 1 := by unfold wR_rules; rw [if_neg (fun h => h1 h.2.1)]
      rw [e]
      unfold wf_M_rules
      rw [mb1 h0, if_neg (by decide), mb0 h1, if_pos rfl]
      unfold wf_M_rules_49 wf_M_rules_50
      rw [e_goes, if_pos rfl, b2s, if_pos rfl]
      exact pk_s ⟨rfl, (fun h => absurd (show (1 : Int32) = 0 from h) (by decide)), fun _ k i hk => wu_other (by omega)⟩
  · have e : wR_rules a b c d = 1 := by unfold wR_rules; rw [if_neg (fun h => h0 h.1)]
    rw [e]
    unfold wf_M_rules
    rw [mb0 h0, if_pos rfl]
    unfold wf_M_rules_49 wf_M_rules_50
    rw [e_goes, if_pos rfl, b2s, if_pos rfl]
    exact pk_s ⟨rfl, (fun h => absurd (show (1 : Int32) = 0 from h) (by decide)), fun _ k i hk => wu_other (by omega)⟩
