/-! what the telling calls answer and leave, class and model -/
theorem wu_cong {σ τ : wc_S} {k i : Nat} {x : Int32} {k' i' : Nat} (h : τ k' i' = σ k' i') : wc_u τ k i x k' i' = wc_u σ k i x k' i' := by rw [wu_at, wu_at, h]
def uC (a b c d n : Int32) (σ : wc_S) : wc_S := wc_u (wc_u (wc_u (wc_u (wc_u (wc_u (wc_u σ 2 n.toNatClampNeg a) 3 n.toNatClampNeg b) 4 n.toNatClampNeg c) 5 n.toNatClampNeg d) 6 n.toNatClampNeg 8) 7 n.toNatClampNeg (-1)) 1 10 (n + 1)
def uMC (a b c d n : Int32) (σ : wc_S) : wc_S := wc_u (wc_u (wc_u (wc_u (wc_u (wc_u (wc_u σ 72 n.toNatClampNeg a) 73 n.toNatClampNeg b) 74 n.toNatClampNeg c) 75 n.toNatClampNeg d) 76 n.toNatClampNeg 8) 77 n.toNatClampNeg (-1)) 71 1 (n + 1)
def uR (b : Nat) (x y z n : Int32) (σ : wc_S) : wc_S := wc_u (wc_u (wc_u (wc_u σ (b + 1) n.toNatClampNeg x) (b + 2) n.toNatClampNeg y) (b + 3) n.toNatClampNeg z) b 3 (n + 1)
def uMR (k : Nat) (x y z n : Int32) (σ : wc_S) : wc_S := wc_u (wc_u (wc_u (wc_u σ 79 (8 * k + n.toNatClampNeg) x) 80 (8 * k + n.toNatClampNeg) y) 81 (8 * k + n.toNatClampNeg) z) 78 k (n + 1)
def uG (a b c n : Int32) (σ : wc_S) : wc_S := wc_u (wc_u (wc_u (wc_u σ 27 n.toNatClampNeg a) 28 n.toNatClampNeg b) 29 n.toNatClampNeg c) 26 3 (n + 1)
def uMG (a b c n : Int32) (σ : wc_S) : wc_S := wc_u (wc_u (wc_u (wc_u σ 82 n.toNatClampNeg a) 83 n.toNatClampNeg b) 84 n.toNatClampNeg c) 71 12 (n + 1)
theorem uC_cong {a b c d n : Int32} {σ τ : wc_S} {k i : Nat} (h : τ k i = σ k i) : uC a b c d n τ k i = uC a b c d n σ k i := wu_cong (wu_cong (wu_cong (wu_cong (wu_cong (wu_cong (wu_cong h))))))
theorem uR_cong {b : Nat} {x y z n : Int32} {σ τ : wc_S} {k i : Nat} (h : τ k i = σ k i) : uR b x y z n τ k i = uR b x y z n σ k i := wu_cong (wu_cong (wu_cong (wu_cong h)))
theorem uG_cong {a b c n : Int32} {σ τ : wc_S} {k i : Nat} (h : τ k i = σ k i) : uG a b c n τ k i = uG a b c n σ k i := wu_cong (wu_cong (wu_cong (wu_cong h)))
theorem uMC_cong {a b c d n : Int32} {σ τ : wc_S} {k i : Nat} (h : τ k i = σ k i) : uMC a b c d n τ k i = uMC a b c d n σ k i := wu_cong (wu_cong (wu_cong (wu_cong (wu_cong (wu_cong (wu_cong h))))))
theorem uMR_cong {j : Nat} {x y z n : Int32} {σ τ : wc_S} {k i : Nat} (h : τ k i = σ k i) : uMR j x y z n τ k i = uMR j x y z n σ k i := wu_cong (wu_cong (wu_cong (wu_cong h)))
theorem uMG_cong {a b c n : Int32} {σ τ : wc_S} {k i : Nat} (h : τ k i = σ k i) : uMG a b c n τ k i = uMG a b c n σ k i := wu_cong (wu_cong (wu_cong (wu_cong h)))
theorem wn_up1 {x : Int32} (h0 : 0 ≤ x.toInt) (h : x.toInt ≤ 9) : 0 ≤ (x + 1).toInt ∧ (x + 1).toInt = x.toInt + 1 := by
  have := wn_up h0 (by omega)
  omega
theorem wJ_k0 {σ u : wc_S} (hu : ∀ k i, k ≠ 0 → u k i = σ k i) (h : wJ 0 σ) : wJ 0 u := by
  intro k i
  by_cases h0 : k = 0
  · subst h0; exact wJ_o (by decide)
  · rw [hu k i h0]; exact h k i
theorem pq_addCoil {a b c d : Int32} {σ : wc_S} (hJ : wJ 0 σ) (hl : σ 1 10 < 9) : pk (wf_P_addCoil a b c d σ) (fun r => r.1 = σ 1 10 ∧ (∀ k i, k < 9 ∨ 17 < k → r.2 k i = uC a b c d (σ 1 10) σ k i) ∧ qP r.2) := by
  unfold wf_P_addCoil
  refine pk_e (fun v1 e1 => ?_)
  refine pk_g (fun _ => pk_e (fun σ3 e3 => pk_g (fun _ => pk_e (fun σ5 e5 => pk_g (fun _ => pk_e (fun σ7 e7 => pk_g (fun _ => pk_e (fun σ9 e9 => pk_g (fun _ => pk_e (fun σ11 e11 => pk_g (fun _ => pk_e (fun σ13 e13 => ?_))))))))))))
  refine pk_e (fun v14 e14 => pk_e (fun v15 e15 => pk_e (fun σ16 e16 => ?_)))
  have h14 : v14 = σ 1 10 := by
    rw [e14, e13, wu_other (Or.inl (by decide)), e11, wu_other (Or.inl (by decide)), e9, wu_other (Or.inl (by decide)), e7, wu_other (Or.inl (by decide)), e5, wu_other (Or.inl (by decide)), e3, wu_other (Or.inl (by decide))]
  have h16 : σ16 = uC a b c d (σ 1 10) σ := by rw [e16, e15, h14, e13, e11, e9, e7, e5, e3, e1]; rfl
  have hn := i_n hJ
  have h18 := i_r hJ (Or.inl rfl) (b := 18)
  have h22 := i_r hJ (Or.inr rfl) (b := 22)
  have k18 : uC a b c d (σ 1 10) σ 18 3 = σ 18 3 := by simp [uC, wu_at]
  have k22 : uC a b c d (σ 1 10) σ 22 3 = σ 22 3 := by simp [uC, wu_at]
  have k1 : uC a b c d (σ 1 10) σ 1 10 = σ 1 10 + 1 := by simp [uC, wu_at]
  rw [wn_lt, wn_9] at hl
  have hup := wn_up1 hn.1 hn.2.1
  refine pk_b1 (pq_reckonJumps (σ := σ16) (by rw [h16, k18]; omega) (by rw [h16, k22]; omega) (by rw [h16, k1]; omega)) (fun u hu => ?_)
  exact pk_s ⟨e1, fun k i hk => by rw [← h16]; exact hu.1 k i hk, hu.2⟩
theorem pq_addRow {b : Nat} (hb : b = 18 ∨ b = 22) {x y z : Int32} {σ : wc_S} : pk (wf_J_addRow b x y z σ) (fun τ => τ = uR b x y z (σ b 3) σ) := by
  unfold wf_J_addRow
  refine pk_e (fun v1 e1 => pk_g (fun _ => pk_e (fun σ3 e3 => pk_e (fun v4 e4 => pk_g (fun _ => pk_e (fun σ6 e6 => pk_e (fun v7 e7 => pk_g (fun _ => pk_e (fun σ9 e9 => ?_)))))))))
  refine pk_e (fun v10 e10 => pk_e (fun v11 e11 => pk_e (fun σ12 e12 => pk_s ?_)))
  have h4 : v4 = σ b 3 := by rw [e4, e3, wu_other (Or.inl (by omega))]
  have h7 : v7 = σ b 3 := by rw [e7, e6, wu_other (Or.inl (by omega)), e3, wu_other (Or.inl (by omega))]
  have h10 : v10 = σ b 3 := by rw [e10, e9, wu_other (Or.inl (by omega)), e6, wu_other (Or.inl (by omega)), e3, wu_other (Or.inl (by omega))]
  rw [e12, e11, h10, e9, h7, e6, h4, e3, e1]; rfl
theorem pq_addGroup {x y z : Int32} {σ : wc_S} : pk (wf_G_addGroup x y z σ) (fun τ => τ = uG x y z (σ 26 3) σ) := by
  unfold wf_G_addGroup
  refine pk_e (fun v1 e1 => pk_g (fun _ => pk_e (fun σ3 e3 => pk_e (fun v4 e4 => pk_g (fun _ => pk_e (fun σ6 e6 => pk_e (fun v7 e7 => pk_g (fun _ => pk_e (fun σ9 e9 => ?_)))))))))
  refine pk_e (fun v10 e10 => pk_e (fun v11 e11 => pk_e (fun σ12 e12 => pk_s ?_)))
  have h4 : v4 = σ 26 3 := by rw [e4, e3, wu_other (Or.inl (by decide))]
  have h7 : v7 = σ 26 3 := by rw [e7, e6, wu_other (Or.inl (by decide)), e3, wu_other (Or.inl (by decide))]
  have h10 : v10 = σ 26 3 := by rw [e10, e9, wu_other (Or.inl (by decide)), e6, wu_other (Or.inl (by decide)), e3, wu_other (Or.inl (by decide))]
  rw [e12, e11, h10, e9, h7, e6, h4, e3, e1]; rfl
theorem pq_table84 {b : Nat} (hb : b = 18 ∨ b = 22) {x y z : Int32} {σ : wc_S} (hJ : wJ 0 σ) : pk (wf_W_table_84 x y z b σ) (fun q => (∃ r u, q = .inr (r, u) ∧ σ b 3 < 8 ∧ r = σ b 3 + 1 ∧ (∀ k i, 0 < k → k < 9 ∨ 17 < k → u k i = uR b x y z (σ b 3) σ k i) ∧ qP u) ∨ (q = .inl (3, σ) ∧ ¬ σ b 3 < 8)) := by
  unfold wf_W_table_84
  refine pk_e (fun v14 e14 => pk_i (fun hc => ?_) (fun hc => pk_s (Or.inr ⟨rfl, e14 ▸ hc⟩)))
  rw [e14] at hc
  refine pk_b1 pk_forget (fun u hu => ?_)
  refine pk_b1 (pq_addRow hb) (fun u2 hu2 => ?_)
  have hn := i_n hJ
  have h18 := i_r hJ (Or.inl rfl) (b := 18)
  have h22 := i_r hJ (Or.inr rfl) (b := 22)
  have hbb := i_r hJ hb
  have hc' := hc
  rw [wn_lt, wn_8] at hc'
  have hup := wn_up1 hbb.1 (by omega)
  have g : ∀ k i, 0 < k → u2 k i = uR b x y z (σ b 3) σ k i := by
    intro k i hk
    rw [hu2, hu b 3 (by omega)]
    exact uR_cong (hu k i (by omega))
  have k1 : uR b x y z (σ b 3) σ 1 10 = σ 1 10 := by rcases hb with rfl | rfl <;> simp [uR, wu_at]
  have kb : uR b x y z (σ b 3) σ b 3 = σ b 3 + 1 := by simp [uR, wu_at]
  have k18 : 0 ≤ (u2 18 3).toInt ∧ (u2 18 3).toInt ≤ 8 := by
    rw [g 18 3 (by decide)]
    rcases hb with rfl | rfl
    · rw [kb]; omega
    · rw [show uR 22 x y z (σ 22 3) σ 18 3 = σ 18 3 by simp [uR, wu_at]]; omega
  have k22 : 0 ≤ (u2 22 3).toInt ∧ (u2 22 3).toInt ≤ 8 := by
    rw [g 22 3 (by decide)]
    rcases hb with rfl | rfl
    · rw [show uR 18 x y z (σ 18 3) σ 22 3 = σ 22 3 by simp [uR, wu_at]]; omega
    · rw [kb]; omega
  refine pk_b1 (pq_reckonJumps k18 k22 (by rw [g 1 10 (by decide), k1]; omega)) (fun u3 hu3 => ?_)
  refine pk_e (fun v19 e19 => pk_s (Or.inl ⟨v19, u3, rfl, hc, ?_, fun k i h0 hk => ?_, hu3.2⟩))
  · rw [e19, hu3.1 b 3 (by omega), g b 3 (by omega), kb]
  · rw [hu3.1 k i hk, g k i h0]
def wR_coil (a b c d n : Int32) : Int32 := if (¬ a < 1 ∧ a ≤ 2000) ∧ (¬ b < 1 ∧ b ≤ 1000) ∧ (¬ c < 0 ∧ c ≤ 9) ∧ (¬ d < 1 ∧ d ≤ 100) then (if n < 9 then 0 else 2) else 1
theorem pq_Kcoil (a b c d : Int32) (σ : wc_S) (hJ : wJ 0 σ) : pk (wf_K_coil a b c d σ) (fun r => r.1 = wR_coil a b c d (σ 1 10) ∧ (r.1 = 0 → (∀ k i, 0 < k → k < 9 ∨ 17 < k → k < 88 → r.2 k i = uC a b c d (σ 1 10) σ k i) ∧ (qP σ → qP r.2) ∧ r.2 88 0 = σ 1 10) ∧ (r.1 ≠ 0 → r.2 = σ)) := by
  by_cases h0 : ¬ a < 1 ∧ a ≤ 2000
  · skip
    by_cases h1 : ¬ b < 1 ∧ b ≤ 1000
    · skip
      by_cases h2 : ¬ c < 0 ∧ c ≤ 9
      · skip
        by_cases h3 : ¬ d < 1 ∧ d ≤ 100
        · skip
          have e : wR_coil a b c d (σ 1 10) = if σ 1 10 < 9 then 0 else 2 := by unfold wR_coil; rw [if_pos ⟨h0, h1, h2, h3⟩]
          rw [e]
          unfold wf_K_coil wf_W_coil
          rw [ob0 h0, if_pos rfl, ob0 h1, if_pos rfl, ob0 h2, if_pos rfl, ob0 h3, if_pos rfl]
          refine pk_cti (Q := fun q => (∃ r u, q = .inr (r, u) ∧ σ 1 10 < 9 ∧ r = σ 1 10 ∧ (∀ k i, 0 < k → k < 9 ∨ 17 < k → u k i = uC a b c d (σ 1 10) σ k i) ∧ (qP σ → qP u)) ∨ (q = .inl (3, σ) ∧ ¬ σ 1 10 < 9)) ?_ ?_ ?_
          · refine pk_e (fun v13 e13 => pk_i (fun hc => ?_) (fun hc => ?_))
            · rw [e13] at hc
              refine pk_b1 pk_forget (fun u hu => ?_)
              have hu1 : u 1 10 = σ 1 10 := hu 1 10 (by decide)
              refine pk_b2 (pq_addCoil (wJ_k0 hu hJ) (by rw [hu1]; exact hc)) (fun r u2 hu2 => ?_)
              rw [hu1] at hu2
              exact pk_s (Or.inl ⟨r, u2, rfl, hc, hu2.1, fun k i h0 hk => (hu2.2.1 k i hk).trans (uC_cong (hu k i (by omega))), fun _ => hu2.2.2⟩)
            · exact pk_s (Or.inr ⟨rfl, e13 ▸ hc⟩)
          · intro k u hq
            rcases hq with ⟨r, u2, hq, _⟩ | ⟨hq, hn⟩
            · cases hq
            · cases hq
              rw [if_neg hn]
              exact pk_s ⟨rfl, (fun h => absurd (show (2 : Int32) = 0 from h) (by decide)), fun _ => rfl⟩
          · intro r u hq
            rcases hq with ⟨r2, u2, hq, hl, g1, g2, g3⟩ | ⟨hq, hn⟩
            · cases hq
              rw [if_pos hl]
              refine pk_g (fun _ => pk_s ⟨rfl, (fun _ => ⟨fun k i h0 hk h88 => ?_, fun hP => ?_, ?_⟩), fun h => absurd rfl h⟩)
              · exact (wu_other (Or.inl (by omega))).trans (g2 k i h0 hk)
              · exact qP_keep (fun k i hk => wu_other (Or.inl (by omega))) (g3 hP)
              · exact g1
            · cases hq
        · have e : wR_coil a b c d (σ 1 10) = 1 := by unfold wR_coil; rw [if_neg (fun h => h3 h.2.2.2)]
          rw [e]
          unfold wf_K_coil wf_W_coil
          rw [ob0 h0, if_pos rfl, ob0 h1, if_pos rfl, ob0 h2, if_pos rfl, ob1 h3, if_neg (by decide)]
          exact pk_s ⟨rfl, (fun h => absurd (show (1 : Int32) = 0 from h) (by decide)), fun _ => rfl⟩
      · have e : wR_coil a b c d (σ 1 10) = 1 := by unfold wR_coil; rw [if_neg (fun h => h2 h.2.2.1)]
        rw [e]
        unfold wf_K_coil wf_W_coil
        rw [ob0 h0, if_pos rfl, ob0 h1, if_pos rfl, ob1 h2, if_neg (by decide)]
        exact pk_s ⟨rfl, (fun h => absurd (show (1 : Int32) = 0 from h) (by decide)), fun _ => rfl⟩
    · have e : wR_coil a b c d (σ 1 10) = 1 := by unfold wR_coil; rw [if_neg (fun h => h1 h.2.1)]
      rw [e]
      unfold wf_K_coil wf_W_coil
      rw [ob0 h0, if_pos rfl, ob1 h1, if_neg (by decide)]
      exact pk_s ⟨rfl, (fun h => absurd (show (1 : Int32) = 0 from h) (by decide)), fun _ => rfl⟩
  · have e : wR_coil a b c d (σ 1 10) = 1 := by unfold wR_coil; rw [if_neg (fun h => h0 h.1)]
    rw [e]
    unfold wf_K_coil wf_W_coil
    rw [ob1 h0, if_neg (by decide)]
    exact pk_s ⟨rfl, (fun h => absurd (show (1 : Int32) = 0 from h) (by decide)), fun _ => rfl⟩
theorem pq_Mcoil49 (a b c d s : Int32) (hs : s = 0 ∨ s = 1) (σ : wc_S) : pk (wf_M_coil_49 a b c d s σ) (fun r => r.2 71 0 = (if s = 0 then 1 else if σ 71 1 < 9 then 0 else 2) ∧ (r.2 71 0 = 0 → (∀ k i, k ≠ 71 ∨ (i ≠ 0 ∧ i ≠ 20 ∧ i ≠ 22) → r.2 k i = uMC a b c d (σ 71 1) σ k i) ∧ r.1 = σ 71 1 + 1 - 1) ∧ (r.2 71 0 ≠ 0 → ∀ k i, k ≠ 71 ∨ i ≠ 0 → r.2 k i = σ k i)) := by
  unfold wf_M_coil_49
  refine pk_e (fun v4 e4 => pk_i (fun hc => ?_) (fun hc => ?_))
  · have hn : ¬ σ 71 1 < 9 := by
      rw [e4, wn_le] at hc; rw [wn_lt]; omega
    unfold wf_M_coil_63
    rw [e_goes, if_neg hn]
    rcases hs with rfl | rfl
    · rw [if_pos rfl, if_pos rfl]
      exact pk_s ⟨rfl, (fun h => absurd (show (1 : Int32) = 0 from h) (by decide)), fun _ k i hk => wu_other (by omega)⟩
    · rw [if_neg (by decide), if_pos rfl, if_neg (by decide)]
      exact pk_s ⟨rfl, (fun h => absurd (show (2 : Int32) = 0 from h) (by decide)), fun _ k i hk => wu_other (by omega)⟩
  · have hn : σ 71 1 < 9 := by
      rw [e4, wn_le] at hc; rw [wn_lt]; omega
    unfold wf_M_coil_63
    rw [e_goes, if_pos hn]
    rcases hs with rfl | rfl
    · rw [if_pos rfl, if_pos rfl]
      exact pk_s ⟨rfl, (fun h => absurd (show (1 : Int32) = 0 from h) (by decide)), fun _ k i hk => wu_other (by omega)⟩
    · rw [if_neg (by decide), if_neg (by decide), if_neg (by decide), if_neg (by decide), b2s, if_neg (by decide)]
      have z0 : ∀ k i, k ≠ 71 ∨ i ≠ 0 → wc_u σ 71 0 0 k i = σ k i := fun k i h => wu_other (by omega)
      refine pk_e (fun w0 e0 => pk_g (fun _ => pk_e (fun τ0 d0 => ?_)))
      have c0 : w0 = σ 71 1 := by rw [e0, z0 _ _ (by decide)]
      refine pk_e (fun w1 e1 => pk_g (fun _ => pk_e (fun τ1 d1 => ?_)))
      have c1 : w1 = σ 71 1 := by rw [e1, d0, wu_other (Or.inl (by decide)), z0 _ _ (by decide)]
      refine pk_e (fun w2 e2 => pk_g (fun _ => pk_e (fun τ2 d2 => ?_)))
      have c2 : w2 = σ 71 1 := by rw [e2, d1, wu_other (Or.inl (by decide)), d0, wu_other (Or.inl (by decide)), z0 _ _ (by decide)]
      refine pk_e (fun w3 e3 => pk_g (fun _ => pk_e (fun τ3 d3 => ?_)))
      have c3 : w3 = σ 71 1 := by rw [e3, d2, wu_other (Or.inl (by decide)), d1, wu_other (Or.inl (by decide)), d0, wu_other (Or.inl (by decide)), z0 _ _ (by decide)]
      refine pk_e (fun w4 e4 => pk_g (fun _ => pk_e (fun τ4 d4 => ?_)))
      have c4 : w4 = σ 71 1 := by rw [e4, d3, wu_other (Or.inl (by decide)), d2, wu_other (Or.inl (by decide)), d1, wu_other (Or.inl (by decide)), d0, wu_other (Or.inl (by decide)), z0 _ _ (by decide)]
      refine pk_e (fun w5 e5 => pk_g (fun _ => pk_e (fun τ5 d5 => ?_)))
      have c5 : w5 = σ 71 1 := by rw [e5, d4, wu_other (Or.inl (by decide)), d3, wu_other (Or.inl (by decide)), d2, wu_other (Or.inl (by decide)), d1, wu_other (Or.inl (by decide)), d0, wu_other (Or.inl (by decide)), z0 _ _ (by decide)]
      refine pk_e (fun w eW => pk_e (fun w2 eW2 => pk_e (fun τ dT => ?_)))
      have cW : w = σ 71 1 := by rw [eW, d5, wu_other (Or.inl (by decide)), d4, wu_other (Or.inl (by decide)), d3, wu_other (Or.inl (by decide)), d2, wu_other (Or.inl (by decide)), d1, wu_other (Or.inl (by decide)), d0, wu_other (Or.inl (by decide)), z0 _ _ (by decide)]
      refine pk_b1 pk_gone (fun u hu => ?_)
      refine pk_e (fun v31 e31 => pk_e (fun v32 e32 => ?_))
      have hT : τ = uMC a b c d (σ 71 1) (wc_u σ 71 0 0) := by rw [dT, eW2, cW, d5, c5, d4, c4, d3, c3, d2, c2, d1, c1, d0, c0]; rfl
      have cz : u 71 0 = 0 := by rw [hu 71 0 (Or.inr ⟨by decide, by decide⟩), hT]; simp [uMC, wu_at]
      have cu : u 71 1 = σ 71 1 + 1 := by rw [hu 71 1 (Or.inr ⟨by decide, by decide⟩), hT]; simp [uMC, wu_at]
      refine pk_s ⟨cz, (fun _ => ⟨fun k i hk => ?_, by show v32 = _; rw [e32, e31, cu]⟩), fun h => absurd cz h⟩
      refine (hu k i (by omega)).trans ?_
      rw [hT]; exact uMC_cong (z0 k i (by omega))
theorem pq_Mcoil (a b c d : Int32) (σ : wc_S) : pk (wf_M_coil a b c d σ) (fun r => r.2 71 0 = wR_coil a b c d (σ 71 1) ∧ (r.2 71 0 = 0 → (∀ k i, k ≠ 71 ∨ (i ≠ 0 ∧ i ≠ 20 ∧ i ≠ 22) → r.2 k i = uMC a b c d (σ 71 1) σ k i) ∧ r.1 = σ 71 1 + 1 - 1) ∧ (r.2 71 0 ≠ 0 → ∀ k i, k ≠ 71 ∨ i ≠ 0 → r.2 k i = σ k i)) := by
  by_cases h0 : ¬ a < 1 ∧ a ≤ 2000
  · skip
    by_cases h1 : ¬ b < 1 ∧ b ≤ 1000
    · skip
      by_cases h2 : ¬ c < 0 ∧ c ≤ 9
      · skip
        by_cases h3 : ¬ d < 1 ∧ d ≤ 100
        · skip
          have e : wR_coil a b c d (σ 71 1) = if σ 71 1 < 9 then 0 else 2 := by unfold wR_coil; rw [if_pos ⟨h0, h1, h2, h3⟩]
          rw [e]
          unfold wf_M_coil
          rw [mb1 h0, if_neg (by decide), mb1 h1, if_neg (by decide), mb1 h2, if_neg (by decide), mb1 h3, if_neg (by decide)]
          exact pk_mono (pq_Mcoil49 a b c d 1 (Or.inr rfl) σ) (fun r h => by rw [if_neg (by decide)] at h; exact h)
        · have e : wR_coil a b c d (σ 71 1) = 1 := by unfold wR_coil; rw [if_neg (fun h => h3 h.2.2.2)]
          rw [e]
          unfold wf_M_coil
          rw [mb1 h0, if_neg (by decide), mb1 h1, if_neg (by decide), mb1 h2, if_neg (by decide), mb0 h3, if_pos rfl]
          exact pk_mono (pq_Mcoil49 a b c d 0 (Or.inl rfl) σ) (fun r h => by rw [if_pos rfl] at h; exact h)
      · have e : wR_coil a b c d (σ 71 1) = 1 := by unfold wR_coil; rw [if_neg (fun h => h2 h.2.2.1)]
        rw [e]
        unfold wf_M_coil
        rw [mb1 h0, if_neg (by decide), mb1 h1, if_neg (by decide), mb0 h2, if_pos rfl]
        exact pk_mono (pq_Mcoil49 a b c d 0 (Or.inl rfl) σ) (fun r h => by rw [if_pos rfl] at h; exact h)
    · have e : wR_coil a b c d (σ 71 1) = 1 := by unfold wR_coil; rw [if_neg (fun h => h1 h.2.1)]
      rw [e]
      unfold wf_M_coil
      rw [mb1 h0, if_neg (by decide), mb0 h1, if_pos rfl]
      exact pk_mono (pq_Mcoil49 a b c d 0 (Or.inl rfl) σ) (fun r h => by rw [if_pos rfl] at h; exact h)
  · have e : wR_coil a b c d (σ 71 1) = 1 := by unfold wR_coil; rw [if_neg (fun h => h0 h.1)]
    rw [e]
    unfold wf_M_coil
    rw [mb0 h0, if_pos rfl]
    exact pk_mono (pq_Mcoil49 a b c d 0 (Or.inl rfl) σ) (fun r h => by rw [if_pos rfl] at h; exact h)
def wR_group (a b c n : Int32) : Int32 := if (¬ a < 1 ∧ a ≤ 2000) ∧ (¬ b < a ∧ b ≤ 2000) ∧ (¬ c < 1 ∧ c ≤ 1000) then (if n < 4 then 0 else 2) else 1
theorem pq_Kgroup (a b c : Int32) (σ : wc_S) (hJ : wJ 0 σ) : pk (wf_K_group a b c σ) (fun r => r.1 = wR_group a b c (σ 26 3) ∧ (r.1 = 0 → (∀ k i, 0 < k → k < 9 ∨ 17 < k → k < 88 → r.2 k i = uG a b c (σ 26 3) σ k i) ∧ (qP σ → qP r.2) ∧ r.2 88 0 = σ 26 3 + 1) ∧ (r.1 ≠ 0 → r.2 = σ)) := by
  by_cases h0 : ¬ a < 1 ∧ a ≤ 2000
  · skip
    by_cases h1 : ¬ b < a ∧ b ≤ 2000
    · skip
      by_cases h2 : ¬ c < 1 ∧ c ≤ 1000
      · skip
        have e : wR_group a b c (σ 26 3) = if σ 26 3 < 4 then 0 else 2 := by unfold wR_group; rw [if_pos ⟨h0, h1, h2⟩]
        rw [e]
        unfold wf_K_group wf_W_group
        rw [ob0 h0, if_pos rfl, ob0 h1, if_pos rfl, ob0 h2, if_pos rfl]
        refine pk_cti (Q := fun q => (∃ r u, q = .inr (r, u) ∧ σ 26 3 < 4 ∧ r = σ 26 3 + 1 ∧ (∀ k i, 0 < k → k < 9 ∨ 17 < k → u k i = uG a b c (σ 26 3) σ k i) ∧ (qP σ → qP u)) ∨ (q = .inl (3, σ) ∧ ¬ σ 26 3 < 4)) ?_ ?_ ?_
        · refine pk_e (fun v13 e13 => pk_i (fun hc => ?_) (fun hc => ?_))
          · rw [e13] at hc
            refine pk_b1 pk_forget (fun u hu => ?_)
            have hu1 : u 26 3 = σ 26 3 := hu 26 3 (by decide)
            refine pk_b1 pq_addGroup (fun u2 hu2 => pk_e (fun v14 e14 => ?_))
            rw [hu1] at hu2
            refine pk_s (Or.inl ⟨v14, u2, rfl, hc, ?_, fun k i h0 hk => ?_, fun hP => ?_⟩)
            · rw [e14, hu2]; simp [uG, wu_at]
            · rw [hu2]; exact uG_cong (hu k i (by omega))
            · refine qP_keep (σ := σ) (fun k i hk => ?_) hP
              rw [hu2, ← hu k i (by omega)]
              unfold uG
              rw [wu_other (by omega), wu_other (by omega), wu_other (by omega), wu_other (by omega)]
          · exact pk_s (Or.inr ⟨rfl, e13 ▸ hc⟩)
        · intro k u hq
          rcases hq with ⟨r, u2, hq, _⟩ | ⟨hq, hn⟩
          · cases hq
          · cases hq
            rw [if_neg hn]
            exact pk_s ⟨rfl, (fun h => absurd (show (2 : Int32) = 0 from h) (by decide)), fun _ => rfl⟩
        · intro r u hq
          rcases hq with ⟨r2, u2, hq, hl, g1, g2, g3⟩ | ⟨hq, hn⟩
          · cases hq
            rw [if_pos hl]
            refine pk_g (fun _ => pk_s ⟨rfl, (fun _ => ⟨fun k i h0 hk h88 => ?_, fun hP => ?_, ?_⟩), fun h => absurd rfl h⟩)
            · exact (wu_other (Or.inl (by omega))).trans (g2 k i h0 hk)
            · exact qP_keep (fun k i hk => wu_other (Or.inl (by omega))) (g3 hP)
            · exact g1
          · cases hq
      · have e : wR_group a b c (σ 26 3) = 1 := by unfold wR_group; rw [if_neg (fun h => h2 h.2.2)]
        rw [e]
        unfold wf_K_group wf_W_group
        rw [ob0 h0, if_pos rfl, ob0 h1, if_pos rfl, ob1 h2, if_neg (by decide)]
        exact pk_s ⟨rfl, (fun h => absurd (show (1 : Int32) = 0 from h) (by decide)), fun _ => rfl⟩
    · have e : wR_group a b c (σ 26 3) = 1 := by unfold wR_group; rw [if_neg (fun h => h1 h.2.1)]
      rw [e]
      unfold wf_K_group wf_W_group
      rw [ob0 h0, if_pos rfl, ob1 h1, if_neg (by decide)]
      exact pk_s ⟨rfl, (fun h => absurd (show (1 : Int32) = 0 from h) (by decide)), fun _ => rfl⟩
  · have e : wR_group a b c (σ 26 3) = 1 := by unfold wR_group; rw [if_neg (fun h => h0 h.1)]
    rw [e]
    unfold wf_K_group wf_W_group
    rw [ob1 h0, if_neg (by decide)]
    exact pk_s ⟨rfl, (fun h => absurd (show (1 : Int32) = 0 from h) (by decide)), fun _ => rfl⟩
theorem pq_Mgroup39 (a b c s : Int32) (hs : s = 0 ∨ s = 1) (σ : wc_S) : pk (wf_M_group_39 a b c s σ) (fun r => r.2 71 0 = (if s = 0 then 1 else if σ 71 12 < 4 then 0 else 2) ∧ (r.2 71 0 = 0 → (∀ k i, k ≠ 71 ∨ (i ≠ 0 ∧ i ≠ 20 ∧ i ≠ 22) → r.2 k i = uMG a b c (σ 71 12) σ k i) ∧ r.1 = σ 71 12 + 1) ∧ (r.2 71 0 ≠ 0 → ∀ k i, k ≠ 71 ∨ i ≠ 0 → r.2 k i = σ k i)) := by
  unfold wf_M_group_39
  refine pk_e (fun v4 e4 => pk_i (fun hc => ?_) (fun hc => ?_))
  · have hn : ¬ σ 71 12 < 4 := by
      rw [e4, wn_le] at hc; rw [wn_lt]; omega
    unfold wf_M_group_52
    rw [e_goes, if_neg hn]
    rcases hs with rfl | rfl
    · rw [if_pos rfl, if_pos rfl]
      exact pk_s ⟨rfl, (fun h => absurd (show (1 : Int32) = 0 from h) (by decide)), fun _ k i hk => wu_other (by omega)⟩
    · rw [if_neg (by decide), if_pos rfl, if_neg (by decide)]
      exact pk_s ⟨rfl, (fun h => absurd (show (2 : Int32) = 0 from h) (by decide)), fun _ k i hk => wu_other (by omega)⟩
  · have hn : σ 71 12 < 4 := by
      rw [e4, wn_le] at hc; rw [wn_lt]; omega
    unfold wf_M_group_52
    rw [e_goes, if_pos hn]
    rcases hs with rfl | rfl
    · rw [if_pos rfl, if_pos rfl]
      exact pk_s ⟨rfl, (fun h => absurd (show (1 : Int32) = 0 from h) (by decide)), fun _ k i hk => wu_other (by omega)⟩
    · rw [if_neg (by decide), if_neg (by decide), if_neg (by decide), if_neg (by decide), b2s, if_neg (by decide)]
      have z0 : ∀ k i, k ≠ 71 ∨ i ≠ 0 → wc_u σ 71 0 0 k i = σ k i := fun k i h => wu_other (by omega)
      refine pk_e (fun w0 e0 => pk_g (fun _ => pk_e (fun τ0 d0 => ?_)))
      have c0 : w0 = σ 71 12 := by rw [e0, z0 _ _ (by decide)]
      refine pk_e (fun w1 e1 => pk_g (fun _ => pk_e (fun τ1 d1 => ?_)))
      have c1 : w1 = σ 71 12 := by rw [e1, d0, wu_other (Or.inl (by decide)), z0 _ _ (by decide)]
      refine pk_e (fun w2 e2 => pk_g (fun _ => pk_e (fun τ2 d2 => ?_)))
      have c2 : w2 = σ 71 12 := by rw [e2, d1, wu_other (Or.inl (by decide)), d0, wu_other (Or.inl (by decide)), z0 _ _ (by decide)]
      refine pk_e (fun w eW => pk_e (fun w2 eW2 => pk_e (fun τ dT => ?_)))
      have cW : w = σ 71 12 := by rw [eW, d2, wu_other (Or.inl (by decide)), d1, wu_other (Or.inl (by decide)), d0, wu_other (Or.inl (by decide)), z0 _ _ (by decide)]
      refine pk_b1 pk_gone (fun u hu => ?_)
      refine pk_e (fun v31 e31 => ?_)
      have hT : τ = uMG a b c (σ 71 12) (wc_u σ 71 0 0) := by rw [dT, eW2, cW, d2, c2, d1, c1, d0, c0]; rfl
      have cz : u 71 0 = 0 := by rw [hu 71 0 (Or.inr ⟨by decide, by decide⟩), hT]; simp [uMG, wu_at]
      have cu : u 71 12 = σ 71 12 + 1 := by rw [hu 71 12 (Or.inr ⟨by decide, by decide⟩), hT]; simp [uMG, wu_at]
      refine pk_s ⟨cz, (fun _ => ⟨fun k i hk => ?_, by show v31 = _; rw [e31, cu]⟩), fun h => absurd cz h⟩
      refine (hu k i (by omega)).trans ?_
      rw [hT]; exact uMG_cong (z0 k i (by omega))
theorem pq_Mgroup (a b c : Int32) (σ : wc_S) : pk (wf_M_group a b c σ) (fun r => r.2 71 0 = wR_group a b c (σ 71 12) ∧ (r.2 71 0 = 0 → (∀ k i, k ≠ 71 ∨ (i ≠ 0 ∧ i ≠ 20 ∧ i ≠ 22) → r.2 k i = uMG a b c (σ 71 12) σ k i) ∧ r.1 = σ 71 12 + 1) ∧ (r.2 71 0 ≠ 0 → ∀ k i, k ≠ 71 ∨ i ≠ 0 → r.2 k i = σ k i)) := by
  by_cases h0 : ¬ a < 1 ∧ a ≤ 2000
  · skip
    by_cases h1 : ¬ b < a ∧ b ≤ 2000
    · skip
      by_cases h2 : ¬ c < 1 ∧ c ≤ 1000
      · skip
        have e : wR_group a b c (σ 71 12) = if σ 71 12 < 4 then 0 else 2 := by unfold wR_group; rw [if_pos ⟨h0, h1, h2⟩]
        rw [e]
        unfold wf_M_group
        rw [mb1 h0, if_neg (by decide), mb1 h1, if_neg (by decide), mb1 h2, if_neg (by decide)]
        exact pk_mono (pq_Mgroup39 a b c 1 (Or.inr rfl) σ) (fun r h => by rw [if_neg (by decide)] at h; exact h)
      · have e : wR_group a b c (σ 71 12) = 1 := by unfold wR_group; rw [if_neg (fun h => h2 h.2.2)]
        rw [e]
        unfold wf_M_group
        rw [mb1 h0, if_neg (by decide), mb1 h1, if_neg (by decide), mb0 h2, if_pos rfl]
        exact pk_mono (pq_Mgroup39 a b c 0 (Or.inl rfl) σ) (fun r h => by rw [if_pos rfl] at h; exact h)
    · have e : wR_group a b c (σ 71 12) = 1 := by unfold wR_group; rw [if_neg (fun h => h1 h.2.1)]
      rw [e]
      unfold wf_M_group
      rw [mb1 h0, if_neg (by decide), mb0 h1, if_pos rfl]
      exact pk_mono (pq_Mgroup39 a b c 0 (Or.inl rfl) σ) (fun r h => by rw [if_pos rfl] at h; exact h)
  · have e : wR_group a b c (σ 71 12) = 1 := by unfold wR_group; rw [if_neg (fun h => h0 h.1)]
    rw [e]
    unfold wf_M_group
    rw [mb0 h0, if_pos rfl]
    exact pk_mono (pq_Mgroup39 a b c 0 (Or.inl rfl) σ) (fun r h => by rw [if_pos rfl] at h; exact h)
