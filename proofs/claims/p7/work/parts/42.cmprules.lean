def wRr (a b c d : Int32) : Int32 := if (¬ a < 0 ∧ a ≤ 9) ∧ (¬ b < 1 ∧ b ≤ 1000) ∧ (¬ c < 0 ∧ c ≤ 10000) ∧ (¬ d < 0 ∧ d ≤ 10000) then 0 else 1
set_option maxRecDepth 100000 in
set_option maxHeartbeats 4000000 in
theorem er_rules (a b c d : Int32) (σ : wc_S) : (∃ τ, wf_K_rules a b c d σ = some (wRr a b c d, τ)) ∧ (∀ ρ, ∃ τ, wf_M_rules a b c d ρ = some τ ∧ τ 71 0 = wRr a b c d) := by
  by_cases h0 : ¬ a < 0 ∧ a ≤ 9
  · skip
    by_cases h1 : ¬ b < 1 ∧ b ≤ 1000
    · skip
      by_cases h2 : ¬ c < 0 ∧ c ≤ 10000
      · skip
        by_cases h3 : ¬ d < 0 ∧ d ≤ 10000
        · skip
          have e : wRr a b c d = 0 := by unfold wRr; rw [if_pos ⟨h0, h1, h2, h3⟩]
          rw [e]
          exact ⟨⟨_, by unfold wf_K_rules wf_W_rules; rw [ob0 h0, if_pos rfl, ob0 h1, if_pos rfl, ob0 h2, if_pos rfl, ob0 h3, if_pos rfl]; rfl⟩, fun ρ => ⟨_, by unfold wf_M_rules; rw [mb1 h0, if_neg (by decide), mb1 h1, if_neg (by decide), mb1 h2, if_neg (by decide), mb1 h3, if_neg (by decide)]; rfl, by rfl⟩⟩
        · skip
          have e : wRr a b c d = 1 := by unfold wRr; rw [if_neg (fun h => h3 h.2.2.2)]
          rw [e]
          exact ⟨⟨_, by unfold wf_K_rules wf_W_rules; rw [ob0 h0, if_pos rfl, ob0 h1, if_pos rfl, ob0 h2, if_pos rfl, ob1 h3, if_neg (by decide)]; rfl⟩, fun ρ => ⟨_, by unfold wf_M_rules; rw [mb1 h0, if_neg (by decide), mb1 h1, if_neg (by decide), mb1 h2, if_neg (by decide), mb0 h3, if_pos rfl]; rfl, by rfl⟩⟩
      · skip
        have e : wRr a b c d = 1 := by unfold wRr; rw [if_neg (fun h => h2 h.2.2.1)]
        rw [e]
        exact ⟨⟨_, by unfold wf_K_rules wf_W_rules; rw [ob0 h0, if_pos rfl, ob0 h1, if_pos rfl, ob1 h2, if_neg (by decide)]; rfl⟩, fun ρ => ⟨_, by unfold wf_M_rules; rw [mb1 h0, if_neg (by decide), mb1 h1, if_neg (by decide), mb0 h2, if_pos rfl]; rfl, by rfl⟩⟩
    · skip
      have e : wRr a b c d = 1 := by unfold wRr; rw [if_neg (fun h => h1 h.2.1)]
      rw [e]
      exact ⟨⟨_, by unfold wf_K_rules wf_W_rules; rw [ob0 h0, if_pos rfl, ob1 h1, if_neg (by decide)]; rfl⟩, fun ρ => ⟨_, by unfold wf_M_rules; rw [mb1 h0, if_neg (by decide), mb0 h1, if_pos rfl]; rfl, by rfl⟩⟩
  · skip
    have e : wRr a b c d = 1 := by unfold wRr; rw [if_neg (fun h => h0 h.1)]
    rw [e]
    exact ⟨⟨_, by unfold wf_K_rules wf_W_rules; rw [ob1 h0, if_neg (by decide)]; rfl⟩, fun ρ => ⟨_, by unfold wf_M_rules; rw [mb0 h0, if_pos rfl]; rfl, by rfl⟩⟩
theorem tr_K_rules {a b c d : Int32} {σ : wc_S} (hσ : wJ 0 σ) : wk (wf_K_rules a b c d σ) (fun r => wJ 0 r.2 ∧ r.1 = wRr a b c d) := by
  obtain ⟨x, h1, h2⟩ := tt_K_rules (a1 := a) (a2 := b) (a3 := c) (a4 := d) hσ
  obtain ⟨τ, e⟩ := (er_rules a b c d σ).1
  refine ⟨x, h1, h2, ?_⟩
  rw [h1] at e
  cases e
  rfl
theorem tr_M_rules {a b c d : Int32} {σ : wc_S} (hσ : wJ 0 σ) : wk (wf_M_rules a b c d σ) (fun τ => wJ 0 τ ∧ τ 71 0 = wRr a b c d) := by
  obtain ⟨x, h1, h2⟩ := tt_M_rules (a1 := a) (a2 := b) (a3 := c) (a4 := d) hσ
  obtain ⟨τ, e, e2⟩ := (er_rules a b c d σ).2 σ
  refine ⟨x, h1, h2, ?_⟩
  rw [h1] at e
  cases e
  exact e2
