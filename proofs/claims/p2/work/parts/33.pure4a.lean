/-! range questions, seen through what follows them -/
theorem ob0 {β : Type} {v a b : Int32} {σ : wc_S} {f : Int32 → wc_S → Option β} (h : ¬ v < a ∧ v ≤ b) : wc_b2 (wf_W_isOutside v a b σ) f = f 0 σ := by
  have e : wf_W_isOutside v a b σ = some (0, σ) := by unfold wf_W_isOutside; rw [if_neg h.1, if_pos h.2]
  rw [e]; rfl
theorem ob1 {β : Type} {v a b : Int32} {σ : wc_S} {f : Int32 → wc_S → Option β} (h : ¬ (¬ v < a ∧ v ≤ b)) : wc_b2 (wf_W_isOutside v a b σ) f = f 1 σ := by
  have e : wf_W_isOutside v a b σ = some (1, σ) := by
    unfold wf_W_isOutside
    by_cases h1 : v < a
    · rw [if_pos h1]
    · rw [if_neg h1, if_neg (fun h2 => h ⟨h1, h2⟩)]
  rw [e]; rfl
theorem mb1 {β : Type} {v a b : Int32} {σ : wc_S} {f : Int32 → wc_S → Option β} (h : ¬ v < a ∧ v ≤ b) : wc_b2 (wf_M_in v a b σ) f = f 1 σ := by
  have h2 : ¬ b < v := by have := wn_le.1 h.2; rw [wn_lt]; omega
  have e : wf_M_in v a b σ = some (1, σ) := by unfold wf_M_in; rw [if_neg h.1, if_neg h2]
  rw [e]; rfl
theorem mb0 {β : Type} {v a b : Int32} {σ : wc_S} {f : Int32 → wc_S → Option β} (h : ¬ (¬ v < a ∧ v ≤ b)) : wc_b2 (wf_M_in v a b σ) f = f 0 σ := by
  have e : wf_M_in v a b σ = some (0, σ) := by
    unfold wf_M_in
    by_cases h1 : v < a
    · rw [if_pos h1]
    · rw [if_neg h1, if_pos]
      have h3 : ¬ v ≤ b := fun h2 => h ⟨h1, h2⟩
      rw [wn_le] at h3; rw [wn_lt]; omega
  rw [e]; rfl
