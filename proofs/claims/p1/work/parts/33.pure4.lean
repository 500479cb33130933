/-! range questions, seen through what follows them -/
theorem ob0 {β : Type} {v a b : Int32} {σ : wc_S} {f : Int32 → wc_S → Option β} (h : ¬ v < a ∧ v ≤ b) : wc_b2 (wf_W_isOutside v a b σ) f = f 0 σ := by
  have e : wf_W_isOutside v a b σ = some (0, σ) := by unfold wf_W_isOutside; rw [if_neg h.1, if_pos h.2]
  rw [e]; rfl
theorem ob1 {β : Type} {v a b : Int32} {σ : wc_S} {f : Int32 → wc_S → Option β} (h : ¬ (¬ v < a ∧ v ≤ b)) : wc_b2 (wf_W_isOutside v a b σ) f = f 1 σ := by
  have e : wf_W_isOutside v a b σ = some (1, σ) := by
    unfold wf_W_isOutside
    by_cases h1 : v < a
    · rw [if_pos h1]
    · rw [if_neg h1, if_neg (fun h2 => h ⟨h1, h2⟩)]
  rw [e]; rfl
theorem mb1 {β : Type} {v a b : Int32} {σ : wc_S} {f : Int32 → wc_S → Option β} (h : ¬ v < a ∧ v ≤ b) : wc_b2 (wf_M_in v a b σ) f = f 1 σ := by
  have h2 : ¬ b < v := by have := wn_le.1 h.2; rw [wn_lt]; omega
  have e : wf_M_in v a b σ = some (1, σ) := by unfold wf_M_in; rw [if_neg h.1, if_neg h2]
  rw [e]; rfl
theorem mb0 {β : Type} {v a b : Int32} {σ : wc_S} {f : Int32 → wc_S → Option β} (h : ¬ (¬ v < a ∧ v ≤ b)) : wc_b2 (wf_M_in v a b σ) f = f 0 σ := by
  have e : wf_M_in v a b σ = some (0, σ) := by
    unfold wf_M_in
    by_cases h1 : v < a
    · rw [if_pos h1]
    · rw [if_neg h1, if_pos]
      have h3 : ¬ v ≤ b := fun h2 => h ⟨h1, h2⟩
      rw [wn_le] at h3; rw [wn_lt]; omega
  rw [e]; rfl
/-! what both sides answer to one call -/
def wh (ρ : wc_S) : wc_S := fun k i => bif (Nat.ble 71 k && Nat.ble k 87) then wc_0 k i else ρ k i
theorem wh_of {S : Nat → Nat → Prop} {τ : wc_S} (h : wr_q S wc_0 τ) (hS : ∀ k i, 71 ≤ k → k ≤ 87 → ¬ S k i) : τ = wh τ := by
  funext k i
  unfold wh
  by_cases hk : 71 ≤ k ∧ k ≤ 87
  · rw [show (Nat.ble 71 k && Nat.ble k 87) = true by rw [Nat.ble_eq_true_of_le hk.1, Nat.ble_eq_true_of_le hk.2]; rfl]
    exact h k i (hS k i hk.1 hk.2)
  · cases hb : (Nat.ble 71 k && Nat.ble k 87) with
    | false => rfl
    | true =>
      rw [Bool.and_eq_true] at hb
      exact absurd ⟨Nat.le_of_ble_eq_true hb.1, Nat.le_of_ble_eq_true hb.2⟩ hk
def wq (o : Option (Int32 × wc_S)) (m : wc_S → Option (Int32 × wc_S)) : Prop := ∃ r τ1 v τ, o = some (r, τ1) ∧ m τ1 = some (v, τ) ∧ τ 71 0 = r ∧ (r = 0 → τ 88 0 = v)
def wqv (o : Option (Int32 × wc_S)) (m : wc_S → Option wc_S) : Prop := ∃ r τ1 τ, o = some (r, τ1) ∧ m τ1 = some τ ∧ τ 71 0 = r
theorem wq_of {o : Option (Int32 × wc_S)} {m : wc_S → Option (Int32 × wc_S)} {S : Nat → Nat → Prop} (r v : Int32) {τ1 : wc_S} (hK : o = some (r, τ1)) (hw : ∀ x, o = some x → wr_q S wc_0 x.2) (hS : ∀ k i, 71 ≤ k → k ≤ 87 → ¬ S k i) (hv : r = 0 → τ1 88 0 = v) (hM : ∀ ρ : wc_S, ∃ v' τ, m (wh ρ) = some (v', τ) ∧ (v' = v ∧ τ 71 0 = r ∧ τ 88 0 = ρ 88 0)) : wq o m := by
  have e := wh_of (hw _ hK) hS
  obtain ⟨v', τ, h1, rfl, h2, h3⟩ := hM τ1
  refine ⟨r, τ1, v', τ, hK, ?_, h2, fun hr => h3.trans (hv hr)⟩
  have h1' : m (wh (r, τ1).2) = some (v', τ) := h1
  rw [← e] at h1'
  exact h1'
theorem wqv_of {o : Option (Int32 × wc_S)} {m : wc_S → Option wc_S} {S : Nat → Nat → Prop} (r : Int32) {τ1 : wc_S} (hK : o = some (r, τ1)) (hw : ∀ x, o = some x → wr_q S wc_0 x.2) (hS : ∀ k i, 71 ≤ k → k ≤ 87 → ¬ S k i) (hM : ∀ ρ : wc_S, ∃ τ, m (wh ρ) = some τ ∧ τ 71 0 = r) : wqv o m := by
  have e := wh_of (hw _ hK) hS
  obtain ⟨τ, h1, h2⟩ := hM τ1
  refine ⟨r, τ1, τ, hK, ?_, h2⟩
  have h1' : m (wh (r, τ1).2) = some τ := h1
  rw [← e] at h1'
  exact h1'
set_option maxRecDepth 100000 in
set_option maxHeartbeats 4000000 in
theorem fk_coil (a b c d : Int32) : wq (wf_K_coil a b c d wc_0) (wf_M_coil a b c d) := by
  by_cases h0 : ¬ a < 1 ∧ a ≤ 2000
  · skip
    by_cases h1 : ¬ b < 1 ∧ b ≤ 1000
    · skip
      by_cases h2 : ¬ c < 0 ∧ c ≤ 9
      · skip
        by_cases h3 : ¬ d < 1 ∧ d ≤ 100
        · skip
          exact wq_of 0 0 (by unfold wf_K_coil wf_W_coil; rw [ob0 h0, if_pos rfl, ob0 h1, if_pos rfl, ob0 h2, if_pos rfl, ob0 h3, if_pos rfl]; rfl) (fun x hx => wr_K_coil a b c d wc_0 x hx) (by intro k i h1 h2 h; unfold wS_K_coil at h; omega) (fun _ => rfl) (fun ρ => ⟨_, _, by unfold wf_M_coil; rw [mb1 h0, if_neg (by decide), mb1 h1, if_neg (by decide), mb1 h2, if_neg (by decide), mb1 h3, if_neg (by decide)]; rfl, by show ((0 : Int32) + 1) - 1 = 0; rfl, by rfl, by rfl⟩)
        · skip
          exact wq_of 1 0 (by unfold wf_K_coil wf_W_coil; rw [ob0 h0, if_pos rfl, ob0 h1, if_pos rfl, ob0 h2, if_pos rfl, ob1 h3, if_neg (by decide)]; rfl) (fun x hx => wr_K_coil a b c d wc_0 x hx) (by intro k i h1 h2 h; unfold wS_K_coil at h; omega) (fun h => absurd h (by decide)) (fun ρ => ⟨_, _, by unfold wf_M_coil; rw [mb1 h0, if_neg (by decide), mb1 h1, if_neg (by decide), mb1 h2, if_neg (by decide), mb0 h3, if_pos rfl]; rfl, by rfl, by rfl, by rfl⟩)
      · skip
        exact wq_of 1 0 (by unfold wf_K_coil wf_W_coil; rw [ob0 h0, if_pos rfl, ob0 h1, if_pos rfl, ob1 h2, if_neg (by decide)]; rfl) (fun x hx => wr_K_coil a b c d wc_0 x hx) (by intro k i h1 h2 h; unfold wS_K_coil at h; omega) (fun h => absurd h (by decide)) (fun ρ => ⟨_, _, by unfold wf_M_coil; rw [mb1 h0, if_neg (by decide), mb1 h1, if_neg (by decide), mb0 h2, if_pos rfl]; rfl, by rfl, by rfl, by rfl⟩)
    · skip
      exact wq_of 1 0 (by unfold wf_K_coil wf_W_coil; rw [ob0 h0, if_pos rfl, ob1 h1, if_neg (by decide)]; rfl) (fun x hx => wr_K_coil a b c d wc_0 x hx) (by intro k i h1 h2 h; unfold wS_K_coil at h; omega) (fun h => absurd h (by decide)) (fun ρ => ⟨_, _, by unfold wf_M_coil; rw [mb1 h0, if_neg (by decide), mb0 h1, if_pos rfl]; rfl, by rfl, by rfl, by rfl⟩)
  · skip
    exact wq_of 1 0 (by unfold wf_K_coil wf_W_coil; rw [ob1 h0, if_neg (by decide)]; rfl) (fun x hx => wr_K_coil a b c d wc_0 x hx) (by intro k i h1 h2 h; unfold wS_K_coil at h; omega) (fun h => absurd h (by decide)) (fun ρ => ⟨_, _, by unfold wf_M_coil; rw [mb0 h0, if_pos rfl]; rfl, by rfl, by rfl, by rfl⟩)
set_option maxRecDepth 100000 in
set_option maxHeartbeats 4000000 in
theorem fk_rules (a b c d : Int32) : wqv (wf_K_rules a b c d wc_0) (wf_M_rules a b c d) := by
  by_cases h0 : ¬ a < 0 ∧ a ≤ 9
  · skip
    by_cases h1 : ¬ b < 1 ∧ b ≤ 1000
    · skip
      by_cases h2 : ¬ c < 0 ∧ c ≤ 10000
      · skip
        by_cases h3 : ¬ d < 0 ∧ d ≤ 10000
        · skip
          exact wqv_of 0 (by unfold wf_K_rules wf_W_rules; rw [ob0 h0, if_pos rfl, ob0 h1, if_pos rfl, ob0 h2, if_pos rfl, ob0 h3, if_pos rfl]; rfl) (fun x hx => wr_K_rules a b c d wc_0 x hx) (by intro k i h1 h2 h; unfold wS_K_rules at h; omega) (fun ρ => ⟨_, by unfold wf_M_rules; rw [mb1 h0, if_neg (by decide), mb1 h1, if_neg (by decide), mb1 h2, if_neg (by decide), mb1 h3, if_neg (by decide)]; rfl, by rfl⟩)
        · skip
          exact wqv_of 1 (by unfold wf_K_rules wf_W_rules; rw [ob0 h0, if_pos rfl, ob0 h1, if_pos rfl, ob0 h2, if_pos rfl, ob1 h3, if_neg (by decide)]; rfl) (fun x hx => wr_K_rules a b c d wc_0 x hx) (by intro k i h1 h2 h; unfold wS_K_rules at h; omega) (fun ρ => ⟨_, by unfold wf_M_rules; rw [mb1 h0, if_neg (by decide), mb1 h1, if_neg (by decide), mb1 h2, if_neg (by decide), mb0 h3, if_pos rfl]; rfl, by rfl⟩)
      · skip
        exact wqv_of 1 (by unfold wf_K_rules wf_W_rules; rw [ob0 h0, if_pos rfl, ob0 h1, if_pos rfl, ob1 h2, if_neg (by decide)]; rfl) (fun x hx => wr_K_rules a b c d wc_0 x hx) (by intro k i h1 h2 h; unfold wS_K_rules at h; omega) (fun ρ => ⟨_, by unfold wf_M_rules; rw [mb1 h0, if_neg (by decide), mb1 h1, if_neg (by decide), mb0 h2, if_pos rfl]; rfl, by rfl⟩)
    · skip
      exact wqv_of 1 (by unfold wf_K_rules wf_W_rules; rw [ob0 h0, if_pos rfl, ob1 h1, if_neg (by decide)]; rfl) (fun x hx => wr_K_rules a b c d wc_0 x hx) (by intro k i h1 h2 h; unfold wS_K_rules at h; omega) (fun ρ => ⟨_, by unfold wf_M_rules; rw [mb1 h0, if_neg (by decide), mb0 h1, if_pos rfl]; rfl, by rfl⟩)
  · skip
    exact wqv_of 1 (by unfold wf_K_rules wf_W_rules; rw [ob1 h0, if_neg (by decide)]; rfl) (fun x hx => wr_K_rules a b c d wc_0 x hx) (by intro k i h1 h2 h; unfold wS_K_rules at h; omega) (fun ρ => ⟨_, by unfold wf_M_rules; rw [mb0 h0, if_pos rfl]; rfl, by rfl⟩)
set_option maxRecDepth 100000 in
set_option maxHeartbeats 4000000 in
theorem fk_group (a b c : Int32) : wq (wf_K_group a b c wc_0) (wf_M_group a b c) := by
  by_cases h0 : ¬ a < 1 ∧ a ≤ 2000
  · skip
    by_cases h1 : ¬ b < a ∧ b ≤ 2000
    · skip
      by_cases h2 : ¬ c < 1 ∧ c ≤ 1000
      · skip
        exact wq_of 0 ((0 : Int32) + 1) (by unfold wf_K_group wf_W_group; rw [ob0 h0, if_pos rfl, ob0 h1, if_pos rfl, ob0 h2, if_pos rfl]; rfl) (fun x hx => wr_K_group a b c wc_0 x hx) (by intro k i h1 h2 h; unfold wS_K_group at h; omega) (fun _ => rfl) (fun ρ => ⟨_, _, by unfold wf_M_group; rw [mb1 h0, if_neg (by decide), mb1 h1, if_neg (by decide), mb1 h2, if_neg (by decide)]; rfl, by rfl, by rfl, by rfl⟩)
      · skip
        exact wq_of 1 0 (by unfold wf_K_group wf_W_group; rw [ob0 h0, if_pos rfl, ob0 h1, if_pos rfl, ob1 h2, if_neg (by decide)]; rfl) (fun x hx => wr_K_group a b c wc_0 x hx) (by intro k i h1 h2 h; unfold wS_K_group at h; omega) (fun h => absurd h (by decide)) (fun ρ => ⟨_, _, by unfold wf_M_group; rw [mb1 h0, if_neg (by decide), mb1 h1, if_neg (by decide), mb0 h2, if_pos rfl]; rfl, by rfl, by rfl, by rfl⟩)
    · skip
      exact wq_of 1 0 (by unfold wf_K_group wf_W_group; rw [ob0 h0, if_pos rfl, ob1 h1, if_neg (by decide)]; rfl) (fun x hx => wr_K_group a b c wc_0 x hx) (by intro k i h1 h2 h; unfold wS_K_group at h; omega) (fun h => absurd h (by decide)) (fun ρ => ⟨_, _, by unfold wf_M_group; rw [mb1 h0, if_neg (by decide), mb0 h1, if_pos rfl]; rfl, by rfl, by rfl, by rfl⟩)
  · skip
    exact wq_of 1 0 (by unfold wf_K_group wf_W_group; rw [ob1 h0, if_neg (by decide)]; rfl) (fun x hx => wr_K_group a b c wc_0 x hx) (by intro k i h1 h2 h; unfold wS_K_group at h; omega) (fun h => absurd h (by decide)) (fun ρ => ⟨_, _, by unfold wf_M_group; rw [mb0 h0, if_pos rfl]; rfl, by rfl, by rfl, by rfl⟩)
set_option maxRecDepth 100000 in
set_option maxHeartbeats 4000000 in
theorem fk_table (a b c d : Int32) : wq (wf_K_table a b c d wc_0) (wf_M_table a b c d) := by
  by_cases h0 : ¬ a < 0 ∧ a ≤ 1
  · have ha : a = 0 ∨ a = 1 := by
      have h1 := h0.1; have h2 := h0.2
      rw [wn_lt] at h1; rw [wn_le] at h2
      have e0 : (0 : Int32).toInt = 0 := rfl
      have e1 : (1 : Int32).toInt = 1 := rfl
      rw [wn_eq, wn_eq]; omega
    by_cases h1 : ¬ b < 0 ∧ b ≤ 1000
    · skip
      by_cases h2 : ¬ c < b ∧ c ≤ 1000
      · skip
        by_cases h3 : ¬ d < 0 ∧ d ≤ 10000
        · skip
          rcases ha with rfl | rfl
          · exact wq_of 0 ((0 : Int32) + 1) (by unfold wf_K_table wf_W_table; rw [ob0 h0, if_pos rfl, ob0 h1, if_pos rfl, ob0 h2, if_pos rfl, ob0 h3, if_pos rfl]; rfl) (fun x hx => wr_K_table _ b c d wc_0 x hx) (by intro k i h1 h2 h; unfold wS_K_table at h; omega) (fun _ => rfl) (fun ρ => ⟨_, _, by unfold wf_M_table; rw [mb1 h0, mb1 h1, if_neg (by decide), mb1 h2, if_neg (by decide), mb1 h3, if_neg (by decide)]; rfl, by rfl, by rfl, by rfl⟩)
          · exact wq_of 0 ((0 : Int32) + 1) (by unfold wf_K_table wf_W_table; rw [ob0 h0, if_pos rfl, ob0 h1, if_pos rfl, ob0 h2, if_pos rfl, ob0 h3, if_pos rfl]; rfl) (fun x hx => wr_K_table _ b c d wc_0 x hx) (by intro k i h1 h2 h; unfold wS_K_table at h; omega) (fun _ => rfl) (fun ρ => ⟨_, _, by unfold wf_M_table; rw [mb1 h0, mb1 h1, if_neg (by decide), mb1 h2, if_neg (by decide), mb1 h3, if_neg (by decide)]; rfl, by rfl, by rfl, by rfl⟩)
        · skip
          rcases ha with rfl | rfl
          · exact wq_of 2 0 (by unfold wf_K_table wf_W_table; rw [ob0 h0, if_pos rfl, ob0 h1, if_pos rfl, ob0 h2, if_pos rfl, ob1 h3, if_neg (by decide)]; rfl) (fun x hx => wr_K_table _ b c d wc_0 x hx) (by intro k i h1 h2 h; unfold wS_K_table at h; omega) (fun h => absurd h (by decide)) (fun ρ => ⟨_, _, by unfold wf_M_table; rw [mb1 h0, mb1 h1, if_neg (by decide), mb1 h2, if_neg (by decide), mb0 h3, if_pos rfl]; rfl, by rfl, by rfl, by rfl⟩)
          · exact wq_of 2 0 (by unfold wf_K_table wf_W_table; rw [ob0 h0, if_pos rfl, ob0 h1, if_pos rfl, ob0 h2, if_pos rfl, ob1 h3, if_neg (by decide)]; rfl) (fun x hx => wr_K_table _ b c d wc_0 x hx) (by intro k i h1 h2 h; unfold wS_K_table at h; omega) (fun h => absurd h (by decide)) (fun ρ => ⟨_, _, by unfold wf_M_table; rw [mb1 h0, mb1 h1, if_neg (by decide), mb1 h2, if_neg (by decide), mb0 h3, if_pos rfl]; rfl, by rfl, by rfl, by rfl⟩)
      · skip
        rcases ha with rfl | rfl
        · exact wq_of 2 0 (by unfold wf_K_table wf_W_table; rw [ob0 h0, if_pos rfl, ob0 h1, if_pos rfl, ob1 h2, if_neg (by decide)]; rfl) (fun x hx => wr_K_table _ b c d wc_0 x hx) (by intro k i h1 h2 h; unfold wS_K_table at h; omega) (fun h => absurd h (by decide)) (fun ρ => ⟨_, _, by unfold wf_M_table; rw [mb1 h0, mb1 h1, if_neg (by decide), mb0 h2, if_pos rfl]; rfl, by rfl, by rfl, by rfl⟩)
        · exact wq_of 2 0 (by unfold wf_K_table wf_W_table; rw [ob0 h0, if_pos rfl, ob0 h1, if_pos rfl, ob1 h2, if_neg (by decide)]; rfl) (fun x hx => wr_K_table _ b c d wc_0 x hx) (by intro k i h1 h2 h; unfold wS_K_table at h; omega) (fun h => absurd h (by decide)) (fun ρ => ⟨_, _, by unfold wf_M_table; rw [mb1 h0, mb1 h1, if_neg (by decide), mb0 h2, if_pos rfl]; rfl, by rfl, by rfl, by rfl⟩)
    · skip
      rcases ha with rfl | rfl
      · exact wq_of 2 0 (by unfold wf_K_table wf_W_table; rw [ob0 h0, if_pos rfl, ob1 h1, if_neg (by decide)]; rfl) (fun x hx => wr_K_table _ b c d wc_0 x hx) (by intro k i h1 h2 h; unfold wS_K_table at h; omega) (fun h => absurd h (by decide)) (fun ρ => ⟨_, _, by unfold wf_M_table; rw [mb1 h0, mb0 h1, if_pos rfl]; rfl, by rfl, by rfl, by rfl⟩)
      · exact wq_of 2 0 (by unfold wf_K_table wf_W_table; rw [ob0 h0, if_pos rfl, ob1 h1, if_neg (by decide)]; rfl) (fun x hx => wr_K_table _ b c d wc_0 x hx) (by intro k i h1 h2 h; unfold wS_K_table at h; omega) (fun h => absurd h (by decide)) (fun ρ => ⟨_, _, by unfold wf_M_table; rw [mb1 h0, mb0 h1, if_pos rfl]; rfl, by rfl, by rfl, by rfl⟩)
  · have hb : ∀ (f : Int32 → wc_S → Option (Int32 × wc_S)), True := fun _ => trivial
    by_cases h1 : ¬ b < 0 ∧ b ≤ 1000
    · skip
      by_cases h2 : ¬ c < b ∧ c ≤ 1000
      · skip
        by_cases h3 : ¬ d < 0 ∧ d ≤ 10000
        · skip
          exact wq_of 1 0 (by unfold wf_K_table wf_W_table; rw [ob1 h0, if_neg (by decide)]; rfl) (fun x hx => wr_K_table a b c d wc_0 x hx) (by intro k i h1 h2 h; unfold wS_K_table at h; omega) (fun h => absurd h (by decide)) (fun ρ => ⟨_, _, by unfold wf_M_table; rw [mb0 h0, mb1 h1, if_neg (by decide), mb1 h2, if_neg (by decide), mb1 h3, if_neg (by decide)]; rfl, by rfl, by rfl, by rfl⟩)
        · skip
          exact wq_of 1 0 (by unfold wf_K_table wf_W_table; rw [ob1 h0, if_neg (by decide)]; rfl) (fun x hx => wr_K_table a b c d wc_0 x hx) (by intro k i h1 h2 h; unfold wS_K_table at h; omega) (fun h => absurd h (by decide)) (fun ρ => ⟨_, _, by unfold wf_M_table; rw [mb0 h0, mb1 h1, if_neg (by decide), mb1 h2, if_neg (by decide), mb0 h3, if_pos rfl]; rfl, by rfl, by rfl, by rfl⟩)
      · skip
        exact wq_of 1 0 (by unfold wf_K_table wf_W_table; rw [ob1 h0, if_neg (by decide)]; rfl) (fun x hx => wr_K_table a b c d wc_0 x hx) (by intro k i h1 h2 h; unfold wS_K_table at h; omega) (fun h => absurd h (by decide)) (fun ρ => ⟨_, _, by unfold wf_M_table; rw [mb0 h0, mb1 h1, if_neg (by decide), mb0 h2, if_pos rfl]; rfl, by rfl, by rfl, by rfl⟩)
    · skip
      exact wq_of 1 0 (by unfold wf_K_table wf_W_table; rw [ob1 h0, if_neg (by decide)]; rfl) (fun x hx => wr_K_table a b c d wc_0 x hx) (by intro k i h1 h2 h; unfold wS_K_table at h; omega) (fun h => absurd h (by decide)) (fun ρ => ⟨_, _, by unfold wf_M_table; rw [mb0 h0, mb0 h1, if_pos rfl]; rfl, by rfl, by rfl, by rfl⟩)
set_option maxRecDepth 100000 in
set_option maxHeartbeats 4000000 in
theorem fk_run (a : Int32) : wq (wf_K_run a wc_0) (wf_M_run a) := by
  by_cases h0 : ¬ a < 0 ∧ a ≤ 100000
  · exact wq_of 0 0 (by unfold wf_K_run wf_W_run; rw [ob0 h0, if_pos rfl]; rfl) (fun x hx => wr_K_run a wc_0 x hx) (by intro k i h1 h2 h; unfold wS_K_run at h; omega) (fun _ => rfl) (fun ρ => ⟨_, _, by unfold wf_M_run; rw [mb1 h0]; rfl, by rfl, by rfl, by rfl⟩)
  · exact wq_of 1 0 (by unfold wf_K_run wf_W_run; rw [ob1 h0, if_neg (by decide)]; rfl) (fun x hx => wr_K_run a wc_0 x hx) (by intro k i h1 h2 h; unfold wS_K_run at h; omega) (fun h => absurd h (by decide)) (fun ρ => ⟨_, _, by unfold wf_M_run; rw [mb0 h0]; rfl, by rfl, by rfl, by rfl⟩)
set_option maxRecDepth 100000 in
set_option maxHeartbeats 4000000 in
theorem fk_told (a : Int32) : wq (wf_K_told a wc_0) (wf_M_told a) := by
  by_cases h0 : ¬ a < 0 ∧ a ≤ 2
  · exact wq_of 2 0 (by unfold wf_K_told wf_W_told; rw [ob0 h0, if_pos rfl]; rfl) (fun x hx => wr_K_told a wc_0 x hx) (by intro k i h1 h2 h; unfold wS_K_told at h; omega) (fun h => absurd h (by decide)) (fun ρ => ⟨_, _, by unfold wf_M_told; rw [mb1 h0]; rfl, by rfl, by rfl, by rfl⟩)
  · exact wq_of 1 0 (by unfold wf_K_told wf_W_told; rw [ob1 h0, if_neg (by decide)]; rfl) (fun x hx => wr_K_told a wc_0 x hx) (by intro k i h1 h2 h; unfold wS_K_told at h; omega) (fun h => absurd h (by decide)) (fun ρ => ⟨_, _, by unfold wf_M_told; rw [mb0 h0]; rfl, by rfl, by rfl, by rfl⟩)
set_option maxRecDepth 100000 in
set_option maxHeartbeats 4000000 in
theorem fk_proved : wq (wf_K_proved wc_0) (wf_M_proved) := by
  exact wq_of 1 0 (by rfl) (fun x hx => wr_K_proved  wc_0 x hx) (by intro k i h1 h2 h; unfold wS_K_proved at h; omega) (fun h => absurd h (by decide)) (fun ρ => ⟨_, _, by rfl, by rfl, by rfl, by rfl⟩)
set_option maxRecDepth 100000 in
set_option maxHeartbeats 4000000 in
theorem fk_order (a : Int32) : wq (wf_K_order a wc_0) (wf_M_order a) := by
  exact wq_of 2 0 (by rfl) (fun x hx => wr_K_order a wc_0 x hx) (by intro k i h1 h2 h; unfold wS_K_order at h; omega) (fun h => absurd h (by decide)) (fun ρ => ⟨_, _, by rfl, by rfl, by rfl, by rfl⟩)
set_option maxRecDepth 100000 in
set_option maxHeartbeats 4000000 in
theorem fk_change (a : Int32) : wq (wf_K_change a wc_0) (wf_M_change a) := by
  exact wq_of 2 0 (by rfl) (fun x hx => wr_K_change a wc_0 x hx) (by intro k i h1 h2 h; unfold wS_K_change at h; omega) (fun h => absurd h (by decide)) (fun ρ => ⟨_, _, by rfl, by rfl, by rfl, by rfl⟩)
set_option maxRecDepth 100000 in
set_option maxHeartbeats 4000000 in
theorem fk_improve (a : Int32) : wq (wf_K_improve a wc_0) (wf_M_improve a) := by
  by_cases h0 : ¬ a < 0 ∧ a ≤ 100
  · exact wq_of 1 0 rfl (fun x hx => wr_K_improve a wc_0 x hx) (by intro k i h1 h2 h; unfold wS_K_improve at h; omega) (fun h => absurd h (by decide)) (fun ρ => ⟨_, _, by unfold wf_M_improve; unfold wc_st; dsimp only; rw [mb1 h0]; rfl, by rfl, by rfl, by rfl⟩)
  · exact wq_of 1 0 rfl (fun x hx => wr_K_improve a wc_0 x hx) (by intro k i h1 h2 h; unfold wS_K_improve at h; omega) (fun h => absurd h (by decide)) (fun ρ => ⟨_, _, by unfold wf_M_improve; unfold wc_st; dsimp only; rw [mb0 h0]; rfl, by rfl, by rfl, by rfl⟩)
