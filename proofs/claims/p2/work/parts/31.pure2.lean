/-! the class's methods come to an end, within these bounds -/
theorem wr_same {S : Nat → Nat → Prop} {σ τ : wc_S} (h : wr_q S σ τ) (hs : ∀ k i, ¬ S k i) : τ = σ := funext fun k => funext fun i => h k i (hs k i)
/-- a method that writes nothing: what comes has the same state -/
theorem wk_keep {o : Option (Int32 × wc_S)} {σ : wc_S} {P : Int32 × wc_S → Prop} (h : wk o P) (hs : ∀ res, o = some res → res.2 = σ) : wk o (fun r => P r ∧ r.2 = σ) := by
  obtain ⟨x, h1, h2⟩ := h
  exact ⟨x, h1, h2, hs x h1⟩
def wv_P (σ : wc_S) : Prop := (0 ≤ (σ 1 10).toInt ∧ (σ 1 10).toInt ≤ 9) ∧ (0 ≤ (σ 18 3).toInt ∧ (σ 18 3).toInt ≤ 8) ∧ (0 ≤ (σ 22 3).toInt ∧ (σ 22 3).toInt ≤ 8) ∧ (0 ≤ (σ 26 3).toInt ∧ (σ 26 3).toInt ≤ 4)
def wv_9 (σ : wc_S) (k : Nat) : Prop := ∀ i, i < 9 → 0 ≤ (σ k i).toInt ∧ (σ k i).toInt < 9
def wv_L (σ : wc_S) (b : Nat) : Prop := (0 ≤ (σ b 9).toInt ∧ (σ b 9).toInt ≤ 9) ∧ wv_9 σ (b + 1)
theorem wn_0 : (0 : Int32).toInt = 0 := rfl
theorem wn_1 : (1 : Int32).toInt = 1 := rfl
theorem wn_m1 : (-1 : Int32).toInt = -1 := rfl
theorem wn_9 : (9 : Int32).toInt = 9 := rfl
theorem wn_up {x : Int32} (h1 : 0 ≤ x.toInt) (h2 : x.toInt < 1000000) : (x + 1).toInt = x.toInt + 1 := by
  rw [wn_add (by rw [wn_1]; omega) (by rw [wn_1]; omega), wn_1]
theorem wn_dn {x : Int32} (h1 : 0 ≤ x.toInt) (h2 : x.toInt < 1000000) : (x - 1).toInt = x.toInt - 1 := by
  rw [wn_sub (by rw [wn_1]; omega) (by rw [wn_1]; omega), wn_1]
theorem wt_J_costOf_11 (b : Nat) (σ : wc_S) (h8 : (σ b 3).toInt ≤ 8) (x1 : Int32) : ∀ (n : Nat) (x2 : Int32), 0 ≤ x2.toInt → x2.toInt ≤ 8 → 8 < x2.toInt + n → wk (wf_J_costOf_11 b n x1 x2 σ) (fun _ => True) := by
  intro n
  induction n with
  | zero => intro x2 h1 h2 h3; omega
  | succ n ih =>
    intro x2 h1 h2 h3
    show wk (wf_J_costOf_11_b b (wf_J_costOf_11 b n) x1 x2 σ) _
    unfold wf_J_costOf_11_b
    simp only [wk_st, wk_ite, wk_gd, wk_some, wf_J_costOf_46, wn_le, wn_lt]
    refine ⟨fun _ => trivial, fun hc => ?_⟩
    have hi : wc_in x2 8 = true := wn_in h1 (by omega)
    have hn := wn_up h1 (by omega)
    have key := ih (x2 + 1) (by omega) (by omega) (by omega)
    simp only [hi, key, true_and, and_true, implies_true]
theorem wt_J_costOf (b : Nat) (σ : wc_S) (h8 : (σ b 3).toInt ≤ 8) (x1 : Int32) : wk (wf_J_costOf b x1 σ) (fun r => r.2 = σ) := by
  have h : wk (wf_J_costOf b x1 σ) (fun _ => True) := by
    unfold wf_J_costOf
    simp only [wk_st, wk_ite, wk_some]
    exact ⟨fun _ => trivial, fun _ => wt_J_costOf_11 b σ h8 x1 16 0 (by rw [wn_0]; omega) (by rw [wn_0]; omega) (by rw [wn_0]; omega)⟩
  exact wk_mono (wk_keep h (fun res hr => wr_same (wr_J_costOf b x1 σ res hr) (fun _ _ h => h))) (fun _ q => q.2)
theorem wt_P_reckonJump (σ : wc_S) (hP : wv_P σ) (a1 a2 : Int32) (h1 : 0 ≤ a1.toInt ∧ a1.toInt < 9) (h2 : 0 ≤ a2.toInt ∧ a2.toInt < 9) : wk (wf_P_reckonJump a1 a2 σ) (fun r => r.2 = σ) := by
  obtain ⟨-, hh, ht, -⟩ := hP
  have i1 : wc_in a1 9 = true := wn_in h1.1 h1.2
  have i2 : wc_in a2 9 = true := wn_in h2.1 h2.2
  have h : wk (wf_P_reckonJump a1 a2 σ) (fun _ => True) := by
    unfold wf_P_reckonJump
    simp only [wk_st, wk_gd, i1, i2, true_and]
    refine wk_b2 (wt_J_costOf 18 σ hh.2 _) (fun r u hu => ?_)
    have hu : u = σ := hu
    subst hu
    simp only [wk_st, wk_gd, true_and]
    refine wk_b2 (wt_J_costOf 22 u ht.2 _) (fun r2 u2 hu2 => ?_)
    simp only [wk_st, wk_ite, wk_some, implies_true, and_self]
  exact wk_mono (wk_keep h (fun res hr => wr_same (wr_P_reckonJump a1 a2 σ res hr) (fun _ _ h => h))) (fun _ q => q.2)
