theorem wr_f {α : Type} {g : α → wc_S} {S : Nat → Nat → Prop} {σ : wc_S} {x res : α} (hf : some x = some res) (hm : wr_q S σ (g x)) : wr_q S σ (g res) := by
  rw [← Option.some.inj hf]; exact hm
def wS_J_addRow (b : Nat) (k i : Nat) : Prop := k = b + 1 ∨ k = b + 2 ∨ k = b + 3 ∨ (k = b ∧ i = 3)
def wS_J_costOf (b : Nat) (k i : Nat) : Prop := False
def wS_G_addGroup (k i : Nat) : Prop := (k = 26 ∧ i = 3) ∨ k = 27 ∨ k = 28 ∨ k = 29
def wS_P_reckonJump (k i : Nat) : Prop := False
def wS_P_reckonJumps (k i : Nat) : Prop := (9 ≤ k ∧ k ≤ 17)
def wS_P_addCoil (k i : Nat) : Prop := (k = 1 ∧ i = 10) ∨ k = 2 ∨ k = 3 ∨ k = 4 ∨ k = 5 ∨ k = 6 ∨ k = 7 ∨ (9 ≤ k ∧ k ≤ 17)
def wS_P_leastJumpTo (k i : Nat) : Prop := False
def wS_P_kilometresInGroup (k i : Nat) : Prop := False
def wS_L_penaltySoFar (b : Nat) (k i : Nat) : Prop := False
def wS_L_changesSoFar (b : Nat) (k i : Nat) : Prop := False
def wS_L_movedSoFar (b : Nat) (k i : Nat) : Prop := False
def wS_L_clear (b : Nat) (k i : Nat) : Prop := k = b + 2 ∨ (k = b ∧ i = 9)
def wS_L_mayFollow (b : Nat) (k i : Nat) : Prop := False
def wS_L_mayPut (b : Nat) (k i : Nat) : Prop := False
def wS_L_isWornWith (b : Nat) (k i : Nat) : Prop := False
def wS_L_countKilometres (b : Nat) (k i : Nat) : Prop := k = b + 7 ∨ (b + 9 ≤ k ∧ k ≤ b + 18)
def wS_L_countCosts (b : Nat) (k i : Nat) : Prop := k = b + 4 ∨ k = b + 5 ∨ k = b + 6
def wS_L_put (b : Nat) (k i : Nat) : Prop := k = b + 1 ∨ k = b + 2 ∨ k = b + 3 ∨ k = b + 4 ∨ k = b + 5 ∨ k = b + 6 ∨ k = b + 7 ∨ (k = b ∧ i = 9) ∨ (b + 9 ≤ k ∧ k ≤ b + 18)
def wS_L_takeBack (b : Nat) (k i : Nat) : Prop := k = b + 2 ∨ (k = b ∧ i = 9)
def wS_L_layAll (b : Nat) (k i : Nat) : Prop := k = b + 1 ∨ k = b + 2 ∨ k = b + 3 ∨ k = b + 4 ∨ k = b + 5 ∨ k = b + 6 ∨ k = b + 7 ∨ (k = b ∧ i = 9) ∨ (b + 9 ≤ k ∧ k ≤ b + 18)
def wS_S_keepBest (k i : Nat) : Prop := k = 68 ∨ k = 69
def wS_S_putAndGoOn (k i : Nat) : Prop := (30 ≤ k ∧ k ≤ 48) ∨ k = 68 ∨ k = 69
def wS_S_goOnAt (k i : Nat) : Prop := (30 ≤ k ∧ k ≤ 48) ∨ k = 68 ∨ k = 69
def wS_S_searchWith (k i : Nat) : Prop := (30 ≤ k ∧ k ≤ 48) ∨ k = 68 ∨ k = 69
def wS_W_isOutside (k i : Nat) : Prop := False
def wS_W_isNoCoil (k i : Nat) : Prop := False
def wS_W_forgetOrder (k i : Nat) : Prop := (k = 0 ∧ i = 5) ∨ (k = 0 ∧ i = 6)
def wS_W_requireOrder (k i : Nat) : Prop := False
def wS_W_requirePlace (k i : Nat) : Prop := False
def wS_W_readIntoScratch (k i : Nat) : Prop := k = 70
def wS_W_takePairIfBetter (k i : Nat) : Prop := (30 ≤ k ∧ k ≤ 67) ∨ k = 70
def wS_W_takeFirstBetterPair (k i : Nat) : Prop := (30 ≤ k ∧ k ≤ 67) ∨ k = 70
def wS_W_coil (k i : Nat) : Prop := (k = 0 ∧ i = 5) ∨ (k = 0 ∧ i = 6) ∨ (k = 1 ∧ i = 10) ∨ (2 ≤ k ∧ k ≤ 17)
def wS_W_table (k i : Nat) : Prop := (k = 0 ∧ i = 5) ∨ (k = 0 ∧ i = 6) ∨ (18 ≤ k ∧ k ≤ 25) ∨ (2 ≤ k ∧ k ≤ 17)
def wS_W_group (k i : Nat) : Prop := (k = 0 ∧ i = 5) ∨ (k = 0 ∧ i = 6) ∨ (26 ≤ k ∧ k ≤ 29)
def wS_W_urgent (k i : Nat) : Prop := (k = 0 ∧ i = 5) ∨ (k = 0 ∧ i = 6) ∨ k = 6
def wS_W_old (k i : Nat) : Prop := (k = 0 ∧ i = 5) ∨ (k = 0 ∧ i = 6) ∨ k = 7
def wS_W_rules (k i : Nat) : Prop := (k = 0 ∧ i = 5) ∨ (k = 0 ∧ i = 6) ∨ (k = 1 ∧ i = 11) ∨ (k = 1 ∧ i = 12) ∨ (k = 1 ∧ i = 13) ∨ (k = 1 ∧ i = 14)
def wS_W_run (k i : Nat) : Prop := (k = 0 ∧ i = 5) ∨ (k = 0 ∧ i = 6) ∨ (30 ≤ k ∧ k ≤ 67) ∨ k = 68 ∨ k = 69
def wS_W_proved (k i : Nat) : Prop := False
def wS_W_order (k i : Nat) : Prop := False
def wS_W_told (k i : Nat) : Prop := False
def wS_W_change (k i : Nat) : Prop := False
def wS_W_jump (k i : Nat) : Prop := False
def wS_W_bound (k i : Nat) : Prop := False
def wS_W_tell (k i : Nat) : Prop := (k = 0 ∧ i = 5) ∨ (30 ≤ k ∧ k ≤ 67) ∨ k = 70
def wS_W_improve (k i : Nat) : Prop := (30 ≤ k ∧ k ≤ 67) ∨ k = 70
def wS_M_thrown (k i : Nat) : Prop := False
def wS_M_in (k i : Nat) : Prop := False
def wS_M_goes (k i : Nat) : Prop := (k = 71 ∧ i = 0)
def wS_M_gone (k i : Nat) : Prop := (k = 71 ∧ i = 20) ∨ (k = 71 ∧ i = 22)
def wS_M_isCoil (k i : Nat) : Prop := False
def wS_M_coil (k i : Nat) : Prop := (k = 71 ∧ i = 0) ∨ (k = 71 ∧ i = 1) ∨ (k = 71 ∧ i = 20) ∨ (k = 71 ∧ i = 22) ∨ k = 72 ∨ k = 73 ∨ k = 74 ∨ k = 75 ∨ k = 76 ∨ k = 77
def wS_M_table (k i : Nat) : Prop := (k = 71 ∧ i = 0) ∨ (k = 71 ∧ i = 20) ∨ (k = 71 ∧ i = 22) ∨ k = 78 ∨ k = 79 ∨ k = 80 ∨ k = 81
def wS_M_group (k i : Nat) : Prop := (k = 71 ∧ i = 0) ∨ (k = 71 ∧ i = 12) ∨ (k = 71 ∧ i = 20) ∨ (k = 71 ∧ i = 22) ∨ k = 82 ∨ k = 83 ∨ k = 84
def wS_M_urgent (k i : Nat) : Prop := (k = 71 ∧ i = 0) ∨ (k = 71 ∧ i = 20) ∨ (k = 71 ∧ i = 22) ∨ k = 76
def wS_M_old (k i : Nat) : Prop := (k = 71 ∧ i = 0) ∨ (k = 71 ∧ i = 20) ∨ (k = 71 ∧ i = 22) ∨ k = 77
def wS_M_rules (k i : Nat) : Prop := (k = 71 ∧ i = 0) ∨ (k = 71 ∧ i = 16) ∨ (k = 71 ∧ i = 17) ∨ (k = 71 ∧ i = 18) ∨ (k = 71 ∧ i = 19) ∨ (k = 71 ∧ i = 20) ∨ (k = 71 ∧ i = 22)
def wS_M_costOf (k i : Nat) : Prop := False
def wS_M_jumpOf (k i : Nat) : Prop := False
def wS_M_mayBe (k i : Nat) : Prop := False
def wS_M_isWorn (k i : Nat) : Prop := False
def wS_M_reckon (k i : Nat) : Prop := (k = 71 ∧ i = 25) ∨ (k = 71 ∧ i = 26) ∨ (k = 71 ∧ i = 27) ∨ k = 87
def wS_M_stands (k i : Nat) : Prop := False
def wS_M_run (k i : Nat) : Prop := (k = 71 ∧ i = 0) ∨ (k = 71 ∧ i = 20) ∨ (k = 71 ∧ i = 21) ∨ (k = 71 ∧ i = 22) ∨ (k = 71 ∧ i = 25) ∨ (k = 71 ∧ i = 26) ∨ (k = 71 ∧ i = 27) ∨ k = 85 ∨ k = 86 ∨ k = 87
def wS_M_proved (k i : Nat) : Prop := (k = 71 ∧ i = 0)
def wS_M_order (k i : Nat) : Prop := (k = 71 ∧ i = 0)
def wS_M_told (k i : Nat) : Prop := (k = 71 ∧ i = 0) ∨ (k = 71 ∧ i = 25) ∨ (k = 71 ∧ i = 26) ∨ (k = 71 ∧ i = 27) ∨ k = 87
def wS_M_change (k i : Nat) : Prop := (k = 71 ∧ i = 0) ∨ (k = 71 ∧ i = 25) ∨ (k = 71 ∧ i = 26) ∨ (k = 71 ∧ i = 27) ∨ k = 87
def wS_M_jump (k i : Nat) : Prop := (k = 71 ∧ i = 0)
def wS_M_bound (k i : Nat) : Prop := (k = 71 ∧ i = 0)
def wS_M_isGood (k i : Nat) : Prop := False
def wS_M_tell (k i : Nat) : Prop := (k = 71 ∧ i = 0) ∨ (k = 71 ∧ i = 22) ∨ k = 85 ∨ k = 86
def wS_M_swaps (k i : Nat) : Prop := (k = 71 ∧ i = 25) ∨ (k = 71 ∧ i = 26) ∨ (k = 71 ∧ i = 27) ∨ k = 85 ∨ k = 86 ∨ k = 87
def wS_M_better (k i : Nat) : Prop := (k = 71 ∧ i = 25) ∨ (k = 71 ∧ i = 26) ∨ (k = 71 ∧ i = 27) ∨ k = 85 ∨ k = 86 ∨ k = 87
def wS_M_improve (k i : Nat) : Prop := (k = 71 ∧ i = 0) ∨ (k = 71 ∧ i = 25) ∨ (k = 71 ∧ i = 26) ∨ (k = 71 ∧ i = 27) ∨ k = 85 ∨ k = 86 ∨ k = 87
def wS_K_coil (k i : Nat) : Prop := (k = 0 ∧ i = 5) ∨ (k = 0 ∧ i = 6) ∨ (k = 1 ∧ i = 10) ∨ (2 ≤ k ∧ k ≤ 17) ∨ k = 88
def wS_K_table (k i : Nat) : Prop := (k = 0 ∧ i = 5) ∨ (k = 0 ∧ i = 6) ∨ (18 ≤ k ∧ k ≤ 25) ∨ (2 ≤ k ∧ k ≤ 17) ∨ k = 88
def wS_K_group (k i : Nat) : Prop := (k = 0 ∧ i = 5) ∨ (k = 0 ∧ i = 6) ∨ (26 ≤ k ∧ k ≤ 29) ∨ k = 88
def wS_K_urgent (k i : Nat) : Prop := (k = 0 ∧ i = 5) ∨ (k = 0 ∧ i = 6) ∨ k = 6
def wS_K_old (k i : Nat) : Prop := (k = 0 ∧ i = 5) ∨ (k = 0 ∧ i = 6) ∨ k = 7
def wS_K_rules (k i : Nat) : Prop := (k = 0 ∧ i = 5) ∨ (k = 0 ∧ i = 6) ∨ (k = 1 ∧ i = 11) ∨ (k = 1 ∧ i = 12) ∨ (k = 1 ∧ i = 13) ∨ (k = 1 ∧ i = 14)
def wS_K_run (k i : Nat) : Prop := (k = 0 ∧ i = 5) ∨ (k = 0 ∧ i = 6) ∨ (30 ≤ k ∧ k ≤ 67) ∨ k = 68 ∨ k = 69 ∨ k = 88
def wS_K_proved (k i : Nat) : Prop := k = 88
def wS_K_order (k i : Nat) : Prop := k = 88
def wS_K_told (k i : Nat) : Prop := k = 88
def wS_K_change (k i : Nat) : Prop := k = 88
def wS_K_jump (k i : Nat) : Prop := k = 88
def wS_K_tell (k i : Nat) : Prop := (k = 0 ∧ i = 5) ∨ (30 ≤ k ∧ k ≤ 67) ∨ k = 70
def wS_K_improve (k i : Nat) : Prop := (30 ≤ k ∧ k ≤ 67) ∨ k = 70 ∨ k = 88
theorem wr_J_addRow (b : Nat) (a1 : Int32) (a2 : Int32) (a3 : Int32) (σ : wc_S) (res : wc_S) (hf : wf_J_addRow b a1 a2 a3 σ = some res) : wr_q (wS_J_addRow b) σ res := by
  have hm : wr_q (wS_J_addRow b) σ σ := wr_0
  unfold wf_J_addRow at hf
  obtain ⟨v1, ev1, hf⟩ := wc_st_n hf
  obtain ⟨h2, hf⟩ := wc_gd_e hf
  obtain ⟨σ3, eσ3, hf⟩ := wc_st_n hf
  have hm := wr_u hm eσ3 (by unfold wS_J_addRow; omega)
  obtain ⟨v4, ev4, hf⟩ := wc_st_n hf
  obtain ⟨h5, hf⟩ := wc_gd_e hf
  obtain ⟨σ6, eσ6, hf⟩ := wc_st_n hf
  have hm := wr_u hm eσ6 (by unfold wS_J_addRow; omega)
  obtain ⟨v7, ev7, hf⟩ := wc_st_n hf
  obtain ⟨h8, hf⟩ := wc_gd_e hf
  obtain ⟨σ9, eσ9, hf⟩ := wc_st_n hf
  have hm := wr_u hm eσ9 (by unfold wS_J_addRow; omega)
  obtain ⟨v10, ev10, hf⟩ := wc_st_n hf
  obtain ⟨v11, ev11, hf⟩ := wc_st_n hf
  obtain ⟨σ12, eσ12, hf⟩ := wc_st_n hf
  have hm := wr_u hm eσ12 (by unfold wS_J_addRow; omega)
  exact wr_f (g := fun r => r) hf hm
theorem wr_J_costOf (b : Nat) (a1 : Int32) (σ : wc_S) (res : Int32 × wc_S) (hf : wf_J_costOf b a1 σ = some res) : wr_q (wS_J_costOf b) σ res.2 := by
  have J46 : ∀ (k11 : Int32 → Int32 → wc_S → Option (Int32 × wc_S)) (hk11 : (∀ (x1 : Int32) (x2 : Int32) (σ : wc_S), k11 x1 x2 σ = some res → wr_q (wS_J_costOf b) σ res.2)) (x1 : Int32) (x2 : Int32) (σ : wc_S), wf_J_costOf_46 b k11 x1 x2 σ = some res → wr_q (wS_J_costOf b) σ res.2 := by
    intro k11 hk11 x1 x2 σ hf
    have hm : wr_q (wS_J_costOf b) σ σ := wr_0
    unfold wf_J_costOf_46 at hf
    obtain ⟨v8, ev8, hf⟩ := wc_st_n hf
    exact wr_j hm (hk11 x1 v8 σ hf)
  have J11 : ∀ (n : Nat) (x1 : Int32) (x2 : Int32) (σ : wc_S), wf_J_costOf_11 b n x1 x2 σ = some res → wr_q (wS_J_costOf b) σ res.2 := by
    intro  n
    induction n with
    | zero => intro x1 x2 σ hf; exact absurd hf (by intro h9; cases h9)
    | succ n hk11 =>
      intro x1 x2 σ hf
      have hm : wr_q (wS_J_costOf b) σ σ := wr_0
      have hf : wf_J_costOf_11_b b (wf_J_costOf_11 b n) x1 x2 σ = some res := hf
      unfold wf_J_costOf_11_b at hf
      obtain ⟨v3, ev3, hf⟩ := wc_st_n hf
      by_cases c4 : v3 ≤ x2
      · have hf := wc_t c4 hf
        exact wr_f (g := fun r => r.2) hf hm
      · have hf := wc_f c4 hf
        obtain ⟨h5, hf⟩ := wc_gd_e hf
        obtain ⟨v6, ev6, hf⟩ := wc_st_n hf
        by_cases c7 : x1 < v6
        · have hf := wc_t c7 hf
          exact wr_j hm (J46 (wf_J_costOf_11 b n) hk11 x1 x2 σ hf)
        · have hf := wc_f c7 hf
          obtain ⟨h9, hf⟩ := wc_gd_e hf
          obtain ⟨v10, ev10, hf⟩ := wc_st_n hf
          by_cases c11 : v10 < x1
          · have hf := wc_t c11 hf
            exact wr_j hm (J46 (wf_J_costOf_11 b n) hk11 x1 x2 σ hf)
          · have hf := wc_f c11 hf
            obtain ⟨h12, hf⟩ := wc_gd_e hf
            obtain ⟨v13, ev13, hf⟩ := wc_st_n hf
            exact wr_f (g := fun r => r.2) hf hm
  have hm : wr_q (wS_J_costOf b) σ σ := wr_0
  unfold wf_J_costOf at hf
  obtain ⟨v1, ev1, hf⟩ := wc_st_n hf
  by_cases c2 : v1 = 0
  · have hf := wc_t c2 hf
    exact wr_f (g := fun r => r.2) hf hm
  · have hf := wc_f c2 hf
    exact wr_j hm (J11 16 a1 0 σ hf)
theorem wr_G_addGroup (a1 : Int32) (a2 : Int32) (a3 : Int32) (σ : wc_S) (res : wc_S) (hf : wf_G_addGroup a1 a2 a3 σ = some res) : wr_q (wS_G_addGroup) σ res := by
  have hm : wr_q (wS_G_addGroup) σ σ := wr_0
  unfold wf_G_addGroup at hf
  obtain ⟨v1, ev1, hf⟩ := wc_st_n hf
  obtain ⟨h2, hf⟩ := wc_gd_e hf
  obtain ⟨σ3, eσ3, hf⟩ := wc_st_n hf
  have hm := wr_u hm eσ3 (by unfold wS_G_addGroup; omega)
  obtain ⟨v4, ev4, hf⟩ := wc_st_n hf
  obtain ⟨h5, hf⟩ := wc_gd_e hf
  obtain ⟨σ6, eσ6, hf⟩ := wc_st_n hf
  have hm := wr_u hm eσ6 (by unfold wS_G_addGroup; omega)
  obtain ⟨v7, ev7, hf⟩ := wc_st_n hf
  obtain ⟨h8, hf⟩ := wc_gd_e hf
  obtain ⟨σ9, eσ9, hf⟩ := wc_st_n hf
  have hm := wr_u hm eσ9 (by unfold wS_G_addGroup; omega)
  obtain ⟨v10, ev10, hf⟩ := wc_st_n hf
  obtain ⟨v11, ev11, hf⟩ := wc_st_n hf
  obtain ⟨σ12, eσ12, hf⟩ := wc_st_n hf
  have hm := wr_u hm eσ12 (by unfold wS_G_addGroup; omega)
  exact wr_f (g := fun r => r) hf hm
theorem wr_P_reckonJump (a1 : Int32) (a2 : Int32) (σ : wc_S) (res : Int32 × wc_S) (hf : wf_P_reckonJump a1 a2 σ = some res) : wr_q (wS_P_reckonJump) σ res.2 := by
  have hm : wr_q (wS_P_reckonJump) σ σ := wr_0
  unfold wf_P_reckonJump at hf
  obtain ⟨h1, hf⟩ := wc_gd_e hf
  obtain ⟨v2, ev2, hf⟩ := wc_st_n hf
  obtain ⟨h3, hf⟩ := wc_gd_e hf
  obtain ⟨v4, ev4, hf⟩ := wc_st_n hf
  obtain ⟨v5, ev5, hf⟩ := wc_st_n hf
  obtain ⟨v6, ev6, hf⟩ := wc_st_n hf
  obtain ⟨r8, σ7, hq, hf⟩ := wc_b2_e hf
  have hm := wr_x hm (wr_J_costOf _ _ _ _ hq) (fun _ _ h => False.elim h)
  obtain ⟨h9, hf⟩ := wc_gd_e hf
  obtain ⟨v10, ev10, hf⟩ := wc_st_n hf
  obtain ⟨h11, hf⟩ := wc_gd_e hf
  obtain ⟨v12, ev12, hf⟩ := wc_st_n hf
  obtain ⟨v13, ev13, hf⟩ := wc_st_n hf
  obtain ⟨v14, ev14, hf⟩ := wc_st_n hf
  obtain ⟨r16, σ15, hq, hf⟩ := wc_b2_e hf
  have hm := wr_x hm (wr_J_costOf _ _ _ _ hq) (fun _ _ h => False.elim h)
  by_cases c17 : r8 = (-1)
  · have hf := wc_t c17 hf
    exact wr_f (g := fun r => r.2) hf hm
  · have hf := wc_f c17 hf
    by_cases c18 : r16 = (-1)
    · have hf := wc_t c18 hf
      exact wr_f (g := fun r => r.2) hf hm
    · have hf := wc_f c18 hf
      obtain ⟨v19, ev19, hf⟩ := wc_st_n hf
      exact wr_f (g := fun r => r.2) hf hm
theorem wr_P_reckonJumps (σ : wc_S) (res : wc_S) (hf : wf_P_reckonJumps  σ = some res) : wr_q (wS_P_reckonJumps) σ res := by
  have J12 : ∀ (k2 : Int32 → wc_S → Option wc_S) (hk2 : (∀ (x1 : Int32) (σ : wc_S), k2 x1 σ = some res → wr_q (wS_P_reckonJumps) σ res)) (n : Nat) (x1 : Int32) (x2 : Int32) (σ : wc_S), wf_P_reckonJumps_12 k2 n x1 x2 σ = some res → wr_q (wS_P_reckonJumps) σ res := by
    intro k2 hk2 n
    induction n with
    | zero => intro x1 x2 σ hf; exact absurd hf (by intro h9; cases h9)
    | succ n hk12 =>
      intro x1 x2 σ hf
      have hm : wr_q (wS_P_reckonJumps) σ σ := wr_0
      have hf : wf_P_reckonJumps_12_b k2 (wf_P_reckonJumps_12 k2 n) x1 x2 σ = some res := hf
      unfold wf_P_reckonJumps_12_b at hf
      obtain ⟨v3, ev3, hf⟩ := wc_st_n hf
      by_cases c4 : v3 ≤ x2
      · have hf := wc_t c4 hf
        obtain ⟨v5, ev5, hf⟩ := wc_st_n hf
        exact wr_j hm (hk2 v5 σ hf)
      · have hf := wc_f c4 hf
        obtain ⟨h6, hf⟩ := wc_gd_e hf
        obtain ⟨r8, σ7, hq, hf⟩ := wc_b2_e hf
        have hm := wr_x hm (wr_P_reckonJump _ _ _ _ hq) (fun _ _ h => False.elim h)
        obtain ⟨h9, hf⟩ := wc_gd_e hf
        obtain ⟨σ10, eσ10, hf⟩ := wc_st_n hf
        have hLσ10 := wc_in_lt h6
        have hm := wr_u hm eσ10 (by unfold wS_P_reckonJumps; omega)
        obtain ⟨v11, ev11, hf⟩ := wc_st_n hf
        exact wr_j hm (hk12 x1 v11 σ10 hf)
  have J2 : ∀ (n : Nat) (x1 : Int32) (σ : wc_S), wf_P_reckonJumps_2 n x1 σ = some res → wr_q (wS_P_reckonJumps) σ res := by
    intro  n
    induction n with
    | zero => intro x1 σ hf; exact absurd hf (by intro h9; cases h9)
    | succ n hk2 =>
      intro x1 σ hf
      have hm : wr_q (wS_P_reckonJumps) σ σ := wr_0
      have hf : wf_P_reckonJumps_2_b (wf_P_reckonJumps_2 n) x1 σ = some res := hf
      unfold wf_P_reckonJumps_2_b at hf
      obtain ⟨v1, ev1, hf⟩ := wc_st_n hf
      by_cases c2 : v1 ≤ x1
      · have hf := wc_t c2 hf
        exact wr_f (g := fun r => r) hf hm
      · have hf := wc_f c2 hf
        exact wr_j hm (J12 (wf_P_reckonJumps_2 n) hk2 16 x1 0 σ hf)
  have hm : wr_q (wS_P_reckonJumps) σ σ := wr_0
  unfold wf_P_reckonJumps at hf
  exact wr_j hm (J2 16 0 σ hf)
theorem wr_P_addCoil (a1 : Int32) (a2 : Int32) (a3 : Int32) (a4 : Int32) (σ : wc_S) (res : Int32 × wc_S) (hf : wf_P_addCoil a1 a2 a3 a4 σ = some res) : wr_q (wS_P_addCoil) σ res.2 := by
  have hm : wr_q (wS_P_addCoil) σ σ := wr_0
  unfold wf_P_addCoil at hf
  obtain ⟨v1, ev1, hf⟩ := wc_st_n hf
  obtain ⟨h2, hf⟩ := wc_gd_e hf
  obtain ⟨σ3, eσ3, hf⟩ := wc_st_n hf
  have hm := wr_u hm eσ3 (by unfold wS_P_addCoil; omega)
  obtain ⟨h4, hf⟩ := wc_gd_e hf
  obtain ⟨σ5, eσ5, hf⟩ := wc_st_n hf
  have hm := wr_u hm eσ5 (by unfold wS_P_addCoil; omega)
  obtain ⟨h6, hf⟩ := wc_gd_e hf
  obtain ⟨σ7, eσ7, hf⟩ := wc_st_n hf
  have hm := wr_u hm eσ7 (by unfold wS_P_addCoil; omega)
  obtain ⟨h8, hf⟩ := wc_gd_e hf
  obtain ⟨σ9, eσ9, hf⟩ := wc_st_n hf
  have hm := wr_u hm eσ9 (by unfold wS_P_addCoil; omega)
  obtain ⟨h10, hf⟩ := wc_gd_e hf
  obtain ⟨σ11, eσ11, hf⟩ := wc_st_n hf
  have hm := wr_u hm eσ11 (by unfold wS_P_addCoil; omega)
  obtain ⟨h12, hf⟩ := wc_gd_e hf
  obtain ⟨σ13, eσ13, hf⟩ := wc_st_n hf
  have hm := wr_u hm eσ13 (by unfold wS_P_addCoil; omega)
  obtain ⟨v14, ev14, hf⟩ := wc_st_n hf
  obtain ⟨v15, ev15, hf⟩ := wc_st_n hf
  obtain ⟨σ16, eσ16, hf⟩ := wc_st_n hf
  have hm := wr_u hm eσ16 (by unfold wS_P_addCoil; omega)
  obtain ⟨σ17, hq, hf⟩ := wc_b1_e hf
  have hm := wr_x hm (wr_P_reckonJumps  _ _ hq) (by intro k i h; unfold wS_P_reckonJumps at h; unfold wS_P_addCoil; omega)
  exact wr_f (g := fun r => r.2) hf hm
theorem wr_P_leastJumpTo (a1 : Int32) (σ : wc_S) (res : Int32 × wc_S) (hf : wf_P_leastJumpTo a1 σ = some res) : wr_q (wS_P_leastJumpTo) σ res.2 := by
  have J47 : ∀ (k4 : Int32 → Int32 → Int32 → wc_S → Option (Int32 × wc_S)) (hk4 : (∀ (x1 : Int32) (x2 : Int32) (x3 : Int32) (σ : wc_S), k4 x1 x2 x3 σ = some res → wr_q (wS_P_leastJumpTo) σ res.2)) (x1 : Int32) (x2 : Int32) (x3 : Int32) (σ : wc_S), wf_P_leastJumpTo_47 k4 x1 x2 x3 σ = some res → wr_q (wS_P_leastJumpTo) σ res.2 := by
    intro k4 hk4 x1 x2 x3 σ hf
    have hm : wr_q (wS_P_leastJumpTo) σ σ := wr_0
    unfold wf_P_leastJumpTo_47 at hf
    obtain ⟨v8, ev8, hf⟩ := wc_st_n hf
    exact wr_j hm (hk4 x1 x2 v8 σ hf)
  have J44 : ∀ (k4 : Int32 → Int32 → Int32 → wc_S → Option (Int32 × wc_S)) (hk4 : (∀ (x1 : Int32) (x2 : Int32) (x3 : Int32) (σ : wc_S), k4 x1 x2 x3 σ = some res → wr_q (wS_P_leastJumpTo) σ res.2)) (x1 : Int32) (x3 : Int32) (x4 : Int32) (σ : wc_S), wf_P_leastJumpTo_44 k4 x1 x3 x4 σ = some res → wr_q (wS_P_leastJumpTo) σ res.2 := by
    intro k4 hk4 x1 x3 x4 σ hf
    have hm : wr_q (wS_P_leastJumpTo) σ σ := wr_0
    unfold wf_P_leastJumpTo_44 at hf
    exact wr_j hm (J47 k4 hk4 x1 x4 x3 σ hf)
  have J4 : ∀ (n : Nat) (x1 : Int32) (x2 : Int32) (x3 : Int32) (σ : wc_S), wf_P_leastJumpTo_4 n x1 x2 x3 σ = some res → wr_q (wS_P_leastJumpTo) σ res.2 := by
    intro  n
    induction n with
    | zero => intro x1 x2 x3 σ hf; exact absurd hf (by intro h9; cases h9)
    | succ n hk4 =>
      intro x1 x2 x3 σ hf
      have hm : wr_q (wS_P_leastJumpTo) σ σ := wr_0
      have hf : wf_P_leastJumpTo_4_b (wf_P_leastJumpTo_4 n) x1 x2 x3 σ = some res := hf
      unfold wf_P_leastJumpTo_4_b at hf
      obtain ⟨v1, ev1, hf⟩ := wc_st_n hf
      by_cases c2 : v1 ≤ x3
      · have hf := wc_t c2 hf
        by_cases c3 : x2 = (-1)
        · have hf := wc_t c3 hf
          exact wr_f (g := fun r => r.2) hf hm
        · have hf := wc_f c3 hf
          exact wr_f (g := fun r => r.2) hf hm
      · have hf := wc_f c2 hf
        obtain ⟨h4, hf⟩ := wc_gd_e hf
        obtain ⟨h5, hf⟩ := wc_gd_e hf
        obtain ⟨v6, ev6, hf⟩ := wc_st_n hf
        by_cases c7 : x3 = x1
        · have hf := wc_t c7 hf
          exact wr_j hm (J47 (wf_P_leastJumpTo_4 n) hk4 x1 x2 x3 σ hf)
        · have hf := wc_f c7 hf
          by_cases c9 : v6 = (-1)
          · have hf := wc_t c9 hf
            exact wr_j hm (J47 (wf_P_leastJumpTo_4 n) hk4 x1 x2 x3 σ hf)
          · have hf := wc_f c9 hf
            by_cases c10 : x2 = (-1)
            · have hf := wc_t c10 hf
              exact wr_j hm (J44 (wf_P_leastJumpTo_4 n) hk4 x1 x3 v6 σ hf)
            · have hf := wc_f c10 hf
              by_cases c11 : x2 ≤ v6
              · have hf := wc_t c11 hf
                exact wr_j hm (J47 (wf_P_leastJumpTo_4 n) hk4 x1 x2 x3 σ hf)
              · have hf := wc_f c11 hf
                exact wr_j hm (J44 (wf_P_leastJumpTo_4 n) hk4 x1 x3 v6 σ hf)
  have hm : wr_q (wS_P_leastJumpTo) σ σ := wr_0
  unfold wf_P_leastJumpTo at hf
  exact wr_j hm (J4 16 a1 (-1) 0 σ hf)
theorem wr_P_kilometresInGroup (a1 : Int32) (a2 : Int32) (σ : wc_S) (res : Int32 × wc_S) (hf : wf_P_kilometresInGroup a1 a2 σ = some res) : wr_q (wS_P_kilometresInGroup) σ res.2 := by
  have J41 : ∀ (x2 : Int32) (s0 : Int32) (σ : wc_S), wf_P_kilometresInGroup_41 x2 s0 σ = some res → wr_q (wS_P_kilometresInGroup) σ res.2 := by
    intro  x2 s0 σ hf
    have hm : wr_q (wS_P_kilometresInGroup) σ σ := wr_0
    unfold wf_P_kilometresInGroup_41 at hf
    by_cases c6 : s0 = 0
    · have hf := wc_t c6 hf
      exact wr_f (g := fun r => r.2) hf hm
    · have hf := wc_f c6 hf
      obtain ⟨h7, hf⟩ := wc_gd_e hf
      obtain ⟨v8, ev8, hf⟩ := wc_st_n hf
      exact wr_f (g := fun r => r.2) hf hm
  have J40 : ∀ (x2 : Int32) (σ : wc_S), wf_P_kilometresInGroup_40 x2 σ = some res → wr_q (wS_P_kilometresInGroup) σ res.2 := by
    intro  x2 σ hf
    have hm : wr_q (wS_P_kilometresInGroup) σ σ := wr_0
    unfold wf_P_kilometresInGroup_40 at hf
    exact wr_j hm (J41 x2 0 σ hf)
  have hm : wr_q (wS_P_kilometresInGroup) σ σ := wr_0
  unfold wf_P_kilometresInGroup at hf
  obtain ⟨h1, hf⟩ := wc_gd_e hf
  obtain ⟨v2, ev2, hf⟩ := wc_st_n hf
  obtain ⟨h3, hf⟩ := wc_gd_e hf
  obtain ⟨v4, ev4, hf⟩ := wc_st_n hf
  by_cases c5 : v4 < v2
  · have hf := wc_t c5 hf
    exact wr_j hm (J40 a2 σ hf)
  · have hf := wc_f c5 hf
    obtain ⟨h9, hf⟩ := wc_gd_e hf
    obtain ⟨v10, ev10, hf⟩ := wc_st_n hf
    obtain ⟨h11, hf⟩ := wc_gd_e hf
    obtain ⟨v12, ev12, hf⟩ := wc_st_n hf
    by_cases c13 : v12 < v10
    · have hf := wc_t c13 hf
      exact wr_j hm (J40 a2 σ hf)
    · have hf := wc_f c13 hf
      exact wr_j hm (J41 a2 1 σ hf)
theorem wr_L_penaltySoFar (b : Nat) (σ : wc_S) (res : Int32 × wc_S) (hf : wf_L_penaltySoFar b σ = some res) : wr_q (wS_L_penaltySoFar b) σ res.2 := by
  have hm : wr_q (wS_L_penaltySoFar b) σ σ := wr_0
  unfold wf_L_penaltySoFar at hf
  obtain ⟨v1, ev1, hf⟩ := wc_st_n hf
  obtain ⟨h2, hf⟩ := wc_gd_e hf
  obtain ⟨v3, ev3, hf⟩ := wc_st_n hf
  exact wr_f (g := fun r => r.2) hf hm
theorem wr_L_changesSoFar (b : Nat) (σ : wc_S) (res : Int32 × wc_S) (hf : wf_L_changesSoFar b σ = some res) : wr_q (wS_L_changesSoFar b) σ res.2 := by
  have hm : wr_q (wS_L_changesSoFar b) σ σ := wr_0
  unfold wf_L_changesSoFar at hf
  obtain ⟨v1, ev1, hf⟩ := wc_st_n hf
  obtain ⟨h2, hf⟩ := wc_gd_e hf
  obtain ⟨v3, ev3, hf⟩ := wc_st_n hf
  exact wr_f (g := fun r => r.2) hf hm
theorem wr_L_movedSoFar (b : Nat) (σ : wc_S) (res : Int32 × wc_S) (hf : wf_L_movedSoFar b σ = some res) : wr_q (wS_L_movedSoFar b) σ res.2 := by
  have hm : wr_q (wS_L_movedSoFar b) σ σ := wr_0
  unfold wf_L_movedSoFar at hf
  obtain ⟨v1, ev1, hf⟩ := wc_st_n hf
  obtain ⟨h2, hf⟩ := wc_gd_e hf
  obtain ⟨v3, ev3, hf⟩ := wc_st_n hf
  exact wr_f (g := fun r => r.2) hf hm
theorem wr_L_clear (b : Nat) (σ : wc_S) (res : wc_S) (hf : wf_L_clear b σ = some res) : wr_q (wS_L_clear b) σ res := by
  have J7 : ∀ (n : Nat) (x1 : Int32) (σ : wc_S), wf_L_clear_7 b n x1 σ = some res → wr_q (wS_L_clear b) σ res := by
    intro  n
    induction n with
    | zero => intro x1 σ hf; exact absurd hf (by intro h9; cases h9)
    | succ n hk7 =>
      intro x1 σ hf
      have hm : wr_q (wS_L_clear b) σ σ := wr_0
      have hf : wf_L_clear_7_b b (wf_L_clear_7 b n) x1 σ = some res := hf
      unfold wf_L_clear_7_b at hf
      by_cases c2 : 9 ≤ x1
      · have hf := wc_t c2 hf
        exact wr_f (g := fun r => r) hf hm
      · have hf := wc_f c2 hf
        obtain ⟨h3, hf⟩ := wc_gd_e hf
        obtain ⟨σ4, eσ4, hf⟩ := wc_st_n hf
        have hm := wr_u hm eσ4 (by unfold wS_L_clear; omega)
        obtain ⟨v5, ev5, hf⟩ := wc_st_n hf
        exact wr_j hm (hk7 v5 σ4 hf)
  have hm : wr_q (wS_L_clear b) σ σ := wr_0
  unfold wf_L_clear at hf
  obtain ⟨σ1, eσ1, hf⟩ := wc_st_n hf
  have hm := wr_u hm eσ1 (by unfold wS_L_clear; omega)
  exact wr_j hm (J7 16 0 σ1 hf)
theorem wr_L_mayFollow (b : Nat) (a1 : Int32) (a2 : Int32) (σ : wc_S) (res : Int32 × wc_S) (hf : wf_L_mayFollow b a1 a2 σ = some res) : wr_q (wS_L_mayFollow b) σ res.2 := by
  have hm : wr_q (wS_L_mayFollow b) σ σ := wr_0
  unfold wf_L_mayFollow at hf
  obtain ⟨h1, hf⟩ := wc_gd_e hf
  obtain ⟨h2, hf⟩ := wc_gd_e hf
  obtain ⟨v3, ev3, hf⟩ := wc_st_n hf
  by_cases c4 : v3 = (-1)
  · have hf := wc_t c4 hf
    exact wr_f (g := fun r => r.2) hf hm
  · have hf := wc_f c4 hf
    obtain ⟨h5, hf⟩ := wc_gd_e hf
    obtain ⟨v6, ev6, hf⟩ := wc_st_n hf
    obtain ⟨h7, hf⟩ := wc_gd_e hf
    obtain ⟨v8, ev8, hf⟩ := wc_st_n hf
    obtain ⟨v9, ev9, hf⟩ := wc_st_n hf
    obtain ⟨v10, ev10, hf⟩ := wc_st_n hf
    obtain ⟨v11, ev11, hf⟩ := wc_st_n hf
    by_cases c12 : v11 ≤ v10
    · have hf := wc_t c12 hf
      by_cases c13 : 0 < v9
      · have hf := wc_t c13 hf
        exact wr_f (g := fun r => r.2) hf hm
      · have hf := wc_f c13 hf
        exact wr_f (g := fun r => r.2) hf hm
    · have hf := wc_f c12 hf
      by_cases c14 : v9 < 0
      · have hf := wc_t c14 hf
        exact wr_f (g := fun r => r.2) hf hm
      · have hf := wc_f c14 hf
        exact wr_f (g := fun r => r.2) hf hm
theorem wr_L_mayPut (b : Nat) (a1 : Int32) (σ : wc_S) (res : Int32 × wc_S) (hf : wf_L_mayPut b a1 σ = some res) : wr_q (wS_L_mayPut b) σ res.2 := by
  have hm : wr_q (wS_L_mayPut b) σ σ := wr_0
  unfold wf_L_mayPut at hf
  obtain ⟨h1, hf⟩ := wc_gd_e hf
  obtain ⟨v2, ev2, hf⟩ := wc_st_n hf
  by_cases c3 : v2 = 0
  · have hf := wc_t c3 hf
    obtain ⟨v4, ev4, hf⟩ := wc_st_n hf
    obtain ⟨h5, hf⟩ := wc_gd_e hf
    obtain ⟨v6, ev6, hf⟩ := wc_st_n hf
    by_cases c7 : v4 ≤ v6
    · have hf := wc_t c7 hf
      obtain ⟨v8, ev8, hf⟩ := wc_st_n hf
      by_cases c9 : v8 = 0
      · have hf := wc_t c9 hf
        exact wr_f (g := fun r => r.2) hf hm
      · have hf := wc_f c9 hf
        obtain ⟨v10, ev10, hf⟩ := wc_st_n hf
        obtain ⟨v11, ev11, hf⟩ := wc_st_n hf
        obtain ⟨h12, hf⟩ := wc_gd_e hf
        obtain ⟨v13, ev13, hf⟩ := wc_st_n hf
        obtain ⟨r15, σ14, hq, hf⟩ := wc_b2_e hf
        have hm := wr_x hm (wr_L_mayFollow _ _ _ _ _ hq) (fun _ _ h => False.elim h)
        by_cases c16 : r15 = 0
        · have hf := wc_t c16 hf
          exact wr_f (g := fun r => r.2) hf hm
        · have hf := wc_f c16 hf
          exact wr_f (g := fun r => r.2) hf hm
    · have hf := wc_f c7 hf
      exact wr_f (g := fun r => r.2) hf hm
  · have hf := wc_f c3 hf
    exact wr_f (g := fun r => r.2) hf hm
theorem wr_L_isWornWith (b : Nat) (a1 : Int32) (σ : wc_S) (res : Int32 × wc_S) (hf : wf_L_isWornWith b a1 σ = some res) : wr_q (wS_L_isWornWith b) σ res.2 := by
  have J33 : ∀ (n : Nat) (x1 : Int32) (x2 : Int32) (σ : wc_S), wf_L_isWornWith_33 b n x1 x2 σ = some res → wr_q (wS_L_isWornWith b) σ res.2 := by
    intro  n
    induction n with
    | zero => intro x1 x2 σ hf; exact absurd hf (by intro h9; cases h9)
    | succ n hk33 =>
      intro x1 x2 σ hf
      have hm : wr_q (wS_L_isWornWith b) σ σ := wr_0
      have hf : wf_L_isWornWith_33_b b (wf_L_isWornWith_33 b n) x1 x2 σ = some res := hf
      unfold wf_L_isWornWith_33_b at hf
      obtain ⟨v9, ev9, hf⟩ := wc_st_n hf
      by_cases c10 : v9 ≤ x2
      · have hf := wc_t c10 hf
        exact wr_f (g := fun r => r.2) hf hm
      · have hf := wc_f c10 hf
        obtain ⟨v11, ev11, hf⟩ := wc_st_n hf
        obtain ⟨h12, hf⟩ := wc_gd_e hf
        obtain ⟨h13, hf⟩ := wc_gd_e hf
        obtain ⟨v14, ev14, hf⟩ := wc_st_n hf
        obtain ⟨r16, σ15, hq, hf⟩ := wc_b2_e hf
        have hm := wr_x hm (wr_P_kilometresInGroup _ _ _ _ hq) (fun _ _ h => False.elim h)
        obtain ⟨v17, ev17, hf⟩ := wc_st_n hf
        obtain ⟨h18, hf⟩ := wc_gd_e hf
        obtain ⟨v19, ev19, hf⟩ := wc_st_n hf
        by_cases c20 : v17 ≤ v19
        · have hf := wc_t c20 hf
          obtain ⟨v21, ev21, hf⟩ := wc_st_n hf
          exact wr_j hm (hk33 x1 v21 σ15 hf)
        · have hf := wc_f c20 hf
          exact wr_f (g := fun r => r.2) hf hm
  have hm : wr_q (wS_L_isWornWith b) σ σ := wr_0
  unfold wf_L_isWornWith at hf
  obtain ⟨v1, ev1, hf⟩ := wc_st_n hf
  obtain ⟨h2, hf⟩ := wc_gd_e hf
  obtain ⟨v3, ev3, hf⟩ := wc_st_n hf
  obtain ⟨h4, hf⟩ := wc_gd_e hf
  obtain ⟨v5, ev5, hf⟩ := wc_st_n hf
  obtain ⟨v6, ev6, hf⟩ := wc_st_n hf
  obtain ⟨v7, ev7, hf⟩ := wc_st_n hf
  by_cases c8 : v6 ≤ v7
  · have hf := wc_t c8 hf
    exact wr_j hm (J33 16 a1 0 σ hf)
  · have hf := wc_f c8 hf
    exact wr_f (g := fun r => r.2) hf hm
theorem wr_L_countKilometres (b : Nat) (a1 : Int32) (a2 : Int32) (σ : wc_S) (res : wc_S) (hf : wf_L_countKilometres b a1 a2 σ = some res) : wr_q (wS_L_countKilometres b) σ res := by
  have J78 : ∀ (k43 : Int32 → Int32 → Int32 → Int32 → wc_S → Option wc_S) (hk43 : (∀ (x1 : Int32) (x2 : Int32) (x3 : Int32) (x4 : Int32) (σ : wc_S), k43 x1 x2 x3 x4 σ = some res → wr_q (wS_L_countKilometres b) σ res)) (x1 : Int32) (x2 : Int32) (x3 : Int32) (x4 : Int32) (s0 : Int32) (σ : wc_S), wf_L_countKilometres_78 b k43 x1 x2 x3 x4 s0 σ = some res → wr_q (wS_L_countKilometres b) σ res := by
    intro k43 hk43 x1 x2 x3 x4 s0 σ hf
    have hm : wr_q (wS_L_countKilometres b) σ σ := wr_0
    unfold wf_L_countKilometres_78 at hf
    obtain ⟨h19, hf⟩ := wc_gd_e hf
    obtain ⟨r21, σ20, hq, hf⟩ := wc_b2_e hf
    have hm := wr_x hm (wr_P_kilometresInGroup _ _ _ _ hq) (fun _ _ h => False.elim h)
    obtain ⟨v22, ev22, hf⟩ := wc_st_n hf
    obtain ⟨h23, hf⟩ := wc_gd_e hf
    obtain ⟨σ24, eσ24, hf⟩ := wc_st_n hf
    have hLσ24 := wc_in_lt h19
    have hm := wr_u hm eσ24 (by unfold wS_L_countKilometres; omega)
    obtain ⟨v25, ev25, hf⟩ := wc_st_n hf
    exact wr_j hm (hk43 x1 x2 x3 v25 σ24 hf)
  have J43 : ∀ (n : Nat) (x1 : Int32) (x2 : Int32) (x3 : Int32) (x4 : Int32) (σ : wc_S), wf_L_countKilometres_43 b n x1 x2 x3 x4 σ = some res → wr_q (wS_L_countKilometres b) σ res := by
    intro  n
    induction n with
    | zero => intro x1 x2 x3 x4 σ hf; exact absurd hf (by intro h9; cases h9)
    | succ n hk43 =>
      intro x1 x2 x3 x4 σ hf
      have hm : wr_q (wS_L_countKilometres b) σ σ := wr_0
      have hf : wf_L_countKilometres_43_b b (wf_L_countKilometres_43 b n) x1 x2 x3 x4 σ = some res := hf
      unfold wf_L_countKilometres_43_b at hf
      obtain ⟨v12, ev12, hf⟩ := wc_st_n hf
      by_cases c13 : v12 ≤ x4
      · have hf := wc_t c13 hf
        exact wr_f (g := fun r => r) hf hm
      · have hf := wc_f c13 hf
        by_cases c14 : x2 = 0
        · have hf := wc_t c14 hf
          obtain ⟨v15, ev15, hf⟩ := wc_st_n hf
          obtain ⟨h16, hf⟩ := wc_gd_e hf
          obtain ⟨h17, hf⟩ := wc_gd_e hf
          obtain ⟨v18, ev18, hf⟩ := wc_st_n hf
          exact wr_j hm (J78 (wf_L_countKilometres_43 b n) hk43 x1 x2 x3 x4 v18 σ hf)
        · have hf := wc_f c14 hf
          exact wr_j hm (J78 (wf_L_countKilometres_43 b n) hk43 x1 x2 x3 x4 0 σ hf)
  have J29 : ∀ (x1 : Int32) (x2 : Int32) (x3 : Int32) (s1 : Int32) (s2 : Int32) (σ : wc_S), wf_L_countKilometres_29 b x1 x2 x3 s1 s2 σ = some res → wr_q (wS_L_countKilometres b) σ res := by
    intro  x1 x2 x3 s1 s2 σ hf
    have hm : wr_q (wS_L_countKilometres b) σ σ := wr_0
    unfold wf_L_countKilometres_29 at hf
    obtain ⟨h7, hf⟩ := wc_gd_e hf
    obtain ⟨v8, ev8, hf⟩ := wc_st_n hf
    obtain ⟨v9, ev9, hf⟩ := wc_st_n hf
    obtain ⟨h10, hf⟩ := wc_gd_e hf
    obtain ⟨σ11, eσ11, hf⟩ := wc_st_n hf
    have hm := wr_u hm eσ11 (by unfold wS_L_countKilometres; omega)
    exact wr_j hm (J43 16 x1 x2 x3 0 σ11 hf)
  have hm : wr_q (wS_L_countKilometres b) σ σ := wr_0
  unfold wf_L_countKilometres at hf
  obtain ⟨v1, ev1, hf⟩ := wc_st_n hf
  obtain ⟨v2, ev2, hf⟩ := wc_st_n hf
  by_cases c3 : a2 = 0
  · have hf := wc_t c3 hf
    obtain ⟨v4, ev4, hf⟩ := wc_st_n hf
    obtain ⟨h5, hf⟩ := wc_gd_e hf
    obtain ⟨v6, ev6, hf⟩ := wc_st_n hf
    exact wr_j hm (J29 a1 a2 v2 v2 v6 σ hf)
  · have hf := wc_f c3 hf
    exact wr_j hm (J29 a1 a2 v2 v2 0 σ hf)
theorem wr_L_countCosts (b : Nat) (a1 : Int32) (a2 : Int32) (σ : wc_S) (res : wc_S) (hf : wf_L_countCosts b a1 a2 σ = some res) : wr_q (wS_L_countCosts b) σ res := by
  have J157 : ∀ (x5 : Int32) (s1 : Int32) (s2 : Int32) (s3 : Int32) (σ : wc_S), wf_L_countCosts_157 b x5 s1 s2 s3 σ = some res → wr_q (wS_L_countCosts b) σ res := by
    intro  x5 s1 s2 s3 σ hf
    have hm : wr_q (wS_L_countCosts b) σ σ := wr_0
    unfold wf_L_countCosts_157 at hf
    obtain ⟨v27, ev27, hf⟩ := wc_st_n hf
    by_cases c28 : x5 = 0
    · have hf := wc_t c28 hf
      obtain ⟨v29, ev29, hf⟩ := wc_st_n hf
      obtain ⟨h30, hf⟩ := wc_gd_e hf
      obtain ⟨σ31, eσ31, hf⟩ := wc_st_n hf
      have hm := wr_u hm eσ31 (by unfold wS_L_countCosts; omega)
      exact wr_f (g := fun r => r) hf hm
    · have hf := wc_f c28 hf
      obtain ⟨v32, ev32, hf⟩ := wc_st_n hf
      obtain ⟨v33, ev33, hf⟩ := wc_st_n hf
      obtain ⟨h34, hf⟩ := wc_gd_e hf
      obtain ⟨σ35, eσ35, hf⟩ := wc_st_n hf
      have hm := wr_u hm eσ35 (by unfold wS_L_countCosts; omega)
      exact wr_f (g := fun r => r) hf hm
  have J123 : ∀ (x2 : Int32) (x3 : Int32) (x5 : Int32) (x6 : Int32) (s1 : Int32) (s2 : Int32) (s3 : Int32) (σ : wc_S), wf_L_countCosts_123 b x2 x3 x5 x6 s1 s2 s3 σ = some res → wr_q (wS_L_countCosts b) σ res := by
    intro  x2 x3 x5 x6 s1 s2 s3 σ hf
    have hm : wr_q (wS_L_countCosts b) σ σ := wr_0
    unfold wf_L_countCosts_123 at hf
    obtain ⟨v19, ev19, hf⟩ := wc_st_n hf
    obtain ⟨h20, hf⟩ := wc_gd_e hf
    obtain ⟨σ21, eσ21, hf⟩ := wc_st_n hf
    have hm := wr_u hm eσ21 (by unfold wS_L_countCosts; omega)
    obtain ⟨v22, ev22, hf⟩ := wc_st_n hf
    obtain ⟨h23, hf⟩ := wc_gd_e hf
    obtain ⟨v24, ev24, hf⟩ := wc_st_n hf
    obtain ⟨v25, ev25, hf⟩ := wc_st_n hf
    by_cases c26 : x2 = 0
    · have hf := wc_t c26 hf
      exact wr_j hm (J157 x5 x3 v25 0 σ21 hf)
    · have hf := wc_f c26 hf
      obtain ⟨v36, ev36, hf⟩ := wc_st_n hf
      exact wr_j hm (J157 x5 x3 v25 v36 σ21 hf)
  have J97 : ∀ (x2 : Int32) (x3 : Int32) (x5 : Int32) (x6 : Int32) (s1 : Int32) (s2 : Int32) (s3 : Int32) (σ : wc_S), wf_L_countCosts_97 b x2 x3 x5 x6 s1 s2 s3 σ = some res → wr_q (wS_L_countCosts b) σ res := by
    intro  x2 x3 x5 x6 s1 s2 s3 σ hf
    have hm : wr_q (wS_L_countCosts b) σ σ := wr_0
    unfold wf_L_countCosts_97 at hf
    obtain ⟨v12, ev12, hf⟩ := wc_st_n hf
    obtain ⟨h13, hf⟩ := wc_gd_e hf
    obtain ⟨σ14, eσ14, hf⟩ := wc_st_n hf
    have hm := wr_u hm eσ14 (by unfold wS_L_countCosts; omega)
    obtain ⟨v15, ev15, hf⟩ := wc_st_n hf
    obtain ⟨h16, hf⟩ := wc_gd_e hf
    obtain ⟨v17, ev17, hf⟩ := wc_st_n hf
    by_cases c18 : x5 = 0
    · have hf := wc_t c18 hf
      exact wr_j hm (J123 x2 x3 x5 x6 x3 v17 0 σ14 hf)
    · have hf := wc_f c18 hf
      exact wr_j hm (J123 x2 x3 x5 x6 x3 v17 1 σ14 hf)
  have J72 : ∀ (x2 : Int32) (x3 : Int32) (x5 : Int32) (s0 : Int32) (σ : wc_S), wf_L_countCosts_72 b x2 x3 x5 s0 σ = some res → wr_q (wS_L_countCosts b) σ res := by
    intro  x2 x3 x5 s0 σ hf
    have hm : wr_q (wS_L_countCosts b) σ σ := wr_0
    unfold wf_L_countCosts_72 at hf
    obtain ⟨v8, ev8, hf⟩ := wc_st_n hf
    obtain ⟨h9, hf⟩ := wc_gd_e hf
    obtain ⟨v10, ev10, hf⟩ := wc_st_n hf
    by_cases c11 : x2 = 0
    · have hf := wc_t c11 hf
      exact wr_j hm (J97 x2 x3 x5 s0 x3 v10 0 σ hf)
    · have hf := wc_f c11 hf
      exact wr_j hm (J97 x2 x3 x5 s0 x3 v10 1 σ hf)
  have J38 : ∀ (x1 : Int32) (x2 : Int32) (x3 : Int32) (s0 : Int32) (σ : wc_S), wf_L_countCosts_38 b x1 x2 x3 s0 σ = some res → wr_q (wS_L_countCosts b) σ res := by
    intro  x1 x2 x3 s0 σ hf
    have hm : wr_q (wS_L_countCosts b) σ σ := wr_0
    unfold wf_L_countCosts_38 at hf
    obtain ⟨v6, ev6, hf⟩ := wc_st_n hf
    by_cases c7 : v6 ≤ 0
    · have hf := wc_t c7 hf
      exact wr_j hm (J72 x2 x3 s0 0 σ hf)
    · have hf := wc_f c7 hf
      obtain ⟨v37, ev37, hf⟩ := wc_st_n hf
      obtain ⟨v38, ev38, hf⟩ := wc_st_n hf
      obtain ⟨h39, hf⟩ := wc_gd_e hf
      obtain ⟨v40, ev40, hf⟩ := wc_st_n hf
      obtain ⟨h41, hf⟩ := wc_gd_e hf
      obtain ⟨h42, hf⟩ := wc_gd_e hf
      obtain ⟨v43, ev43, hf⟩ := wc_st_n hf
      exact wr_j hm (J72 x2 x3 s0 v43 σ hf)
  have J37 : ∀ (x1 : Int32) (x2 : Int32) (x3 : Int32) (σ : wc_S), wf_L_countCosts_37 b x1 x2 x3 σ = some res → wr_q (wS_L_countCosts b) σ res := by
    intro  x1 x2 x3 σ hf
    have hm : wr_q (wS_L_countCosts b) σ σ := wr_0
    unfold wf_L_countCosts_37 at hf
    exact wr_j hm (J38 x1 x2 x3 0 σ hf)
  have hm : wr_q (wS_L_countCosts b) σ σ := wr_0
  unfold wf_L_countCosts at hf
  obtain ⟨v1, ev1, hf⟩ := wc_st_n hf
  obtain ⟨v2, ev2, hf⟩ := wc_st_n hf
  obtain ⟨h3, hf⟩ := wc_gd_e hf
  obtain ⟨v4, ev4, hf⟩ := wc_st_n hf
  by_cases c5 : v4 = (-1)
  · have hf := wc_t c5 hf
    exact wr_j hm (J37 a1 a2 v2 σ hf)
  · have hf := wc_f c5 hf
    obtain ⟨v44, ev44, hf⟩ := wc_st_n hf
    by_cases c45 : v4 = v44
    · have hf := wc_t c45 hf
      exact wr_j hm (J37 a1 a2 v2 σ hf)
    · have hf := wc_f c45 hf
      exact wr_j hm (J38 a1 a2 v2 1 σ hf)
theorem wr_L_put (b : Nat) (a1 : Int32) (σ : wc_S) (res : wc_S) (hf : wf_L_put b a1 σ = some res) : wr_q (wS_L_put b) σ res := by
  have J20 : ∀ (x1 : Int32) (s0 : Int32) (σ : wc_S), wf_L_put_20 b x1 s0 σ = some res → wr_q (wS_L_put b) σ res := by
    intro  x1 s0 σ hf
    have hm : wr_q (wS_L_put b) σ σ := wr_0
    unfold wf_L_put_20 at hf
    obtain ⟨v3, ev3, hf⟩ := wc_st_n hf
    obtain ⟨h4, hf⟩ := wc_gd_e hf
    obtain ⟨σ5, eσ5, hf⟩ := wc_st_n hf
    have hm := wr_u hm eσ5 (by unfold wS_L_put; omega)
    obtain ⟨σ6, hq, hf⟩ := wc_b1_e hf
    have hm := wr_x hm (wr_L_countKilometres _ _ _ _ _ hq) (by intro k i h; unfold wS_L_countKilometres at h; unfold wS_L_put; omega)
    obtain ⟨σ7, hq, hf⟩ := wc_b1_e hf
    have hm := wr_x hm (wr_L_countCosts _ _ _ _ _ hq) (by intro k i h; unfold wS_L_countCosts at h; unfold wS_L_put; omega)
    obtain ⟨v8, ev8, hf⟩ := wc_st_n hf
    obtain ⟨h9, hf⟩ := wc_gd_e hf
    obtain ⟨σ10, eσ10, hf⟩ := wc_st_n hf
    have hm := wr_u hm eσ10 (by unfold wS_L_put; omega)
    obtain ⟨h11, hf⟩ := wc_gd_e hf
    obtain ⟨σ12, eσ12, hf⟩ := wc_st_n hf
    have hm := wr_u hm eσ12 (by unfold wS_L_put; omega)
    obtain ⟨v13, ev13, hf⟩ := wc_st_n hf
    obtain ⟨v14, ev14, hf⟩ := wc_st_n hf
    obtain ⟨σ15, eσ15, hf⟩ := wc_st_n hf
    have hm := wr_u hm eσ15 (by unfold wS_L_put; omega)
    exact wr_f (g := fun r => r) hf hm
  have J19 : ∀ (x1 : Int32) (σ : wc_S), wf_L_put_19 b x1 σ = some res → wr_q (wS_L_put b) σ res := by
    intro  x1 σ hf
    have hm : wr_q (wS_L_put b) σ σ := wr_0
    unfold wf_L_put_19 at hf
    exact wr_j hm (J20 x1 0 σ hf)
  have hm : wr_q (wS_L_put b) σ σ := wr_0
  unfold wf_L_put at hf
  obtain ⟨v1, ev1, hf⟩ := wc_st_n hf
  by_cases c2 : v1 ≤ 0
  · have hf := wc_t c2 hf
    exact wr_j hm (J19 a1 σ hf)
  · have hf := wc_f c2 hf
    obtain ⟨r17, σ16, hq, hf⟩ := wc_b2_e hf
    have hm := wr_x hm (wr_L_isWornWith _ _ _ _ hq) (fun _ _ h => False.elim h)
    by_cases c18 : r17 = 0
    · have hf := wc_t c18 hf
      exact wr_j hm (J19 a1 σ16 hf)
    · have hf := wc_f c18 hf
      exact wr_j hm (J20 a1 1 σ16 hf)
theorem wr_L_takeBack (b : Nat) (σ : wc_S) (res : wc_S) (hf : wf_L_takeBack b σ = some res) : wr_q (wS_L_takeBack b) σ res := by
  have hm : wr_q (wS_L_takeBack b) σ σ := wr_0
  unfold wf_L_takeBack at hf
  obtain ⟨v1, ev1, hf⟩ := wc_st_n hf
  by_cases c2 : v1 ≤ 0
  · have hf := wc_t c2 hf
    exact wr_f (g := fun r => r) hf hm
  · have hf := wc_f c2 hf
    obtain ⟨v3, ev3, hf⟩ := wc_st_n hf
    obtain ⟨v4, ev4, hf⟩ := wc_st_n hf
    obtain ⟨σ5, eσ5, hf⟩ := wc_st_n hf
    have hm := wr_u hm eσ5 (by unfold wS_L_takeBack; omega)
    obtain ⟨v6, ev6, hf⟩ := wc_st_n hf
    obtain ⟨h7, hf⟩ := wc_gd_e hf
    obtain ⟨v8, ev8, hf⟩ := wc_st_n hf
    obtain ⟨h9, hf⟩ := wc_gd_e hf
    obtain ⟨σ10, eσ10, hf⟩ := wc_st_n hf
    have hm := wr_u hm eσ10 (by unfold wS_L_takeBack; omega)
    exact wr_f (g := fun r => r) hf hm
theorem wr_L_layAll (b : Nat) (k1 : Nat) (σ : wc_S) (res : Int32 × wc_S) (hf : wf_L_layAll b k1 σ = some res) : wr_q (wS_L_layAll b) σ res.2 := by
  have J6 : ∀ (n : Nat) (x2 : Int32) (σ : wc_S), wf_L_layAll_6 b k1 n x2 σ = some res → wr_q (wS_L_layAll b) σ res.2 := by
    intro  n
    induction n with
    | zero => intro x2 σ hf; exact absurd hf (by intro h9; cases h9)
    | succ n hk6 =>
      intro x2 σ hf
      have hm : wr_q (wS_L_layAll b) σ σ := wr_0
      have hf : wf_L_layAll_6_b b k1 (wf_L_layAll_6 b k1 n) x2 σ = some res := hf
      unfold wf_L_layAll_6_b at hf
      obtain ⟨v2, ev2, hf⟩ := wc_st_n hf
      by_cases c3 : v2 ≤ x2
      · have hf := wc_t c3 hf
        exact wr_f (g := fun r => r.2) hf hm
      · have hf := wc_f c3 hf
        obtain ⟨h4, hf⟩ := wc_gd_e hf
        obtain ⟨v5, ev5, hf⟩ := wc_st_n hf
        obtain ⟨r7, σ6, hq, hf⟩ := wc_b2_e hf
        have hm := wr_x hm (wr_L_mayPut _ _ _ _ hq) (fun _ _ h => False.elim h)
        by_cases c8 : r7 = 0
        · have hf := wc_t c8 hf
          exact wr_f (g := fun r => r.2) hf hm
        · have hf := wc_f c8 hf
          obtain ⟨h9, hf⟩ := wc_gd_e hf
          obtain ⟨v10, ev10, hf⟩ := wc_st_n hf
          obtain ⟨σ11, hq, hf⟩ := wc_b1_e hf
          have hm := wr_x hm (wr_L_put _ _ _ _ hq) (by intro k i h; unfold wS_L_put at h; unfold wS_L_layAll; omega)
          obtain ⟨v12, ev12, hf⟩ := wc_st_n hf
          exact wr_j hm (hk6 v12 σ11 hf)
  have hm : wr_q (wS_L_layAll b) σ σ := wr_0
  unfold wf_L_layAll at hf
  obtain ⟨σ1, hq, hf⟩ := wc_b1_e hf
  have hm := wr_x hm (wr_L_clear _ _ _ hq) (by intro k i h; unfold wS_L_clear at h; unfold wS_L_layAll; omega)
  exact wr_j hm (J6 16 0 σ1 hf)
theorem wr_S_keepBest (σ : wc_S) (res : wc_S) (hf : wf_S_keepBest  σ = some res) : wr_q (wS_S_keepBest) σ res := by
  have hm : wr_q (wS_S_keepBest) σ σ := wr_0
  unfold wf_S_keepBest at hf
  obtain ⟨σ1, eσ1, hf⟩ := wc_st_n hf
  have hm := wr_u hm eσ1 (by unfold wS_S_keepBest; omega)
  obtain ⟨r3, σ2, hq, hf⟩ := wc_b2_e hf
  have hm := wr_x hm (wr_L_penaltySoFar _ _ _ hq) (fun _ _ h => False.elim h)
  obtain ⟨σ4, eσ4, hf⟩ := wc_st_n hf
  have hm := wr_u hm eσ4 (by unfold wS_S_keepBest; omega)
  obtain ⟨v5, ev5, hf⟩ := wc_st_n hf
  obtain ⟨h6, hf⟩ := wc_gd_e hf
  obtain ⟨σ7, eσ7, hf⟩ := wc_st_n hf
  have hm := wr_A hm eσ7 (by intro i; unfold wS_S_keepBest; omega)
  exact wr_f (g := fun r => r) hf hm
theorem wr_S_putAndGoOn (g : Int32 → wc_S → Option wc_S) (hg : ∀ (a1 : Int32) (σ res : wc_S), g a1 σ = some res → wr_q wS_S_goOnAt σ res) (a1 : Int32) (a2 : Int32) (σ : wc_S) (res : wc_S) (hf : wf_S_putAndGoOn g a1 a2 σ = some res) : wr_q (wS_S_putAndGoOn) σ res := by
  have J52 : ∀ (σ : wc_S), wf_S_putAndGoOn_52 g  σ = some res → wr_q (wS_S_putAndGoOn) σ res := by
    intro   σ hf
    have hm : wr_q (wS_S_putAndGoOn) σ σ := wr_0
    unfold wf_S_putAndGoOn_52 at hf
    obtain ⟨σ11, hq, hf⟩ := wc_b1_e hf
    have hm := wr_x hm (wr_L_takeBack _ _ _ hq) (by intro k i h; unfold wS_L_takeBack at h; unfold wS_S_putAndGoOn; omega)
    exact wr_f (g := fun r => r) hf hm
  have hm : wr_q (wS_S_putAndGoOn) σ σ := wr_0
  unfold wf_S_putAndGoOn at hf
  obtain ⟨v1, ev1, hf⟩ := wc_st_n hf
  by_cases c2 : 0 < v1
  · have hf := wc_t c2 hf
    obtain ⟨v3, ev3, hf⟩ := wc_st_n hf
    obtain ⟨v4, ev4, hf⟩ := wc_st_n hf
    obtain ⟨σ5, eσ5, hf⟩ := wc_st_n hf
    have hm := wr_u hm eσ5 (by unfold wS_S_putAndGoOn; omega)
    obtain ⟨σ6, hq, hf⟩ := wc_b1_e hf
    have hm := wr_x hm (wr_L_put _ _ _ _ hq) (by intro k i h; unfold wS_L_put at h; unfold wS_S_putAndGoOn; omega)
    obtain ⟨r8, σ7, hq, hf⟩ := wc_b2_e hf
    have hm := wr_x hm (wr_L_penaltySoFar _ _ _ hq) (fun _ _ h => False.elim h)
    obtain ⟨v9, ev9, hf⟩ := wc_st_n hf
    by_cases c10 : v9 ≤ r8
    · have hf := wc_t c10 hf
      exact wr_j hm (J52  σ7 hf)
    · have hf := wc_f c10 hf
      obtain ⟨v12, ev12, hf⟩ := wc_st_n hf
      obtain ⟨σ13, hq, hf⟩ := wc_b1_e hf
      have hm := wr_x hm (hg _ _ _ hq) (by intro k i h; unfold wS_S_goOnAt at h; unfold wS_S_putAndGoOn; omega)
      exact wr_j hm (J52  σ13 hf)
  · have hf := wc_f c2 hf
    obtain ⟨σ14, eσ14, hf⟩ := wc_st_n hf
    have hm := wr_u hm eσ14 (by unfold wS_S_putAndGoOn; omega)
    exact wr_f (g := fun r => r) hf hm
theorem wr_S_goOnAt_r (g : Int32 → wc_S → Option wc_S) (hg : ∀ (a1 : Int32) (σ res : wc_S), g a1 σ = some res → wr_q wS_S_goOnAt σ res) (a1 : Int32) (σ : wc_S) (res : wc_S) (hf : wf_S_goOnAt_r g a1 σ = some res) : wr_q (wS_S_goOnAt) σ res := by
  have J53 : ∀ (k18 : Int32 → Int32 → wc_S → Option wc_S) (hk18 : (∀ (x1 : Int32) (x2 : Int32) (σ : wc_S), k18 x1 x2 σ = some res → wr_q (wS_S_goOnAt) σ res)) (x1 : Int32) (x2 : Int32) (σ : wc_S), wf_S_goOnAt_53 g k18 x1 x2 σ = some res → wr_q (wS_S_goOnAt) σ res := by
    intro k18 hk18 x1 x2 σ hf
    have hm : wr_q (wS_S_goOnAt) σ σ := wr_0
    unfold wf_S_goOnAt_53 at hf
    obtain ⟨v10, ev10, hf⟩ := wc_st_n hf
    exact wr_j hm (hk18 x1 v10 σ hf)
  have J18 : ∀ (n : Nat) (x1 : Int32) (x2 : Int32) (σ : wc_S), wf_S_goOnAt_18 g n x1 x2 σ = some res → wr_q (wS_S_goOnAt) σ res := by
    intro  n
    induction n with
    | zero => intro x1 x2 σ hf; exact absurd hf (by intro h9; cases h9)
    | succ n hk18 =>
      intro x1 x2 σ hf
      have hm : wr_q (wS_S_goOnAt) σ σ := wr_0
      have hf : wf_S_goOnAt_18_b g (wf_S_goOnAt_18 g n) x1 x2 σ = some res := hf
      unfold wf_S_goOnAt_18_b at hf
      obtain ⟨v3, ev3, hf⟩ := wc_st_n hf
      by_cases c4 : v3 ≤ x2
      · have hf := wc_t c4 hf
        exact wr_f (g := fun r => r) hf hm
      · have hf := wc_f c4 hf
        obtain ⟨v5, ev5, hf⟩ := wc_st_n hf
        by_cases c6 : v5 = 0
        · have hf := wc_t c6 hf
          obtain ⟨r8, σ7, hq, hf⟩ := wc_b2_e hf
          have hm := wr_x hm (wr_L_mayPut _ _ _ _ hq) (fun _ _ h => False.elim h)
          by_cases c9 : r8 = 0
          · have hf := wc_t c9 hf
            exact wr_j hm (J53 (wf_S_goOnAt_18 g n) hk18 x1 x2 σ7 hf)
          · have hf := wc_f c9 hf
            obtain ⟨σ11, hq, hf⟩ := wc_b1_e hf
            have hm := wr_x hm (wr_S_putAndGoOn g hg _ _ _ _ hq) (fun _ _ h => h)
            exact wr_j hm (J53 (wf_S_goOnAt_18 g n) hk18 x1 x2 σ11 hf)
        · have hf := wc_f c6 hf
          exact wr_f (g := fun r => r) hf hm
  have hm : wr_q (wS_S_goOnAt) σ σ := wr_0
  unfold wf_S_goOnAt_r at hf
  obtain ⟨v1, ev1, hf⟩ := wc_st_n hf
  by_cases c2 : a1 < v1
  · have hf := wc_t c2 hf
    exact wr_j hm (J18 16 a1 0 σ hf)
  · have hf := wc_f c2 hf
    obtain ⟨σ12, hq, hf⟩ := wc_b1_e hf
    have hm := wr_x hm (wr_S_keepBest  _ _ hq) (by intro k i h; unfold wS_S_keepBest at h; unfold wS_S_goOnAt; omega)
    exact wr_f (g := fun r => r) hf hm
theorem wr_S_goOnAt (d : Nat) : ∀ (a1 : Int32) (σ res : wc_S), wf_S_goOnAt d a1 σ = some res → wr_q wS_S_goOnAt σ res := by
  induction d with
  | zero => intro a1 σ res hf; exact absurd hf (by intro h9; cases h9)
  | succ d ih => intro a1 σ res hf; exact wr_S_goOnAt_r (wf_S_goOnAt d) ih a1 σ res hf
theorem wr_S_searchWith (a1 : Int32) (σ : wc_S) (res : wc_S) (hf : wf_S_searchWith a1 σ = some res) : wr_q (wS_S_searchWith) σ res := by
  have hm : wr_q (wS_S_searchWith) σ σ := wr_0
  unfold wf_S_searchWith at hf
  obtain ⟨σ1, eσ1, hf⟩ := wc_st_n hf
  have hm := wr_u hm eσ1 (by unfold wS_S_searchWith; omega)
  obtain ⟨σ2, eσ2, hf⟩ := wc_st_n hf
  have hm := wr_u hm eσ2 (by unfold wS_S_searchWith; omega)
  obtain ⟨σ3, eσ3, hf⟩ := wc_st_n hf
  have hm := wr_u hm eσ3 (by unfold wS_S_searchWith; omega)
  obtain ⟨σ4, eσ4, hf⟩ := wc_st_n hf
  have hm := wr_u hm eσ4 (by unfold wS_S_searchWith; omega)
  obtain ⟨σ5, hq, hf⟩ := wc_b1_e hf
  have hm := wr_x hm (wr_L_clear _ _ _ hq) (by intro k i h; unfold wS_L_clear at h; unfold wS_S_searchWith; omega)
  obtain ⟨σ6, hq, hf⟩ := wc_b1_e hf
  have hm := wr_x hm (wr_S_goOnAt 11 _ _ _ hq) (by intro k i h; unfold wS_S_goOnAt at h; unfold wS_S_searchWith; omega)
  exact wr_f (g := fun r => r) hf hm
theorem wr_W_isOutside (a0 : Int32) (a1 : Int32) (a2 : Int32) (σ : wc_S) (res : Int32 × wc_S) (hf : wf_W_isOutside a0 a1 a2 σ = some res) : wr_q (wS_W_isOutside) σ res.2 := by
  have hm : wr_q (wS_W_isOutside) σ σ := wr_0
  unfold wf_W_isOutside at hf
  by_cases c1 : a0 < a1
  · have hf := wc_t c1 hf
    exact wr_f (g := fun r => r.2) hf hm
  · have hf := wc_f c1 hf
    by_cases c2 : a0 ≤ a2
    · have hf := wc_t c2 hf
      exact wr_f (g := fun r => r.2) hf hm
    · have hf := wc_f c2 hf
      exact wr_f (g := fun r => r.2) hf hm
theorem wr_W_isNoCoil (a1 : Int32) (σ : wc_S) (res : Int32 × wc_S) (hf : wf_W_isNoCoil a1 σ = some res) : wr_q (wS_W_isNoCoil) σ res.2 := by
  have hm : wr_q (wS_W_isNoCoil) σ σ := wr_0
  unfold wf_W_isNoCoil at hf
  by_cases c1 : a1 < 0
  · have hf := wc_t c1 hf
    exact wr_f (g := fun r => r.2) hf hm
  · have hf := wc_f c1 hf
    obtain ⟨v2, ev2, hf⟩ := wc_st_n hf
    by_cases c3 : a1 < v2
    · have hf := wc_t c3 hf
      exact wr_f (g := fun r => r.2) hf hm
    · have hf := wc_f c3 hf
      exact wr_f (g := fun r => r.2) hf hm
theorem wr_W_forgetOrder (σ : wc_S) (res : wc_S) (hf : wf_W_forgetOrder  σ = some res) : wr_q (wS_W_forgetOrder) σ res := by
  have hm : wr_q (wS_W_forgetOrder) σ σ := wr_0
  unfold wf_W_forgetOrder at hf
  obtain ⟨σ1, eσ1, hf⟩ := wc_st_n hf
  have hm := wr_u hm eσ1 (by unfold wS_W_forgetOrder; omega)
  obtain ⟨σ2, eσ2, hf⟩ := wc_st_n hf
  have hm := wr_u hm eσ2 (by unfold wS_W_forgetOrder; omega)
  exact wr_f (g := fun r => r) hf hm
theorem wr_W_requireOrder (σ : wc_S) (res : wc_X wc_S) (hf : wf_W_requireOrder  σ = some res) : wr_q (wS_W_requireOrder) σ (wr_sv res) := by
  have hm : wr_q (wS_W_requireOrder) σ σ := wr_0
  unfold wf_W_requireOrder at hf
  obtain ⟨v1, ev1, hf⟩ := wc_st_n hf
  by_cases c2 : v1 = 0
  · have hf := wc_t c2 hf
    exact wr_f (g := wr_sv) hf hm
  · have hf := wc_f c2 hf
    exact wr_f (g := wr_sv) hf hm
theorem wr_W_requirePlace (a1 : Int32) (σ : wc_S) (res : wc_X wc_S) (hf : wf_W_requirePlace a1 σ = some res) : wr_q (wS_W_requirePlace) σ (wr_sv res) := by
  have hm : wr_q (wS_W_requirePlace) σ σ := wr_0
  unfold wf_W_requirePlace at hf
  obtain ⟨r2, σ1, hq, hf⟩ := wc_b2_e hf
  have hm := wr_x hm (wr_W_isNoCoil _ _ _ hq) (fun _ _ h => False.elim h)
  by_cases c3 : r2 = 0
  · have hf := wc_t c3 hf
    exact wr_f (g := wr_sv) hf hm
  · have hf := wc_f c3 hf
    exact wr_f (g := wr_sv) hf hm
theorem wr_W_readIntoScratch (a1 : Int64) (σ : wc_S) (res : Int32 × wc_S) (hf : wf_W_readIntoScratch a1 σ = some res) : wr_q (wS_W_readIntoScratch) σ res.2 := by
  have J5 : ∀ (n : Nat) (x1 : Int64) (x3 : Int32) (x4 : Int32) (σ : wc_S), wf_W_readIntoScratch_5 n x1 x3 x4 σ = some res → wr_q (wS_W_readIntoScratch) σ res.2 := by
    intro  n
    induction n with
    | zero => intro x1 x3 x4 σ hf; exact absurd hf (by intro h9; cases h9)
    | succ n hk5 =>
      intro x1 x3 x4 σ hf
      have hm : wr_q (wS_W_readIntoScratch) σ σ := wr_0
      have hf : wf_W_readIntoScratch_5_b (wf_W_readIntoScratch_5 n) x1 x3 x4 σ = some res := hf
      unfold wf_W_readIntoScratch_5_b at hf
      obtain ⟨v1, ev1, hf⟩ := wc_st_n hf
      by_cases c2 : v1 ≤ x4
      · have hf := wc_t c2 hf
        exact wr_f (g := fun r => r.2) hf hm
      · have hf := wc_f c2 hf
        obtain ⟨v3, ev3, hf⟩ := wc_st_n hf
        obtain ⟨v4, ev4, hf⟩ := wc_st_n hf
        obtain ⟨v5, ev5, hf⟩ := wc_st_n hf
        obtain ⟨v6, ev6, hf⟩ := wc_st_n hf
        obtain ⟨r8, σ7, hq, hf⟩ := wc_b2_e hf
        have hm := wr_x hm (wr_W_isNoCoil _ _ _ hq) (fun _ _ h => False.elim h)
        by_cases c9 : r8 = 0
        · have hf := wc_t c9 hf
          obtain ⟨v10, ev10, hf⟩ := wc_st_n hf
          obtain ⟨v11, ev11, hf⟩ := wc_st_n hf
          by_cases c12 : v11 = 1
          · have hf := wc_t c12 hf
            exact wr_f (g := fun r => r.2) hf hm
          · have hf := wc_f c12 hf
            obtain ⟨v13, ev13, hf⟩ := wc_st_n hf
            obtain ⟨v14, ev14, hf⟩ := wc_st_n hf
            obtain ⟨h15, hf⟩ := wc_gd_e hf
            obtain ⟨σ16, eσ16, hf⟩ := wc_st_n hf
            have hm := wr_u hm eσ16 (by unfold wS_W_readIntoScratch; omega)
            obtain ⟨v17, ev17, hf⟩ := wc_st_n hf
            exact wr_j hm (hk5 x1 v14 v17 σ16 hf)
        · have hf := wc_f c9 hf
          exact wr_f (g := fun r => r.2) hf hm
  have hm : wr_q (wS_W_readIntoScratch) σ σ := wr_0
  unfold wf_W_readIntoScratch at hf
  exact wr_j hm (J5 16 a1 0 0 σ hf)
theorem wr_W_takePairIfBetter (a1 : Int32) (a2 : Int32) (σ : wc_S) (res : Int32 × wc_S) (hf : wf_W_takePairIfBetter a1 a2 σ = some res) : wr_q (wS_W_takePairIfBetter) σ res.2 := by
  have hm : wr_q (wS_W_takePairIfBetter) σ σ := wr_0
  unfold wf_W_takePairIfBetter at hf
  obtain ⟨v1, ev1, hf⟩ := wc_st_n hf
  obtain ⟨h2, hf⟩ := wc_gd_e hf
  obtain ⟨σ3, eσ3, hf⟩ := wc_st_n hf
  have hm := wr_A hm eσ3 (by intro i; unfold wS_W_takePairIfBetter; omega)
  obtain ⟨h4, hf⟩ := wc_gd_e hf
  obtain ⟨v5, ev5, hf⟩ := wc_st_n hf
  obtain ⟨h6, hf⟩ := wc_gd_e hf
  obtain ⟨σ7, eσ7, hf⟩ := wc_st_n hf
  have hm := wr_u hm eσ7 (by unfold wS_W_takePairIfBetter; omega)
  obtain ⟨h8, hf⟩ := wc_gd_e hf
  obtain ⟨v9, ev9, hf⟩ := wc_st_n hf
  obtain ⟨h10, hf⟩ := wc_gd_e hf
  obtain ⟨σ11, eσ11, hf⟩ := wc_st_n hf
  have hm := wr_u hm eσ11 (by unfold wS_W_takePairIfBetter; omega)
  obtain ⟨r13, σ12, hq, hf⟩ := wc_b2_e hf
  have hm := wr_x hm (wr_L_layAll _ _ _ _ hq) (by intro k i h; unfold wS_L_layAll at h; unfold wS_W_takePairIfBetter; omega)
  by_cases c14 : r13 = 0
  · have hf := wc_t c14 hf
    exact wr_f (g := fun r => r.2) hf hm
  · have hf := wc_f c14 hf
    obtain ⟨r16, σ15, hq, hf⟩ := wc_b2_e hf
    have hm := wr_x hm (wr_L_penaltySoFar _ _ _ hq) (fun _ _ h => False.elim h)
    obtain ⟨r18, σ17, hq, hf⟩ := wc_b2_e hf
    have hm := wr_x hm (wr_L_penaltySoFar _ _ _ hq) (fun _ _ h => False.elim h)
    by_cases c19 : r16 < r18
    · have hf := wc_t c19 hf
      obtain ⟨r21, σ20, hq, hf⟩ := wc_b2_e hf
      have hm := wr_x hm (wr_L_layAll _ _ _ _ hq) (by intro k i h; unfold wS_L_layAll at h; unfold wS_W_takePairIfBetter; omega)
      exact wr_f (g := fun r => r.2) hf hm
    · have hf := wc_f c19 hf
      exact wr_f (g := fun r => r.2) hf hm
theorem wr_W_takeFirstBetterPair (σ : wc_S) (res : Int32 × wc_S) (hf : wf_W_takeFirstBetterPair  σ = some res) : wr_q (wS_W_takeFirstBetterPair) σ res.2 := by
  have J17 : ∀ (k2 : Int32 → wc_S → Option (Int32 × wc_S)) (hk2 : (∀ (x1 : Int32) (σ : wc_S), k2 x1 σ = some res → wr_q (wS_W_takeFirstBetterPair) σ res.2)) (n : Nat) (x1 : Int32) (x2 : Int32) (σ : wc_S), wf_W_takeFirstBetterPair_17 k2 n x1 x2 σ = some res → wr_q (wS_W_takeFirstBetterPair) σ res.2 := by
    intro k2 hk2 n
    induction n with
    | zero => intro x1 x2 σ hf; exact absurd hf (by intro h9; cases h9)
    | succ n hk17 =>
      intro x1 x2 σ hf
      have hm : wr_q (wS_W_takeFirstBetterPair) σ σ := wr_0
      have hf : wf_W_takeFirstBetterPair_17_b k2 (wf_W_takeFirstBetterPair_17 k2 n) x1 x2 σ = some res := hf
      unfold wf_W_takeFirstBetterPair_17_b at hf
      obtain ⟨v4, ev4, hf⟩ := wc_st_n hf
      by_cases c5 : v4 ≤ x2
      · have hf := wc_t c5 hf
        obtain ⟨v6, ev6, hf⟩ := wc_st_n hf
        exact wr_j hm (hk2 v6 σ hf)
      · have hf := wc_f c5 hf
        obtain ⟨r8, σ7, hq, hf⟩ := wc_b2_e hf
        have hm := wr_x hm (wr_W_takePairIfBetter _ _ _ _ hq) (by intro k i h; unfold wS_W_takePairIfBetter at h; unfold wS_W_takeFirstBetterPair; omega)
        by_cases c9 : r8 = 0
        · have hf := wc_t c9 hf
          obtain ⟨v10, ev10, hf⟩ := wc_st_n hf
          exact wr_j hm (hk17 x1 v10 σ7 hf)
        · have hf := wc_f c9 hf
          exact wr_f (g := fun r => r.2) hf hm
  have J2 : ∀ (n : Nat) (x1 : Int32) (σ : wc_S), wf_W_takeFirstBetterPair_2 n x1 σ = some res → wr_q (wS_W_takeFirstBetterPair) σ res.2 := by
    intro  n
    induction n with
    | zero => intro x1 σ hf; exact absurd hf (by intro h9; cases h9)
    | succ n hk2 =>
      intro x1 σ hf
      have hm : wr_q (wS_W_takeFirstBetterPair) σ σ := wr_0
      have hf : wf_W_takeFirstBetterPair_2_b (wf_W_takeFirstBetterPair_2 n) x1 σ = some res := hf
      unfold wf_W_takeFirstBetterPair_2_b at hf
      obtain ⟨v1, ev1, hf⟩ := wc_st_n hf
      by_cases c2 : v1 ≤ x1
      · have hf := wc_t c2 hf
        exact wr_f (g := fun r => r.2) hf hm
      · have hf := wc_f c2 hf
        obtain ⟨v3, ev3, hf⟩ := wc_st_n hf
        exact wr_j hm (J17 (wf_W_takeFirstBetterPair_2 n) hk2 16 x1 v3 σ hf)
  have hm : wr_q (wS_W_takeFirstBetterPair) σ σ := wr_0
  unfold wf_W_takeFirstBetterPair at hf
  exact wr_j hm (J2 16 0 σ hf)
theorem wr_W_coil (a1 : Int32) (a2 : Int32) (a3 : Int32) (a4 : Int32) (σ : wc_S) (res : wc_X (Int32 × wc_S)) (hf : wf_W_coil a1 a2 a3 a4 σ = some res) : wr_q (wS_W_coil) σ (wr_si res) := by
  have J43 : ∀ (σ : wc_S), wf_W_coil_43  σ = some res → wr_q (wS_W_coil) σ (wr_si res) := by
    intro   σ hf
    have hm : wr_q (wS_W_coil) σ σ := wr_0
    unfold wf_W_coil_43 at hf
    exact wr_f (g := wr_si) hf hm
  have hm : wr_q (wS_W_coil) σ σ := wr_0
  unfold wf_W_coil at hf
  obtain ⟨r2, σ1, hq, hf⟩ := wc_b2_e hf
  have hm := wr_x hm (wr_W_isOutside _ _ _ _ _ hq) (fun _ _ h => False.elim h)
  by_cases c3 : r2 = 0
  · have hf := wc_t c3 hf
    obtain ⟨r5, σ4, hq, hf⟩ := wc_b2_e hf
    have hm := wr_x hm (wr_W_isOutside _ _ _ _ _ hq) (fun _ _ h => False.elim h)
    by_cases c6 : r5 = 0
    · have hf := wc_t c6 hf
      obtain ⟨r8, σ7, hq, hf⟩ := wc_b2_e hf
      have hm := wr_x hm (wr_W_isOutside _ _ _ _ _ hq) (fun _ _ h => False.elim h)
      by_cases c9 : r8 = 0
      · have hf := wc_t c9 hf
        obtain ⟨r11, σ10, hq, hf⟩ := wc_b2_e hf
        have hm := wr_x hm (wr_W_isOutside _ _ _ _ _ hq) (fun _ _ h => False.elim h)
        by_cases c12 : r11 = 0
        · have hf := wc_t c12 hf
          obtain ⟨v13, ev13, hf⟩ := wc_st_n hf
          by_cases c14 : v13 < 9
          · have hf := wc_t c14 hf
            obtain ⟨σ15, hq, hf⟩ := wc_b1_e hf
            have hm := wr_x hm (wr_W_forgetOrder  _ _ hq) (by intro k i h; unfold wS_W_forgetOrder at h; unfold wS_W_coil; omega)
            obtain ⟨r17, σ16, hq, hf⟩ := wc_b2_e hf
            have hm := wr_x hm (wr_P_addCoil _ _ _ _ _ _ hq) (by intro k i h; unfold wS_P_addCoil at h; unfold wS_W_coil; omega)
            exact wr_f (g := wr_si) hf hm
          · have hf := wc_f c14 hf
            exact wr_f (g := wr_si) hf hm
        · have hf := wc_f c12 hf
          exact wr_j hm (J43  σ10 hf)
      · have hf := wc_f c9 hf
        exact wr_j hm (J43  σ7 hf)
    · have hf := wc_f c6 hf
      exact wr_j hm (J43  σ4 hf)
  · have hf := wc_f c3 hf
    exact wr_j hm (J43  σ1 hf)
theorem wr_W_table (a1 : Int32) (a2 : Int32) (a3 : Int32) (a4 : Int32) (σ : wc_S) (res : wc_X (Int32 × wc_S)) (hf : wf_W_table a1 a2 a3 a4 σ = some res) : wr_q (wS_W_table) σ (wr_si res) := by
  have J53 : ∀ (σ : wc_S), wf_W_table_53  σ = some res → wr_q (wS_W_table) σ (wr_si res) := by
    intro   σ hf
    have hm : wr_q (wS_W_table) σ σ := wr_0
    unfold wf_W_table_53 at hf
    exact wr_f (g := wr_si) hf hm
  have J84 : ∀ (x2 : Int32) (x3 : Int32) (x4 : Int32) (s0_ : Nat) (hs0_ : s0_ = 18 ∨ s0_ = 22) (σ : wc_S), wf_W_table_84 x2 x3 x4 s0_ σ = some res → wr_q (wS_W_table) σ (wr_si res) := by
    intro  x2 x3 x4 s0_ hs0_ σ hf
    have hm : wr_q (wS_W_table) σ σ := wr_0
    unfold wf_W_table_84 at hf
    obtain ⟨v14, ev14, hf⟩ := wc_st_n hf
    by_cases c15 : v14 < 8
    · have hf := wc_t c15 hf
      obtain ⟨σ16, hq, hf⟩ := wc_b1_e hf
      have hm := wr_x hm (wr_W_forgetOrder  _ _ hq) (by intro k i h; unfold wS_W_forgetOrder at h; unfold wS_W_table; omega)
      obtain ⟨σ17, hq, hf⟩ := wc_b1_e hf
      have hm := wr_x hm (wr_J_addRow _ _ _ _ _ _ hq) (by intro k i h; unfold wS_J_addRow at h; unfold wS_W_table; omega)
      obtain ⟨σ18, hq, hf⟩ := wc_b1_e hf
      have hm := wr_x hm (wr_P_reckonJumps  _ _ hq) (by intro k i h; unfold wS_P_reckonJumps at h; unfold wS_W_table; omega)
      obtain ⟨v19, ev19, hf⟩ := wc_st_n hf
      exact wr_f (g := wr_si) hf hm
    · have hf := wc_f c15 hf
      exact wr_f (g := wr_si) hf hm
  have hm : wr_q (wS_W_table) σ σ := wr_0
  unfold wf_W_table at hf
  obtain ⟨r2, σ1, hq, hf⟩ := wc_b2_e hf
  have hm := wr_x hm (wr_W_isOutside _ _ _ _ _ hq) (fun _ _ h => False.elim h)
  by_cases c3 : r2 = 0
  · have hf := wc_t c3 hf
    obtain ⟨r5, σ4, hq, hf⟩ := wc_b2_e hf
    have hm := wr_x hm (wr_W_isOutside _ _ _ _ _ hq) (fun _ _ h => False.elim h)
    by_cases c6 : r5 = 0
    · have hf := wc_t c6 hf
      obtain ⟨r8, σ7, hq, hf⟩ := wc_b2_e hf
      have hm := wr_x hm (wr_W_isOutside _ _ _ _ _ hq) (fun _ _ h => False.elim h)
      by_cases c9 : r8 = 0
      · have hf := wc_t c9 hf
        obtain ⟨r11, σ10, hq, hf⟩ := wc_b2_e hf
        have hm := wr_x hm (wr_W_isOutside _ _ _ _ _ hq) (fun _ _ h => False.elim h)
        by_cases c12 : r11 = 0
        · have hf := wc_t c12 hf
          by_cases c13 : a1 = 0
          · have hf := wc_t c13 hf
            exact wr_j hm (J84 a2 a3 a4 18 (Or.inl rfl) σ10 hf)
          · have hf := wc_f c13 hf
            exact wr_j hm (J84 a2 a3 a4 22 (Or.inr rfl) σ10 hf)
        · have hf := wc_f c12 hf
          exact wr_j hm (J53  σ10 hf)
      · have hf := wc_f c9 hf
        exact wr_j hm (J53  σ7 hf)
    · have hf := wc_f c6 hf
      exact wr_j hm (J53  σ4 hf)
  · have hf := wc_f c3 hf
    exact wr_f (g := wr_si) hf hm
theorem wr_W_group (a1 : Int32) (a2 : Int32) (a3 : Int32) (σ : wc_S) (res : wc_X (Int32 × wc_S)) (hf : wf_W_group a1 a2 a3 σ = some res) : wr_q (wS_W_group) σ (wr_si res) := by
  have J33 : ∀ (σ : wc_S), wf_W_group_33  σ = some res → wr_q (wS_W_group) σ (wr_si res) := by
    intro   σ hf
    have hm : wr_q (wS_W_group) σ σ := wr_0
    unfold wf_W_group_33 at hf
    exact wr_f (g := wr_si) hf hm
  have hm : wr_q (wS_W_group) σ σ := wr_0
  unfold wf_W_group at hf
  obtain ⟨r2, σ1, hq, hf⟩ := wc_b2_e hf
  have hm := wr_x hm (wr_W_isOutside _ _ _ _ _ hq) (fun _ _ h => False.elim h)
  by_cases c3 : r2 = 0
  · have hf := wc_t c3 hf
    obtain ⟨r5, σ4, hq, hf⟩ := wc_b2_e hf
    have hm := wr_x hm (wr_W_isOutside _ _ _ _ _ hq) (fun _ _ h => False.elim h)
    by_cases c6 : r5 = 0
    · have hf := wc_t c6 hf
      obtain ⟨r8, σ7, hq, hf⟩ := wc_b2_e hf
      have hm := wr_x hm (wr_W_isOutside _ _ _ _ _ hq) (fun _ _ h => False.elim h)
      by_cases c9 : r8 = 0
      · have hf := wc_t c9 hf
        obtain ⟨v10, ev10, hf⟩ := wc_st_n hf
        by_cases c11 : v10 < 4
        · have hf := wc_t c11 hf
          obtain ⟨σ12, hq, hf⟩ := wc_b1_e hf
          have hm := wr_x hm (wr_W_forgetOrder  _ _ hq) (by intro k i h; unfold wS_W_forgetOrder at h; unfold wS_W_group; omega)
          obtain ⟨σ13, hq, hf⟩ := wc_b1_e hf
          have hm := wr_x hm (wr_G_addGroup _ _ _ _ _ hq) (by intro k i h; unfold wS_G_addGroup at h; unfold wS_W_group; omega)
          obtain ⟨v14, ev14, hf⟩ := wc_st_n hf
          exact wr_f (g := wr_si) hf hm
        · have hf := wc_f c11 hf
          exact wr_f (g := wr_si) hf hm
      · have hf := wc_f c9 hf
        exact wr_j hm (J33  σ7 hf)
    · have hf := wc_f c6 hf
      exact wr_j hm (J33  σ4 hf)
  · have hf := wc_f c3 hf
    exact wr_j hm (J33  σ1 hf)
theorem wr_W_urgent (a1 : Int32) (a2 : Int32) (σ : wc_S) (res : wc_X wc_S) (hf : wf_W_urgent a1 a2 σ = some res) : wr_q (wS_W_urgent) σ (wr_sv res) := by
  have hm : wr_q (wS_W_urgent) σ σ := wr_0
  unfold wf_W_urgent at hf
  obtain ⟨r2, σ1, hq, hf⟩ := wc_b2_e hf
  have hm := wr_x hm (wr_W_isNoCoil _ _ _ hq) (fun _ _ h => False.elim h)
  by_cases c3 : r2 = 0
  · have hf := wc_t c3 hf
    obtain ⟨r5, σ4, hq, hf⟩ := wc_b2_e hf
    have hm := wr_x hm (wr_W_isOutside _ _ _ _ _ hq) (fun _ _ h => False.elim h)
    by_cases c6 : r5 = 0
    · have hf := wc_t c6 hf
      obtain ⟨σ7, hq, hf⟩ := wc_b1_e hf
      have hm := wr_x hm (wr_W_forgetOrder  _ _ hq) (by intro k i h; unfold wS_W_forgetOrder at h; unfold wS_W_urgent; omega)
      obtain ⟨h8, hf⟩ := wc_gd_e hf
      obtain ⟨σ9, eσ9, hf⟩ := wc_st_n hf
      have hm := wr_u hm eσ9 (by unfold wS_W_urgent; omega)
      exact wr_f (g := wr_sv) hf hm
    · have hf := wc_f c6 hf
      exact wr_f (g := wr_sv) hf hm
  · have hf := wc_f c3 hf
    exact wr_f (g := wr_sv) hf hm
theorem wr_W_old (a1 : Int32) (a2 : Int32) (σ : wc_S) (res : wc_X wc_S) (hf : wf_W_old a1 a2 σ = some res) : wr_q (wS_W_old) σ (wr_sv res) := by
  have hm : wr_q (wS_W_old) σ σ := wr_0
  unfold wf_W_old at hf
  obtain ⟨r2, σ1, hq, hf⟩ := wc_b2_e hf
  have hm := wr_x hm (wr_W_isNoCoil _ _ _ hq) (fun _ _ h => False.elim h)
  by_cases c3 : r2 = 0
  · have hf := wc_t c3 hf
    obtain ⟨r5, σ4, hq, hf⟩ := wc_b2_e hf
    have hm := wr_x hm (wr_W_isOutside _ _ _ _ _ hq) (fun _ _ h => False.elim h)
    by_cases c6 : r5 = 0
    · have hf := wc_t c6 hf
      obtain ⟨σ7, hq, hf⟩ := wc_b1_e hf
      have hm := wr_x hm (wr_W_forgetOrder  _ _ hq) (by intro k i h; unfold wS_W_forgetOrder at h; unfold wS_W_old; omega)
      obtain ⟨h8, hf⟩ := wc_gd_e hf
      obtain ⟨σ9, eσ9, hf⟩ := wc_st_n hf
      have hm := wr_u hm eσ9 (by unfold wS_W_old; omega)
      exact wr_f (g := wr_sv) hf hm
    · have hf := wc_f c6 hf
      exact wr_f (g := wr_sv) hf hm
  · have hf := wc_f c3 hf
    exact wr_f (g := wr_sv) hf hm
theorem wr_W_rules (a1 : Int32) (a2 : Int32) (a3 : Int32) (a4 : Int32) (σ : wc_S) (res : wc_X wc_S) (hf : wf_W_rules a1 a2 a3 a4 σ = some res) : wr_q (wS_W_rules) σ (wr_sv res) := by
  have J44 : ∀ (σ : wc_S), wf_W_rules_44  σ = some res → wr_q (wS_W_rules) σ (wr_sv res) := by
    intro   σ hf
    have hm : wr_q (wS_W_rules) σ σ := wr_0
    unfold wf_W_rules_44 at hf
    exact wr_f (g := wr_sv) hf hm
  have hm : wr_q (wS_W_rules) σ σ := wr_0
  unfold wf_W_rules at hf
  obtain ⟨r2, σ1, hq, hf⟩ := wc_b2_e hf
  have hm := wr_x hm (wr_W_isOutside _ _ _ _ _ hq) (fun _ _ h => False.elim h)
  by_cases c3 : r2 = 0
  · have hf := wc_t c3 hf
    obtain ⟨r5, σ4, hq, hf⟩ := wc_b2_e hf
    have hm := wr_x hm (wr_W_isOutside _ _ _ _ _ hq) (fun _ _ h => False.elim h)
    by_cases c6 : r5 = 0
    · have hf := wc_t c6 hf
      obtain ⟨r8, σ7, hq, hf⟩ := wc_b2_e hf
      have hm := wr_x hm (wr_W_isOutside _ _ _ _ _ hq) (fun _ _ h => False.elim h)
      by_cases c9 : r8 = 0
      · have hf := wc_t c9 hf
        obtain ⟨r11, σ10, hq, hf⟩ := wc_b2_e hf
        have hm := wr_x hm (wr_W_isOutside _ _ _ _ _ hq) (fun _ _ h => False.elim h)
        by_cases c12 : r11 = 0
        · have hf := wc_t c12 hf
          obtain ⟨σ13, hq, hf⟩ := wc_b1_e hf
          have hm := wr_x hm (wr_W_forgetOrder  _ _ hq) (by intro k i h; unfold wS_W_forgetOrder at h; unfold wS_W_rules; omega)
          obtain ⟨σ14, eσ14, hf⟩ := wc_st_n hf
          have hm := wr_u hm eσ14 (by unfold wS_W_rules; omega)
          obtain ⟨σ15, eσ15, hf⟩ := wc_st_n hf
          have hm := wr_u hm eσ15 (by unfold wS_W_rules; omega)
          obtain ⟨σ16, eσ16, hf⟩ := wc_st_n hf
          have hm := wr_u hm eσ16 (by unfold wS_W_rules; omega)
          obtain ⟨σ17, eσ17, hf⟩ := wc_st_n hf
          have hm := wr_u hm eσ17 (by unfold wS_W_rules; omega)
          exact wr_f (g := wr_sv) hf hm
        · have hf := wc_f c12 hf
          exact wr_j hm (J44  σ10 hf)
      · have hf := wc_f c9 hf
        exact wr_j hm (J44  σ7 hf)
    · have hf := wc_f c6 hf
      exact wr_j hm (J44  σ4 hf)
  · have hf := wc_f c3 hf
    exact wr_j hm (J44  σ1 hf)
theorem wr_W_run (a1 : Int32) (σ : wc_S) (res : wc_X (Int32 × wc_S)) (hf : wf_W_run a1 σ = some res) : wr_q (wS_W_run) σ (wr_si res) := by
  have hm : wr_q (wS_W_run) σ σ := wr_0
  unfold wf_W_run at hf
  obtain ⟨r2, σ1, hq, hf⟩ := wc_b2_e hf
  have hm := wr_x hm (wr_W_isOutside _ _ _ _ _ hq) (fun _ _ h => False.elim h)
  by_cases c3 : r2 = 0
  · have hf := wc_t c3 hf
    obtain ⟨σ4, hq, hf⟩ := wc_b1_e hf
    have hm := wr_x hm (wr_S_searchWith _ _ _ hq) (by intro k i h; unfold wS_S_searchWith at h; unfold wS_W_run; omega)
    obtain ⟨σ5, eσ5, hf⟩ := wc_st_n hf
    have hm := wr_u hm eσ5 (by unfold wS_W_run; omega)
    obtain ⟨v6, ev6, hf⟩ := wc_st_n hf
    obtain ⟨h7, hf⟩ := wc_gd_e hf
    obtain ⟨σ8, eσ8, hf⟩ := wc_st_n hf
    have hm := wr_u hm eσ8 (by unfold wS_W_run; omega)
    obtain ⟨v9, ev9, hf⟩ := wc_st_n hf
    by_cases c10 : v9 = 0
    · have hf := wc_t c10 hf
      exact wr_f (g := wr_si) hf hm
    · have hf := wc_f c10 hf
      obtain ⟨r12, σ11, hq, hf⟩ := wc_b2_e hf
      have hm := wr_x hm (wr_L_layAll _ _ _ _ hq) (by intro k i h; unfold wS_L_layAll at h; unfold wS_W_run; omega)
      obtain ⟨v13, ev13, hf⟩ := wc_st_n hf
      exact wr_f (g := wr_si) hf hm
  · have hf := wc_f c3 hf
    exact wr_f (g := wr_si) hf hm
theorem wr_W_proved (σ : wc_S) (res : wc_X (Int32 × wc_S)) (hf : wf_W_proved  σ = some res) : wr_q (wS_W_proved) σ (wr_si res) := by
  have hm : wr_q (wS_W_proved) σ σ := wr_0
  unfold wf_W_proved at hf
  obtain ⟨v1, ev1, hf⟩ := wc_st_n hf
  by_cases c2 : v1 = 0
  · have hf := wc_t c2 hf
    exact wr_f (g := wr_si) hf hm
  · have hf := wc_f c2 hf
    obtain ⟨v3, ev3, hf⟩ := wc_st_n hf
    by_cases c4 : v3 = 0
    · have hf := wc_t c4 hf
      exact wr_f (g := wr_si) hf hm
    · have hf := wc_f c4 hf
      exact wr_f (g := wr_si) hf hm
theorem wr_W_order (a1 : Int32) (σ : wc_S) (res : wc_X (Int32 × wc_S)) (hf : wf_W_order a1 σ = some res) : wr_q (wS_W_order) σ (wr_si res) := by
  have hm : wr_q (wS_W_order) σ σ := wr_0
  unfold wf_W_order at hf
  obtain ⟨q, hq, hf⟩ := wc_bx_e hf
  have hm := wr_x hm (wr_W_requireOrder  _ _ hq) (fun _ _ h => False.elim h)
  rcases q with u | σ1
  · rw [← wc_bx_l hf]; exact hm
  have hf := wc_bx_r hf
  have hm : wr_q (wS_W_order) σ σ1 := hm
  obtain ⟨q, hq, hf⟩ := wc_bx_e hf
  have hm := wr_x hm (wr_W_requirePlace _ _ _ hq) (fun _ _ h => False.elim h)
  rcases q with u | σ2
  · rw [← wc_bx_l hf]; exact hm
  have hf := wc_bx_r hf
  have hm : wr_q (wS_W_order) σ σ2 := hm
  obtain ⟨h3, hf⟩ := wc_gd_e hf
  obtain ⟨v4, ev4, hf⟩ := wc_st_n hf
  exact wr_f (g := wr_si) hf hm
theorem wr_W_told (a1 : Int32) (σ : wc_S) (res : wc_X (Int32 × wc_S)) (hf : wf_W_told a1 σ = some res) : wr_q (wS_W_told) σ (wr_si res) := by
  have hm : wr_q (wS_W_told) σ σ := wr_0
  unfold wf_W_told at hf
  obtain ⟨r2, σ1, hq, hf⟩ := wc_b2_e hf
  have hm := wr_x hm (wr_W_isOutside _ _ _ _ _ hq) (fun _ _ h => False.elim h)
  by_cases c3 : r2 = 0
  · have hf := wc_t c3 hf
    obtain ⟨q, hq, hf⟩ := wc_bx_e hf
    have hm := wr_x hm (wr_W_requireOrder  _ _ hq) (fun _ _ h => False.elim h)
    rcases q with u | σ4
    · rw [← wc_bx_l hf]; exact hm
    have hf := wc_bx_r hf
    have hm : wr_q (wS_W_told) σ σ4 := hm
    by_cases c5 : a1 = 0
    · have hf := wc_t c5 hf
      obtain ⟨r12, σ11, hq, hf⟩ := wc_b2_e hf
      have hm := wr_x hm (wr_L_penaltySoFar _ _ _ hq) (fun _ _ h => False.elim h)
      exact wr_f (g := wr_si) hf hm
    · have hf := wc_f c5 hf
      by_cases c6 : a1 = 1
      · have hf := wc_t c6 hf
        obtain ⟨r10, σ9, hq, hf⟩ := wc_b2_e hf
        have hm := wr_x hm (wr_L_changesSoFar _ _ _ hq) (fun _ _ h => False.elim h)
        exact wr_f (g := wr_si) hf hm
      · have hf := wc_f c6 hf
        obtain ⟨r8, σ7, hq, hf⟩ := wc_b2_e hf
        have hm := wr_x hm (wr_L_movedSoFar _ _ _ hq) (fun _ _ h => False.elim h)
        exact wr_f (g := wr_si) hf hm
  · have hf := wc_f c3 hf
    exact wr_f (g := wr_si) hf hm
theorem wr_W_change (a1 : Int32) (σ : wc_S) (res : wc_X (Int32 × wc_S)) (hf : wf_W_change a1 σ = some res) : wr_q (wS_W_change) σ (wr_si res) := by
  have hm : wr_q (wS_W_change) σ σ := wr_0
  unfold wf_W_change at hf
  obtain ⟨q, hq, hf⟩ := wc_bx_e hf
  have hm := wr_x hm (wr_W_requireOrder  _ _ hq) (fun _ _ h => False.elim h)
  rcases q with u | σ1
  · rw [← wc_bx_l hf]; exact hm
  have hf := wc_bx_r hf
  have hm : wr_q (wS_W_change) σ σ1 := hm
  obtain ⟨q, hq, hf⟩ := wc_bx_e hf
  have hm := wr_x hm (wr_W_requirePlace _ _ _ hq) (fun _ _ h => False.elim h)
  rcases q with u | σ2
  · rw [← wc_bx_l hf]; exact hm
  have hf := wc_bx_r hf
  have hm : wr_q (wS_W_change) σ σ2 := hm
  obtain ⟨h3, hf⟩ := wc_gd_e hf
  obtain ⟨v4, ev4, hf⟩ := wc_st_n hf
  obtain ⟨h5, hf⟩ := wc_gd_e hf
  exact wr_f (g := wr_si) hf hm
theorem wr_W_jump (a1 : Int32) (a2 : Int32) (σ : wc_S) (res : wc_X (Int32 × wc_S)) (hf : wf_W_jump a1 a2 σ = some res) : wr_q (wS_W_jump) σ (wr_si res) := by
  have J21 : ∀ (σ : wc_S), wf_W_jump_21  σ = some res → wr_q (wS_W_jump) σ (wr_si res) := by
    intro   σ hf
    have hm : wr_q (wS_W_jump) σ σ := wr_0
    unfold wf_W_jump_21 at hf
    exact wr_f (g := wr_si) hf hm
  have hm : wr_q (wS_W_jump) σ σ := wr_0
  unfold wf_W_jump at hf
  obtain ⟨r2, σ1, hq, hf⟩ := wc_b2_e hf
  have hm := wr_x hm (wr_W_isNoCoil _ _ _ hq) (fun _ _ h => False.elim h)
  by_cases c3 : r2 = 0
  · have hf := wc_t c3 hf
    obtain ⟨r5, σ4, hq, hf⟩ := wc_b2_e hf
    have hm := wr_x hm (wr_W_isNoCoil _ _ _ hq) (fun _ _ h => False.elim h)
    by_cases c6 : r5 = 0
    · have hf := wc_t c6 hf
      by_cases c7 : a1 = a2
      · have hf := wc_t c7 hf
        exact wr_j hm (J21  σ4 hf)
      · have hf := wc_f c7 hf
        obtain ⟨h8, hf⟩ := wc_gd_e hf
        obtain ⟨h9, hf⟩ := wc_gd_e hf
        obtain ⟨v10, ev10, hf⟩ := wc_st_n hf
        exact wr_f (g := wr_si) hf hm
    · have hf := wc_f c6 hf
      exact wr_j hm (J21  σ4 hf)
  · have hf := wc_f c3 hf
    exact wr_j hm (J21  σ1 hf)
theorem wr_W_bound (σ : wc_S) (res : Int32 × wc_S) (hf : wf_W_bound  σ = some res) : wr_q (wS_W_bound) σ res.2 := by
  have J6 : ∀ (n : Nat) (x1 : Int32) (x2 : Int32) (x3 : Int32) (σ : wc_S), wf_W_bound_6 n x1 x2 x3 σ = some res → wr_q (wS_W_bound) σ res.2 := by
    intro  n
    induction n with
    | zero => intro x1 x2 x3 σ hf; exact absurd hf (by intro h9; cases h9)
    | succ n hk6 =>
      intro x1 x2 x3 σ hf
      have hm : wr_q (wS_W_bound) σ σ := wr_0
      have hf : wf_W_bound_6_b (wf_W_bound_6 n) x1 x2 x3 σ = some res := hf
      unfold wf_W_bound_6_b at hf
      obtain ⟨v1, ev1, hf⟩ := wc_st_n hf
      by_cases c2 : v1 ≤ x3
      · have hf := wc_t c2 hf
        obtain ⟨v3, ev3, hf⟩ := wc_st_n hf
        exact wr_f (g := fun r => r.2) hf hm
      · have hf := wc_f c2 hf
        obtain ⟨r5, σ4, hq, hf⟩ := wc_b2_e hf
        have hm := wr_x hm (wr_P_leastJumpTo _ _ _ hq) (fun _ _ h => False.elim h)
        obtain ⟨v6, ev6, hf⟩ := wc_st_n hf
        obtain ⟨v7, ev7, hf⟩ := wc_st_n hf
        obtain ⟨v8, ev8, hf⟩ := wc_st_n hf
        exact wr_j hm (hk6 v6 v7 v8 σ4 hf)
  have hm : wr_q (wS_W_bound) σ σ := wr_0
  unfold wf_W_bound at hf
  exact wr_j hm (J6 16 0 0 0 σ hf)
theorem wr_W_tell (a1 : Int64) (σ : wc_S) (res : wc_X wc_S) (hf : wf_W_tell a1 σ = some res) : wr_q (wS_W_tell) σ (wr_sv res) := by
  have hm : wr_q (wS_W_tell) σ σ := wr_0
  unfold wf_W_tell at hf
  obtain ⟨r2, σ1, hq, hf⟩ := wc_b2_e hf
  have hm := wr_x hm (wr_W_readIntoScratch _ _ _ hq) (by intro k i h; unfold wS_W_readIntoScratch at h; unfold wS_W_tell; omega)
  by_cases c3 : r2 = 0
  · have hf := wc_t c3 hf
    exact wr_f (g := wr_sv) hf hm
  · have hf := wc_f c3 hf
    obtain ⟨r5, σ4, hq, hf⟩ := wc_b2_e hf
    have hm := wr_x hm (wr_L_layAll _ _ _ _ hq) (by intro k i h; unfold wS_L_layAll at h; unfold wS_W_tell; omega)
    by_cases c6 : r5 = 0
    · have hf := wc_t c6 hf
      exact wr_f (g := wr_sv) hf hm
    · have hf := wc_f c6 hf
      obtain ⟨r8, σ7, hq, hf⟩ := wc_b2_e hf
      have hm := wr_x hm (wr_L_layAll _ _ _ _ hq) (by intro k i h; unfold wS_L_layAll at h; unfold wS_W_tell; omega)
      obtain ⟨σ9, eσ9, hf⟩ := wc_st_n hf
      have hm := wr_u hm eσ9 (by unfold wS_W_tell; omega)
      exact wr_f (g := wr_sv) hf hm
theorem wr_W_improve (a1 : Int32) (σ : wc_S) (res : wc_X (Int32 × wc_S)) (hf : wf_W_improve a1 σ = some res) : wr_q (wS_W_improve) σ (wr_si res) := by
  have J26 : ∀ (n : Nat) (x1 : Int32) (x2 : Int32) (σ : wc_S), wf_W_improve_26 n x1 x2 σ = some res → wr_q (wS_W_improve) σ (wr_si res) := by
    intro  n
    induction n with
    | zero => intro x1 x2 σ hf; exact absurd hf (by intro h9; cases h9)
    | succ n hk26 =>
      intro x1 x2 σ hf
      have hm : wr_q (wS_W_improve) σ σ := wr_0
      have hf : wf_W_improve_26_b (wf_W_improve_26 n) x1 x2 σ = some res := hf
      unfold wf_W_improve_26_b at hf
      by_cases c5 : x1 ≤ x2
      · have hf := wc_t c5 hf
        exact wr_f (g := wr_si) hf hm
      · have hf := wc_f c5 hf
        obtain ⟨r7, σ6, hq, hf⟩ := wc_b2_e hf
        have hm := wr_x hm (wr_W_takeFirstBetterPair  _ _ hq) (by intro k i h; unfold wS_W_takeFirstBetterPair at h; unfold wS_W_improve; omega)
        by_cases c8 : r7 = 0
        · have hf := wc_t c8 hf
          exact wr_f (g := wr_si) hf hm
        · have hf := wc_f c8 hf
          obtain ⟨v9, ev9, hf⟩ := wc_st_n hf
          exact wr_j hm (hk26 x1 v9 σ6 hf)
  have hm : wr_q (wS_W_improve) σ σ := wr_0
  unfold wf_W_improve at hf
  obtain ⟨q, hq, hf⟩ := wc_bx_e hf
  have hm := wr_x hm (wr_W_requireOrder  _ _ hq) (fun _ _ h => False.elim h)
  rcases q with u | σ1
  · rw [← wc_bx_l hf]; exact hm
  have hf := wc_bx_r hf
  have hm : wr_q (wS_W_improve) σ σ1 := hm
  obtain ⟨r3, σ2, hq, hf⟩ := wc_b2_e hf
  have hm := wr_x hm (wr_W_isOutside _ _ _ _ _ hq) (fun _ _ h => False.elim h)
  by_cases c4 : r3 = 0
  · have hf := wc_t c4 hf
    exact wr_j hm (J26 128 a1 0 σ2 hf)
  · have hf := wc_f c4 hf
    exact wr_f (g := wr_si) hf hm
theorem wr_M_thrown (σ : wc_S) (res : Int32 × wc_S) (hf : wf_M_thrown  σ = some res) : wr_q (wS_M_thrown) σ res.2 := by
  have hm : wr_q (wS_M_thrown) σ σ := wr_0
  unfold wf_M_thrown at hf
  obtain ⟨v1, ev1, hf⟩ := wc_st_n hf
  exact wr_f (g := fun r => r.2) hf hm
theorem wr_M_in (a0 : Int32) (a1 : Int32) (a2 : Int32) (σ : wc_S) (res : Int32 × wc_S) (hf : wf_M_in a0 a1 a2 σ = some res) : wr_q (wS_M_in) σ res.2 := by
  have hm : wr_q (wS_M_in) σ σ := wr_0
  unfold wf_M_in at hf
  by_cases c1 : a0 < a1
  · have hf := wc_t c1 hf
    exact wr_f (g := fun r => r.2) hf hm
  · have hf := wc_f c1 hf
    by_cases c2 : a2 < a0
    · have hf := wc_t c2 hf
      exact wr_f (g := fun r => r.2) hf hm
    · have hf := wc_f c2 hf
      exact wr_f (g := fun r => r.2) hf hm
theorem wr_M_goes (a1 : Int32) (a2 : Int32) (a3 : Int32) (σ : wc_S) (res : Int32 × wc_S) (hf : wf_M_goes a1 a2 a3 σ = some res) : wr_q (wS_M_goes) σ res.2 := by
  have J26 : ∀ (s1 : Int32) (σ : wc_S), wf_M_goes_26 s1 σ = some res → wr_q (wS_M_goes) σ res.2 := by
    intro  s1 σ hf
    have hm : wr_q (wS_M_goes) σ σ := wr_0
    unfold wf_M_goes_26 at hf
    obtain ⟨σ4, eσ4, hf⟩ := wc_st_n hf
    have hm := wr_u hm eσ4 (by unfold wS_M_goes; omega)
    obtain ⟨v5, ev5, hf⟩ := wc_st_n hf
    by_cases c6 : v5 = 0
    · have hf := wc_t c6 hf
      exact wr_f (g := fun r => r.2) hf hm
    · have hf := wc_f c6 hf
      exact wr_f (g := fun r => r.2) hf hm
  have hm : wr_q (wS_M_goes) σ σ := wr_0
  unfold wf_M_goes at hf
  by_cases c1 : a1 = 0
  · have hf := wc_t c1 hf
    exact wr_j hm (J26 1 σ hf)
  · have hf := wc_f c1 hf
    by_cases c2 : a2 = 0
    · have hf := wc_t c2 hf
      exact wr_j hm (J26 2 σ hf)
    · have hf := wc_f c2 hf
      by_cases c3 : a3 = 0
      · have hf := wc_t c3 hf
        exact wr_j hm (J26 3 σ hf)
      · have hf := wc_f c3 hf
        exact wr_j hm (J26 0 σ hf)
theorem wr_M_gone (σ : wc_S) (res : wc_S) (hf : wf_M_gone  σ = some res) : wr_q (wS_M_gone) σ res := by
  have hm : wr_q (wS_M_gone) σ σ := wr_0
  unfold wf_M_gone at hf
  obtain ⟨σ1, eσ1, hf⟩ := wc_st_n hf
  have hm := wr_u hm eσ1 (by unfold wS_M_gone; omega)
  obtain ⟨σ2, eσ2, hf⟩ := wc_st_n hf
  have hm := wr_u hm eσ2 (by unfold wS_M_gone; omega)
  exact wr_f (g := fun r => r) hf hm
theorem wr_M_isCoil (a1 : Int32) (σ : wc_S) (res : Int32 × wc_S) (hf : wf_M_isCoil a1 σ = some res) : wr_q (wS_M_isCoil) σ res.2 := by
  have hm : wr_q (wS_M_isCoil) σ σ := wr_0
  unfold wf_M_isCoil at hf
  obtain ⟨v1, ev1, hf⟩ := wc_st_n hf
  obtain ⟨v2, ev2, hf⟩ := wc_st_n hf
  obtain ⟨r4, σ3, hq, hf⟩ := wc_b2_e hf
  have hm := wr_x hm (wr_M_in _ _ _ _ _ hq) (fun _ _ h => False.elim h)
  obtain ⟨h5, hf⟩ := wc_gd_e hf
  exact wr_f (g := fun r => r.2) hf hm
theorem wr_M_coil (a1 : Int32) (a2 : Int32) (a3 : Int32) (a4 : Int32) (σ : wc_S) (res : Int32 × wc_S) (hf : wf_M_coil a1 a2 a3 a4 σ = some res) : wr_q (wS_M_coil) σ res.2 := by
  have J63 : ∀ (x1 : Int32) (x2 : Int32) (x3 : Int32) (x4 : Int32) (s1 : Int32) (s2 : Int32) (σ : wc_S), wf_M_coil_63 x1 x2 x3 x4 s1 s2 σ = some res → wr_q (wS_M_coil) σ res.2 := by
    intro  x1 x2 x3 x4 s1 s2 σ hf
    have hm : wr_q (wS_M_coil) σ σ := wr_0
    unfold wf_M_coil_63 at hf
    obtain ⟨r7, σ6, hq, hf⟩ := wc_b2_e hf
    have hm := wr_x hm (wr_M_goes _ _ _ _ _ hq) (by intro k i h; unfold wS_M_goes at h; unfold wS_M_coil; omega)
    by_cases c8 : r7 = 0
    · have hf := wc_t c8 hf
      exact wr_f (g := fun r => r.2) hf hm
    · have hf := wc_f c8 hf
      obtain ⟨v9, ev9, hf⟩ := wc_st_n hf
      obtain ⟨h10, hf⟩ := wc_gd_e hf
      obtain ⟨σ11, eσ11, hf⟩ := wc_st_n hf
      have hm := wr_u hm eσ11 (by unfold wS_M_coil; omega)
      obtain ⟨v12, ev12, hf⟩ := wc_st_n hf
      obtain ⟨h13, hf⟩ := wc_gd_e hf
      obtain ⟨σ14, eσ14, hf⟩ := wc_st_n hf
      have hm := wr_u hm eσ14 (by unfold wS_M_coil; omega)
      obtain ⟨v15, ev15, hf⟩ := wc_st_n hf
      obtain ⟨h16, hf⟩ := wc_gd_e hf
      obtain ⟨σ17, eσ17, hf⟩ := wc_st_n hf
      have hm := wr_u hm eσ17 (by unfold wS_M_coil; omega)
      obtain ⟨v18, ev18, hf⟩ := wc_st_n hf
      obtain ⟨h19, hf⟩ := wc_gd_e hf
      obtain ⟨σ20, eσ20, hf⟩ := wc_st_n hf
      have hm := wr_u hm eσ20 (by unfold wS_M_coil; omega)
      obtain ⟨v21, ev21, hf⟩ := wc_st_n hf
      obtain ⟨h22, hf⟩ := wc_gd_e hf
      obtain ⟨σ23, eσ23, hf⟩ := wc_st_n hf
      have hm := wr_u hm eσ23 (by unfold wS_M_coil; omega)
      obtain ⟨v24, ev24, hf⟩ := wc_st_n hf
      obtain ⟨h25, hf⟩ := wc_gd_e hf
      obtain ⟨σ26, eσ26, hf⟩ := wc_st_n hf
      have hm := wr_u hm eσ26 (by unfold wS_M_coil; omega)
      obtain ⟨v27, ev27, hf⟩ := wc_st_n hf
      obtain ⟨v28, ev28, hf⟩ := wc_st_n hf
      obtain ⟨σ29, eσ29, hf⟩ := wc_st_n hf
      have hm := wr_u hm eσ29 (by unfold wS_M_coil; omega)
      obtain ⟨σ30, hq, hf⟩ := wc_b1_e hf
      have hm := wr_x hm (wr_M_gone  _ _ hq) (by intro k i h; unfold wS_M_gone at h; unfold wS_M_coil; omega)
      obtain ⟨v31, ev31, hf⟩ := wc_st_n hf
      obtain ⟨v32, ev32, hf⟩ := wc_st_n hf
      exact wr_f (g := fun r => r.2) hf hm
  have J49 : ∀ (x1 : Int32) (x2 : Int32) (x3 : Int32) (x4 : Int32) (s1 : Int32) (σ : wc_S), wf_M_coil_49 x1 x2 x3 x4 s1 σ = some res → wr_q (wS_M_coil) σ res.2 := by
    intro  x1 x2 x3 x4 s1 σ hf
    have hm : wr_q (wS_M_coil) σ σ := wr_0
    unfold wf_M_coil_49 at hf
    obtain ⟨v4, ev4, hf⟩ := wc_st_n hf
    by_cases c5 : 9 ≤ v4
    · have hf := wc_t c5 hf
      exact wr_j hm (J63 x1 x2 x3 x4 s1 0 σ hf)
    · have hf := wc_f c5 hf
      exact wr_j hm (J63 x1 x2 x3 x4 s1 1 σ hf)
  have J48 : ∀ (x1 : Int32) (x2 : Int32) (x3 : Int32) (x4 : Int32) (σ : wc_S), wf_M_coil_48 x1 x2 x3 x4 σ = some res → wr_q (wS_M_coil) σ res.2 := by
    intro  x1 x2 x3 x4 σ hf
    have hm : wr_q (wS_M_coil) σ σ := wr_0
    unfold wf_M_coil_48 at hf
    exact wr_j hm (J49 x1 x2 x3 x4 0 σ hf)
  have hm : wr_q (wS_M_coil) σ σ := wr_0
  unfold wf_M_coil at hf
  obtain ⟨r2, σ1, hq, hf⟩ := wc_b2_e hf
  have hm := wr_x hm (wr_M_in _ _ _ _ _ hq) (fun _ _ h => False.elim h)
  by_cases c3 : r2 = 0
  · have hf := wc_t c3 hf
    exact wr_j hm (J48 a1 a2 a3 a4 σ1 hf)
  · have hf := wc_f c3 hf
    obtain ⟨r34, σ33, hq, hf⟩ := wc_b2_e hf
    have hm := wr_x hm (wr_M_in _ _ _ _ _ hq) (fun _ _ h => False.elim h)
    by_cases c35 : r34 = 0
    · have hf := wc_t c35 hf
      exact wr_j hm (J48 a1 a2 a3 a4 σ33 hf)
    · have hf := wc_f c35 hf
      obtain ⟨r37, σ36, hq, hf⟩ := wc_b2_e hf
      have hm := wr_x hm (wr_M_in _ _ _ _ _ hq) (fun _ _ h => False.elim h)
      by_cases c38 : r37 = 0
      · have hf := wc_t c38 hf
        exact wr_j hm (J48 a1 a2 a3 a4 σ36 hf)
      · have hf := wc_f c38 hf
        obtain ⟨r40, σ39, hq, hf⟩ := wc_b2_e hf
        have hm := wr_x hm (wr_M_in _ _ _ _ _ hq) (fun _ _ h => False.elim h)
        by_cases c41 : r40 = 0
        · have hf := wc_t c41 hf
          exact wr_j hm (J48 a1 a2 a3 a4 σ39 hf)
        · have hf := wc_f c41 hf
          exact wr_j hm (J49 a1 a2 a3 a4 1 σ39 hf)
theorem wr_M_table (a1 : Int32) (a2 : Int32) (a3 : Int32) (a4 : Int32) (σ : wc_S) (res : Int32 × wc_S) (hf : wf_M_table a1 a2 a3 a4 σ = some res) : wr_q (wS_M_table) σ res.2 := by
  have J71 : ∀ (x1 : Int32) (x2 : Int32) (x3 : Int32) (x4 : Int32) (s1 : Int32) (s2 : Int32) (s3 : Int32) (σ : wc_S), wf_M_table_71 x1 x2 x3 x4 s1 s2 s3 σ = some res → wr_q (wS_M_table) σ res.2 := by
    intro  x1 x2 x3 x4 s1 s2 s3 σ hf
    have hm : wr_q (wS_M_table) σ σ := wr_0
    unfold wf_M_table_71 at hf
    obtain ⟨r8, σ7, hq, hf⟩ := wc_b2_e hf
    have hm := wr_x hm (wr_M_goes _ _ _ _ _ hq) (by intro k i h; unfold wS_M_goes at h; unfold wS_M_table; omega)
    by_cases c9 : r8 = 0
    · have hf := wc_t c9 hf
      exact wr_f (g := fun r => r.2) hf hm
    · have hf := wc_f c9 hf
      obtain ⟨v10, ev10, hf⟩ := wc_st_n hf
      obtain ⟨h11, hf⟩ := wc_gd_e hf
      obtain ⟨v12, ev12, hf⟩ := wc_st_n hf
      obtain ⟨v13, ev13, hf⟩ := wc_st_n hf
      obtain ⟨h14, hf⟩ := wc_gd_e hf
      obtain ⟨σ15, eσ15, hf⟩ := wc_st_n hf
      have hm := wr_u hm eσ15 (by unfold wS_M_table; omega)
      obtain ⟨h16, hf⟩ := wc_gd_e hf
      obtain ⟨σ17, eσ17, hf⟩ := wc_st_n hf
      have hm := wr_u hm eσ17 (by unfold wS_M_table; omega)
      obtain ⟨h18, hf⟩ := wc_gd_e hf
      obtain ⟨σ19, eσ19, hf⟩ := wc_st_n hf
      have hm := wr_u hm eσ19 (by unfold wS_M_table; omega)
      obtain ⟨h20, hf⟩ := wc_gd_e hf
      obtain ⟨v21, ev21, hf⟩ := wc_st_n hf
      obtain ⟨v22, ev22, hf⟩ := wc_st_n hf
      obtain ⟨h23, hf⟩ := wc_gd_e hf
      obtain ⟨σ24, eσ24, hf⟩ := wc_st_n hf
      have hm := wr_u hm eσ24 (by unfold wS_M_table; omega)
      obtain ⟨σ25, hq, hf⟩ := wc_b1_e hf
      have hm := wr_x hm (wr_M_gone  _ _ hq) (by intro k i h; unfold wS_M_gone at h; unfold wS_M_table; omega)
      obtain ⟨h26, hf⟩ := wc_gd_e hf
      obtain ⟨v27, ev27, hf⟩ := wc_st_n hf
      exact wr_f (g := fun r => r.2) hf hm
  have J70 : ∀ (x1 : Int32) (x2 : Int32) (x3 : Int32) (x4 : Int32) (s1 : Int32) (s2 : Int32) (σ : wc_S), wf_M_table_70 x1 x2 x3 x4 s1 s2 σ = some res → wr_q (wS_M_table) σ res.2 := by
    intro  x1 x2 x3 x4 s1 s2 σ hf
    have hm : wr_q (wS_M_table) σ σ := wr_0
    unfold wf_M_table_70 at hf
    exact wr_j hm (J71 x1 x2 x3 x4 s1 s2 0 σ hf)
  have J50 : ∀ (x1 : Int32) (x2 : Int32) (x3 : Int32) (x4 : Int32) (x5 : Int32) (s1 : Int32) (s2 : Int32) (σ : wc_S), wf_M_table_50 x1 x2 x3 x4 x5 s1 s2 σ = some res → wr_q (wS_M_table) σ res.2 := by
    intro  x1 x2 x3 x4 x5 s1 s2 σ hf
    have hm : wr_q (wS_M_table) σ σ := wr_0
    unfold wf_M_table_50 at hf
    by_cases c6 : x5 = 0
    · have hf := wc_t c6 hf
      exact wr_j hm (J70 x1 x2 x3 x4 s1 s2 σ hf)
    · have hf := wc_f c6 hf
      obtain ⟨h28, hf⟩ := wc_gd_e hf
      obtain ⟨v29, ev29, hf⟩ := wc_st_n hf
      by_cases c30 : 8 ≤ v29
      · have hf := wc_t c30 hf
        exact wr_j hm (J70 x1 x2 x3 x4 s1 s2 σ hf)
      · have hf := wc_f c30 hf
        exact wr_j hm (J71 x1 x2 x3 x4 s1 s2 1 σ hf)
  have J49 : ∀ (x1 : Int32) (x2 : Int32) (x3 : Int32) (x4 : Int32) (x5 : Int32) (s1 : Int32) (σ : wc_S), wf_M_table_49 x1 x2 x3 x4 x5 s1 σ = some res → wr_q (wS_M_table) σ res.2 := by
    intro  x1 x2 x3 x4 x5 s1 σ hf
    have hm : wr_q (wS_M_table) σ σ := wr_0
    unfold wf_M_table_49 at hf
    exact wr_j hm (J50 x1 x2 x3 x4 x5 s1 0 σ hf)
  have hm : wr_q (wS_M_table) σ σ := wr_0
  unfold wf_M_table at hf
  obtain ⟨r2, σ1, hq, hf⟩ := wc_b2_e hf
  have hm := wr_x hm (wr_M_in _ _ _ _ _ hq) (fun _ _ h => False.elim h)
  obtain ⟨r4, σ3, hq, hf⟩ := wc_b2_e hf
  have hm := wr_x hm (wr_M_in _ _ _ _ _ hq) (fun _ _ h => False.elim h)
  by_cases c5 : r4 = 0
  · have hf := wc_t c5 hf
    exact wr_j hm (J49 a1 a2 a3 a4 r2 r2 σ3 hf)
  · have hf := wc_f c5 hf
    obtain ⟨r32, σ31, hq, hf⟩ := wc_b2_e hf
    have hm := wr_x hm (wr_M_in _ _ _ _ _ hq) (fun _ _ h => False.elim h)
    by_cases c33 : r32 = 0
    · have hf := wc_t c33 hf
      exact wr_j hm (J49 a1 a2 a3 a4 r2 r2 σ31 hf)
    · have hf := wc_f c33 hf
      obtain ⟨r35, σ34, hq, hf⟩ := wc_b2_e hf
      have hm := wr_x hm (wr_M_in _ _ _ _ _ hq) (fun _ _ h => False.elim h)
      by_cases c36 : r35 = 0
      · have hf := wc_t c36 hf
        exact wr_j hm (J49 a1 a2 a3 a4 r2 r2 σ34 hf)
      · have hf := wc_f c36 hf
        exact wr_j hm (J50 a1 a2 a3 a4 r2 r2 1 σ34 hf)
theorem wr_M_group (a1 : Int32) (a2 : Int32) (a3 : Int32) (σ : wc_S) (res : Int32 × wc_S) (hf : wf_M_group a1 a2 a3 σ = some res) : wr_q (wS_M_group) σ res.2 := by
  have J52 : ∀ (x1 : Int32) (x2 : Int32) (x3 : Int32) (s1 : Int32) (s2 : Int32) (σ : wc_S), wf_M_group_52 x1 x2 x3 s1 s2 σ = some res → wr_q (wS_M_group) σ res.2 := by
    intro  x1 x2 x3 s1 s2 σ hf
    have hm : wr_q (wS_M_group) σ σ := wr_0
    unfold wf_M_group_52 at hf
    obtain ⟨r7, σ6, hq, hf⟩ := wc_b2_e hf
    have hm := wr_x hm (wr_M_goes _ _ _ _ _ hq) (by intro k i h; unfold wS_M_goes at h; unfold wS_M_group; omega)
    by_cases c8 : r7 = 0
    · have hf := wc_t c8 hf
      exact wr_f (g := fun r => r.2) hf hm
    · have hf := wc_f c8 hf
      obtain ⟨v9, ev9, hf⟩ := wc_st_n hf
      obtain ⟨h10, hf⟩ := wc_gd_e hf
      obtain ⟨σ11, eσ11, hf⟩ := wc_st_n hf
      have hm := wr_u hm eσ11 (by unfold wS_M_group; omega)
      obtain ⟨v12, ev12, hf⟩ := wc_st_n hf
      obtain ⟨h13, hf⟩ := wc_gd_e hf
      obtain ⟨σ14, eσ14, hf⟩ := wc_st_n hf
      have hm := wr_u hm eσ14 (by unfold wS_M_group; omega)
      obtain ⟨v15, ev15, hf⟩ := wc_st_n hf
      obtain ⟨h16, hf⟩ := wc_gd_e hf
      obtain ⟨σ17, eσ17, hf⟩ := wc_st_n hf
      have hm := wr_u hm eσ17 (by unfold wS_M_group; omega)
      obtain ⟨v18, ev18, hf⟩ := wc_st_n hf
      obtain ⟨v19, ev19, hf⟩ := wc_st_n hf
      obtain ⟨σ20, eσ20, hf⟩ := wc_st_n hf
      have hm := wr_u hm eσ20 (by unfold wS_M_group; omega)
      obtain ⟨σ21, hq, hf⟩ := wc_b1_e hf
      have hm := wr_x hm (wr_M_gone  _ _ hq) (by intro k i h; unfold wS_M_gone at h; unfold wS_M_group; omega)
      obtain ⟨v22, ev22, hf⟩ := wc_st_n hf
      exact wr_f (g := fun r => r.2) hf hm
  have J39 : ∀ (x1 : Int32) (x2 : Int32) (x3 : Int32) (s1 : Int32) (σ : wc_S), wf_M_group_39 x1 x2 x3 s1 σ = some res → wr_q (wS_M_group) σ res.2 := by
    intro  x1 x2 x3 s1 σ hf
    have hm : wr_q (wS_M_group) σ σ := wr_0
    unfold wf_M_group_39 at hf
    obtain ⟨v4, ev4, hf⟩ := wc_st_n hf
    by_cases c5 : 4 ≤ v4
    · have hf := wc_t c5 hf
      exact wr_j hm (J52 x1 x2 x3 s1 0 σ hf)
    · have hf := wc_f c5 hf
      exact wr_j hm (J52 x1 x2 x3 s1 1 σ hf)
  have J38 : ∀ (x1 : Int32) (x2 : Int32) (x3 : Int32) (σ : wc_S), wf_M_group_38 x1 x2 x3 σ = some res → wr_q (wS_M_group) σ res.2 := by
    intro  x1 x2 x3 σ hf
    have hm : wr_q (wS_M_group) σ σ := wr_0
    unfold wf_M_group_38 at hf
    exact wr_j hm (J39 x1 x2 x3 0 σ hf)
  have hm : wr_q (wS_M_group) σ σ := wr_0
  unfold wf_M_group at hf
  obtain ⟨r2, σ1, hq, hf⟩ := wc_b2_e hf
  have hm := wr_x hm (wr_M_in _ _ _ _ _ hq) (fun _ _ h => False.elim h)
  by_cases c3 : r2 = 0
  · have hf := wc_t c3 hf
    exact wr_j hm (J38 a1 a2 a3 σ1 hf)
  · have hf := wc_f c3 hf
    obtain ⟨r24, σ23, hq, hf⟩ := wc_b2_e hf
    have hm := wr_x hm (wr_M_in _ _ _ _ _ hq) (fun _ _ h => False.elim h)
    by_cases c25 : r24 = 0
    · have hf := wc_t c25 hf
      exact wr_j hm (J38 a1 a2 a3 σ23 hf)
    · have hf := wc_f c25 hf
      obtain ⟨r27, σ26, hq, hf⟩ := wc_b2_e hf
      have hm := wr_x hm (wr_M_in _ _ _ _ _ hq) (fun _ _ h => False.elim h)
      by_cases c28 : r27 = 0
      · have hf := wc_t c28 hf
        exact wr_j hm (J38 a1 a2 a3 σ26 hf)
      · have hf := wc_f c28 hf
        exact wr_j hm (J39 a1 a2 a3 1 σ26 hf)
theorem wr_M_urgent (a1 : Int32) (a2 : Int32) (σ : wc_S) (res : wc_S) (hf : wf_M_urgent a1 a2 σ = some res) : wr_q (wS_M_urgent) σ res := by
  have hm : wr_q (wS_M_urgent) σ σ := wr_0
  unfold wf_M_urgent at hf
  obtain ⟨r2, σ1, hq, hf⟩ := wc_b2_e hf
  have hm := wr_x hm (wr_M_isCoil _ _ _ hq) (fun _ _ h => False.elim h)
  obtain ⟨r4, σ3, hq, hf⟩ := wc_b2_e hf
  have hm := wr_x hm (wr_M_in _ _ _ _ _ hq) (fun _ _ h => False.elim h)
  obtain ⟨r6, σ5, hq, hf⟩ := wc_b2_e hf
  have hm := wr_x hm (wr_M_goes _ _ _ _ _ hq) (by intro k i h; unfold wS_M_goes at h; unfold wS_M_urgent; omega)
  by_cases c7 : r6 = 0
  · have hf := wc_t c7 hf
    exact wr_f (g := fun r => r) hf hm
  · have hf := wc_f c7 hf
    obtain ⟨h8, hf⟩ := wc_gd_e hf
    obtain ⟨σ9, eσ9, hf⟩ := wc_st_n hf
    have hm := wr_u hm eσ9 (by unfold wS_M_urgent; omega)
    obtain ⟨σ10, hq, hf⟩ := wc_b1_e hf
    have hm := wr_x hm (wr_M_gone  _ _ hq) (by intro k i h; unfold wS_M_gone at h; unfold wS_M_urgent; omega)
    exact wr_f (g := fun r => r) hf hm
theorem wr_M_old (a1 : Int32) (a2 : Int32) (σ : wc_S) (res : wc_S) (hf : wf_M_old a1 a2 σ = some res) : wr_q (wS_M_old) σ res := by
  have hm : wr_q (wS_M_old) σ σ := wr_0
  unfold wf_M_old at hf
  obtain ⟨r2, σ1, hq, hf⟩ := wc_b2_e hf
  have hm := wr_x hm (wr_M_isCoil _ _ _ hq) (fun _ _ h => False.elim h)
  obtain ⟨r4, σ3, hq, hf⟩ := wc_b2_e hf
  have hm := wr_x hm (wr_M_in _ _ _ _ _ hq) (fun _ _ h => False.elim h)
  obtain ⟨r6, σ5, hq, hf⟩ := wc_b2_e hf
  have hm := wr_x hm (wr_M_goes _ _ _ _ _ hq) (by intro k i h; unfold wS_M_goes at h; unfold wS_M_old; omega)
  by_cases c7 : r6 = 0
  · have hf := wc_t c7 hf
    exact wr_f (g := fun r => r) hf hm
  · have hf := wc_f c7 hf
    obtain ⟨h8, hf⟩ := wc_gd_e hf
    obtain ⟨σ9, eσ9, hf⟩ := wc_st_n hf
    have hm := wr_u hm eσ9 (by unfold wS_M_old; omega)
    obtain ⟨σ10, hq, hf⟩ := wc_b1_e hf
    have hm := wr_x hm (wr_M_gone  _ _ hq) (by intro k i h; unfold wS_M_gone at h; unfold wS_M_old; omega)
    exact wr_f (g := fun r => r) hf hm
theorem wr_M_rules (a1 : Int32) (a2 : Int32) (a3 : Int32) (a4 : Int32) (σ : wc_S) (res : wc_S) (hf : wf_M_rules a1 a2 a3 a4 σ = some res) : wr_q (wS_M_rules) σ res := by
  have J50 : ∀ (x1 : Int32) (x2 : Int32) (x3 : Int32) (x4 : Int32) (s1 : Int32) (σ : wc_S), wf_M_rules_50 x1 x2 x3 x4 s1 σ = some res → wr_q (wS_M_rules) σ res := by
    intro  x1 x2 x3 x4 s1 σ hf
    have hm : wr_q (wS_M_rules) σ σ := wr_0
    unfold wf_M_rules_50 at hf
    obtain ⟨r5, σ4, hq, hf⟩ := wc_b2_e hf
    have hm := wr_x hm (wr_M_goes _ _ _ _ _ hq) (by intro k i h; unfold wS_M_goes at h; unfold wS_M_rules; omega)
    by_cases c6 : r5 = 0
    · have hf := wc_t c6 hf
      exact wr_f (g := fun r => r) hf hm
    · have hf := wc_f c6 hf
      obtain ⟨σ7, eσ7, hf⟩ := wc_st_n hf
      have hm := wr_u hm eσ7 (by unfold wS_M_rules; omega)
      obtain ⟨σ8, eσ8, hf⟩ := wc_st_n hf
      have hm := wr_u hm eσ8 (by unfold wS_M_rules; omega)
      obtain ⟨σ9, eσ9, hf⟩ := wc_st_n hf
      have hm := wr_u hm eσ9 (by unfold wS_M_rules; omega)
      obtain ⟨σ10, eσ10, hf⟩ := wc_st_n hf
      have hm := wr_u hm eσ10 (by unfold wS_M_rules; omega)
      obtain ⟨σ11, hq, hf⟩ := wc_b1_e hf
      have hm := wr_x hm (wr_M_gone  _ _ hq) (by intro k i h; unfold wS_M_gone at h; unfold wS_M_rules; omega)
      exact wr_f (g := fun r => r) hf hm
  have J49 : ∀ (x1 : Int32) (x2 : Int32) (x3 : Int32) (x4 : Int32) (σ : wc_S), wf_M_rules_49 x1 x2 x3 x4 σ = some res → wr_q (wS_M_rules) σ res := by
    intro  x1 x2 x3 x4 σ hf
    have hm : wr_q (wS_M_rules) σ σ := wr_0
    unfold wf_M_rules_49 at hf
    exact wr_j hm (J50 x1 x2 x3 x4 0 σ hf)
  have hm : wr_q (wS_M_rules) σ σ := wr_0
  unfold wf_M_rules at hf
  obtain ⟨r2, σ1, hq, hf⟩ := wc_b2_e hf
  have hm := wr_x hm (wr_M_in _ _ _ _ _ hq) (fun _ _ h => False.elim h)
  by_cases c3 : r2 = 0
  · have hf := wc_t c3 hf
    exact wr_j hm (J49 a1 a2 a3 a4 σ1 hf)
  · have hf := wc_f c3 hf
    obtain ⟨r13, σ12, hq, hf⟩ := wc_b2_e hf
    have hm := wr_x hm (wr_M_in _ _ _ _ _ hq) (fun _ _ h => False.elim h)
    by_cases c14 : r13 = 0
    · have hf := wc_t c14 hf
      exact wr_j hm (J49 a1 a2 a3 a4 σ12 hf)
    · have hf := wc_f c14 hf
      obtain ⟨r16, σ15, hq, hf⟩ := wc_b2_e hf
      have hm := wr_x hm (wr_M_in _ _ _ _ _ hq) (fun _ _ h => False.elim h)
      by_cases c17 : r16 = 0
      · have hf := wc_t c17 hf
        exact wr_j hm (J49 a1 a2 a3 a4 σ15 hf)
      · have hf := wc_f c17 hf
        obtain ⟨r19, σ18, hq, hf⟩ := wc_b2_e hf
        have hm := wr_x hm (wr_M_in _ _ _ _ _ hq) (fun _ _ h => False.elim h)
        by_cases c20 : r19 = 0
        · have hf := wc_t c20 hf
          exact wr_j hm (J49 a1 a2 a3 a4 σ18 hf)
        · have hf := wc_f c20 hf
          exact wr_j hm (J50 a1 a2 a3 a4 1 σ18 hf)
theorem wr_M_costOf (a1 : Int32) (a2 : Int32) (σ : wc_S) (res : Int32 × wc_S) (hf : wf_M_costOf a1 a2 σ = some res) : wr_q (wS_M_costOf) σ res.2 := by
  have J63 : ∀ (k17 : Int32 → Int32 → Int32 → wc_S → Option (Int32 × wc_S)) (hk17 : (∀ (x1 : Int32) (x3 : Int32) (x4 : Int32) (σ : wc_S), k17 x1 x3 x4 σ = some res → wr_q (wS_M_costOf) σ res.2)) (x1 : Int32) (x3 : Int32) (x4 : Int32) (σ : wc_S), wf_M_costOf_63 k17 x1 x3 x4 σ = some res → wr_q (wS_M_costOf) σ res.2 := by
    intro k17 hk17 x1 x3 x4 σ hf
    have hm : wr_q (wS_M_costOf) σ σ := wr_0
    unfold wf_M_costOf_63 at hf
    obtain ⟨v14, ev14, hf⟩ := wc_st_n hf
    exact wr_j hm (hk17 x1 x3 v14 σ hf)
  have J17 : ∀ (n : Nat) (x1 : Int32) (x3 : Int32) (x4 : Int32) (σ : wc_S), wf_M_costOf_17 n x1 x3 x4 σ = some res → wr_q (wS_M_costOf) σ res.2 := by
    intro  n
    induction n with
    | zero => intro x1 x3 x4 σ hf; exact absurd hf (by intro h9; cases h9)
    | succ n hk17 =>
      intro x1 x3 x4 σ hf
      have hm : wr_q (wS_M_costOf) σ σ := wr_0
      have hf : wf_M_costOf_17_b (wf_M_costOf_17 n) x1 x3 x4 σ = some res := hf
      unfold wf_M_costOf_17_b at hf
      obtain ⟨v3, ev3, hf⟩ := wc_st_n hf
      obtain ⟨h4, hf⟩ := wc_gd_e hf
      obtain ⟨v5, ev5, hf⟩ := wc_st_n hf
      obtain ⟨v6, ev6, hf⟩ := wc_st_n hf
      by_cases c7 : v6 ≤ x4
      · have hf := wc_t c7 hf
        obtain ⟨h8, hf⟩ := wc_gd_e hf
        obtain ⟨v9, ev9, hf⟩ := wc_st_n hf
        by_cases c10 : v9 = 0
        · have hf := wc_t c10 hf
          exact wr_f (g := fun r => r.2) hf hm
        · have hf := wc_f c10 hf
          exact wr_f (g := fun r => r.2) hf hm
      · have hf := wc_f c7 hf
        obtain ⟨h11, hf⟩ := wc_gd_e hf
        obtain ⟨v12, ev12, hf⟩ := wc_st_n hf
        by_cases c13 : x3 < v12
        · have hf := wc_t c13 hf
          exact wr_j hm (J63 (wf_M_costOf_17 n) hk17 x1 x3 x4 σ hf)
        · have hf := wc_f c13 hf
          obtain ⟨h15, hf⟩ := wc_gd_e hf
          obtain ⟨v16, ev16, hf⟩ := wc_st_n hf
          by_cases c17 : v16 < x3
          · have hf := wc_t c17 hf
            exact wr_j hm (J63 (wf_M_costOf_17 n) hk17 x1 x3 x4 σ hf)
          · have hf := wc_f c17 hf
            obtain ⟨h18, hf⟩ := wc_gd_e hf
            obtain ⟨v19, ev19, hf⟩ := wc_st_n hf
            exact wr_f (g := fun r => r.2) hf hm
  have J10 : ∀ (x1 : Int32) (s0 : Int32) (σ : wc_S), wf_M_costOf_10 x1 s0 σ = some res → wr_q (wS_M_costOf) σ res.2 := by
    intro  x1 s0 σ hf
    have hm : wr_q (wS_M_costOf) σ σ := wr_0
    unfold wf_M_costOf_10 at hf
    obtain ⟨v2, ev2, hf⟩ := wc_st_n hf
    exact wr_j hm (J17 16 x1 s0 v2 σ hf)
  have hm : wr_q (wS_M_costOf) σ σ := wr_0
  unfold wf_M_costOf at hf
  by_cases c1 : 0 ≤ a2
  · have hf := wc_t c1 hf
    exact wr_j hm (J10 a1 a2 σ hf)
  · have hf := wc_f c1 hf
    obtain ⟨v20, ev20, hf⟩ := wc_st_n hf
    exact wr_j hm (J10 a1 v20 σ hf)
theorem wr_M_jumpOf (a1 : Int32) (a2 : Int32) (σ : wc_S) (res : Int32 × wc_S) (hf : wf_M_jumpOf a1 a2 σ = some res) : wr_q (wS_M_jumpOf) σ res.2 := by
  have hm : wr_q (wS_M_jumpOf) σ σ := wr_0
  unfold wf_M_jumpOf at hf
  obtain ⟨h1, hf⟩ := wc_gd_e hf
  obtain ⟨v2, ev2, hf⟩ := wc_st_n hf
  obtain ⟨h3, hf⟩ := wc_gd_e hf
  obtain ⟨v4, ev4, hf⟩ := wc_st_n hf
  obtain ⟨v5, ev5, hf⟩ := wc_st_n hf
  obtain ⟨r7, σ6, hq, hf⟩ := wc_b2_e hf
  have hm := wr_x hm (wr_M_costOf _ _ _ _ hq) (fun _ _ h => False.elim h)
  obtain ⟨h8, hf⟩ := wc_gd_e hf
  obtain ⟨v9, ev9, hf⟩ := wc_st_n hf
  obtain ⟨h10, hf⟩ := wc_gd_e hf
  obtain ⟨v11, ev11, hf⟩ := wc_st_n hf
  obtain ⟨v12, ev12, hf⟩ := wc_st_n hf
  obtain ⟨r14, σ13, hq, hf⟩ := wc_b2_e hf
  have hm := wr_x hm (wr_M_costOf _ _ _ _ hq) (fun _ _ h => False.elim h)
  by_cases c15 : r7 < 0
  · have hf := wc_t c15 hf
    exact wr_f (g := fun r => r.2) hf hm
  · have hf := wc_f c15 hf
    by_cases c16 : 0 ≤ r14
    · have hf := wc_t c16 hf
      obtain ⟨v17, ev17, hf⟩ := wc_st_n hf
      exact wr_f (g := fun r => r.2) hf hm
    · have hf := wc_f c16 hf
      exact wr_f (g := fun r => r.2) hf hm
theorem wr_M_mayBe (k1 : Nat) (a2 : Int32) (σ : wc_S) (res : Int32 × wc_S) (hf : wf_M_mayBe k1 a2 σ = some res) : wr_q (wS_M_mayBe) σ res.2 := by
  have hm : wr_q (wS_M_mayBe) σ σ := wr_0
  unfold wf_M_mayBe at hf
  obtain ⟨h1, hf⟩ := wc_gd_e hf
  obtain ⟨v2, ev2, hf⟩ := wc_st_n hf
  obtain ⟨h3, hf⟩ := wc_gd_e hf
  obtain ⟨v4, ev4, hf⟩ := wc_st_n hf
  by_cases c5 : a2 ≤ v4
  · have hf := wc_t c5 hf
    by_cases c6 : a2 = 0
    · have hf := wc_t c6 hf
      exact wr_f (g := fun r => r.2) hf hm
    · have hf := wc_f c6 hf
      obtain ⟨v7, ev7, hf⟩ := wc_st_n hf
      obtain ⟨h8, hf⟩ := wc_gd_e hf
      obtain ⟨v9, ev9, hf⟩ := wc_st_n hf
      obtain ⟨r11, σ10, hq, hf⟩ := wc_b2_e hf
      have hm := wr_x hm (wr_M_jumpOf _ _ _ _ hq) (fun _ _ h => False.elim h)
      by_cases c12 : 0 ≤ r11
      · have hf := wc_t c12 hf
        obtain ⟨v13, ev13, hf⟩ := wc_st_n hf
        by_cases c14 : v13 ≤ a2
        · have hf := wc_t c14 hf
          obtain ⟨h15, hf⟩ := wc_gd_e hf
          obtain ⟨v16, ev16, hf⟩ := wc_st_n hf
          obtain ⟨h17, hf⟩ := wc_gd_e hf
          obtain ⟨v18, ev18, hf⟩ := wc_st_n hf
          by_cases c19 : v18 < v16
          · have hf := wc_t c19 hf
            exact wr_f (g := fun r => r.2) hf hm
          · have hf := wc_f c19 hf
            exact wr_f (g := fun r => r.2) hf hm
        · have hf := wc_f c14 hf
          obtain ⟨h20, hf⟩ := wc_gd_e hf
          obtain ⟨v21, ev21, hf⟩ := wc_st_n hf
          obtain ⟨h22, hf⟩ := wc_gd_e hf
          obtain ⟨v23, ev23, hf⟩ := wc_st_n hf
          by_cases c24 : v21 < v23
          · have hf := wc_t c24 hf
            exact wr_f (g := fun r => r.2) hf hm
          · have hf := wc_f c24 hf
            exact wr_f (g := fun r => r.2) hf hm
      · have hf := wc_f c12 hf
        exact wr_f (g := fun r => r.2) hf hm
  · have hf := wc_f c5 hf
    exact wr_f (g := fun r => r.2) hf hm
theorem wr_M_isWorn (k1 : Nat) (a2 : Int32) (a3 : Int32) (σ : wc_S) (res : Int32 × wc_S) (hf : wf_M_isWorn k1 a2 a3 σ = some res) : wr_q (wS_M_isWorn) σ res.2 := by
  have J187 : ∀ (k46 : Int32 → Int32 → Int32 → wc_S → Option (Int32 × wc_S)) (hk46 : (∀ (x2 : Int32) (x3 : Int32) (x5 : Int32) (σ : wc_S), k46 x2 x3 x5 σ = some res → wr_q (wS_M_isWorn) σ res.2)) (x2 : Int32) (x3 : Int32) (x5 : Int32) (σ : wc_S), wf_M_isWorn_187 k1 k46 x2 x3 x5 σ = some res → wr_q (wS_M_isWorn) σ res.2 := by
    intro k46 hk46 x2 x3 x5 σ hf
    have hm : wr_q (wS_M_isWorn) σ σ := wr_0
    unfold wf_M_isWorn_187 at hf
    obtain ⟨v15, ev15, hf⟩ := wc_st_n hf
    exact wr_j hm (hk46 x2 x3 v15 σ hf)
  have J162 : ∀ (k46 : Int32 → Int32 → Int32 → wc_S → Option (Int32 × wc_S)) (hk46 : (∀ (x2 : Int32) (x3 : Int32) (x5 : Int32) (σ : wc_S), k46 x2 x3 x5 σ = some res → wr_q (wS_M_isWorn) σ res.2)) (k104 : Int32 → Int32 → Int32 → Int32 → Int32 → Int32 → wc_S → Option (Int32 × wc_S)) (hk104 : (∀ (x2 : Int32) (x3 : Int32) (x5 : Int32) (x6 : Int32) (x7 : Int32) (x8 : Int32) (σ : wc_S), k104 x2 x3 x5 x6 x7 x8 σ = some res → wr_q (wS_M_isWorn) σ res.2)) (x2 : Int32) (x3 : Int32) (x5 : Int32) (x6 : Int32) (x7 : Int32) (x8 : Int32) (σ : wc_S), wf_M_isWorn_162 k1 k46 k104 x2 x3 x5 x6 x7 x8 σ = some res → wr_q (wS_M_isWorn) σ res.2 := by
    intro k46 hk46 k104 hk104 x2 x3 x5 x6 x7 x8 σ hf
    have hm : wr_q (wS_M_isWorn) σ σ := wr_0
    unfold wf_M_isWorn_162 at hf
    obtain ⟨v26, ev26, hf⟩ := wc_st_n hf
    exact wr_j hm (hk104 x2 x3 x5 x6 x7 v26 σ hf)
  have J104 : ∀ (k46 : Int32 → Int32 → Int32 → wc_S → Option (Int32 × wc_S)) (hk46 : (∀ (x2 : Int32) (x3 : Int32) (x5 : Int32) (σ : wc_S), k46 x2 x3 x5 σ = some res → wr_q (wS_M_isWorn) σ res.2)) (n : Nat) (x2 : Int32) (x3 : Int32) (x5 : Int32) (x6 : Int32) (x7 : Int32) (x8 : Int32) (σ : wc_S), wf_M_isWorn_104 k1 k46 n x2 x3 x5 x6 x7 x8 σ = some res → wr_q (wS_M_isWorn) σ res.2 := by
    intro k46 hk46 n
    induction n with
    | zero => intro x2 x3 x5 x6 x7 x8 σ hf; exact absurd hf (by intro h9; cases h9)
    | succ n hk104 =>
      intro x2 x3 x5 x6 x7 x8 σ hf
      have hm : wr_q (wS_M_isWorn) σ σ := wr_0
      have hf : wf_M_isWorn_104_b k1 k46 (wf_M_isWorn_104 k1 k46 n) x2 x3 x5 x6 x7 x8 σ = some res := hf
      unfold wf_M_isWorn_104_b at hf
      by_cases c13 : x3 < x8
      · have hf := wc_t c13 hf
        by_cases c14 : x6 = 0
        · have hf := wc_t c14 hf
          exact wr_j hm (J187 k46 hk46 x2 x3 x5 σ hf)
        · have hf := wc_f c14 hf
          obtain ⟨h16, hf⟩ := wc_gd_e hf
          obtain ⟨v17, ev17, hf⟩ := wc_st_n hf
          by_cases c18 : x7 ≤ v17
          · have hf := wc_t c18 hf
            exact wr_j hm (J187 k46 hk46 x2 x3 x5 σ hf)
          · have hf := wc_f c18 hf
            exact wr_f (g := fun r => r.2) hf hm
      · have hf := wc_f c13 hf
        obtain ⟨h19, hf⟩ := wc_gd_e hf
        obtain ⟨v20, ev20, hf⟩ := wc_st_n hf
        obtain ⟨h21, hf⟩ := wc_gd_e hf
        obtain ⟨v22, ev22, hf⟩ := wc_st_n hf
        obtain ⟨h23, hf⟩ := wc_gd_e hf
        obtain ⟨v24, ev24, hf⟩ := wc_st_n hf
        by_cases c25 : v22 < v24
        · have hf := wc_t c25 hf
          exact wr_j hm (J162 k46 hk46 (wf_M_isWorn_104 k1 k46 n) hk104 x2 x3 x5 x6 x7 x8 σ hf)
        · have hf := wc_f c25 hf
          obtain ⟨h27, hf⟩ := wc_gd_e hf
          obtain ⟨v28, ev28, hf⟩ := wc_st_n hf
          obtain ⟨h29, hf⟩ := wc_gd_e hf
          obtain ⟨v30, ev30, hf⟩ := wc_st_n hf
          obtain ⟨h31, hf⟩ := wc_gd_e hf
          obtain ⟨v32, ev32, hf⟩ := wc_st_n hf
          by_cases c33 : v32 < v30
          · have hf := wc_t c33 hf
            exact wr_j hm (J162 k46 hk46 (wf_M_isWorn_104 k1 k46 n) hk104 x2 x3 x5 x6 x7 x8 σ hf)
          · have hf := wc_f c33 hf
            obtain ⟨h34, hf⟩ := wc_gd_e hf
            obtain ⟨v35, ev35, hf⟩ := wc_st_n hf
            obtain ⟨h36, hf⟩ := wc_gd_e hf
            obtain ⟨v37, ev37, hf⟩ := wc_st_n hf
            obtain ⟨v38, ev38, hf⟩ := wc_st_n hf
            exact wr_j hm (J162 k46 hk46 (wf_M_isWorn_104 k1 k46 n) hk104 x2 x3 x5 x6 v38 x8 σ hf)
  have J96 : ∀ (k46 : Int32 → Int32 → Int32 → wc_S → Option (Int32 × wc_S)) (hk46 : (∀ (x2 : Int32) (x3 : Int32) (x5 : Int32) (σ : wc_S), k46 x2 x3 x5 σ = some res → wr_q (wS_M_isWorn) σ res.2)) (x2 : Int32) (x3 : Int32) (x5 : Int32) (s0 : Int32) (σ : wc_S), wf_M_isWorn_96 k1 k46 x2 x3 x5 s0 σ = some res → wr_q (wS_M_isWorn) σ res.2 := by
    intro k46 hk46 x2 x3 x5 s0 σ hf
    have hm : wr_q (wS_M_isWorn) σ σ := wr_0
    unfold wf_M_isWorn_96 at hf
    exact wr_j hm (J104 k46 hk46 16 x2 x3 x5 s0 0 x2 σ hf)
  have J95 : ∀ (k46 : Int32 → Int32 → Int32 → wc_S → Option (Int32 × wc_S)) (hk46 : (∀ (x2 : Int32) (x3 : Int32) (x5 : Int32) (σ : wc_S), k46 x2 x3 x5 σ = some res → wr_q (wS_M_isWorn) σ res.2)) (x2 : Int32) (x3 : Int32) (x5 : Int32) (σ : wc_S), wf_M_isWorn_95 k1 k46 x2 x3 x5 σ = some res → wr_q (wS_M_isWorn) σ res.2 := by
    intro k46 hk46 x2 x3 x5 σ hf
    have hm : wr_q (wS_M_isWorn) σ σ := wr_0
    unfold wf_M_isWorn_95 at hf
    exact wr_j hm (J96 k46 hk46 x2 x3 x5 0 σ hf)
  have J46 : ∀ (n : Nat) (x2 : Int32) (x3 : Int32) (x5 : Int32) (σ : wc_S), wf_M_isWorn_46 k1 n x2 x3 x5 σ = some res → wr_q (wS_M_isWorn) σ res.2 := by
    intro  n
    induction n with
    | zero => intro x2 x3 x5 σ hf; exact absurd hf (by intro h9; cases h9)
    | succ n hk46 =>
      intro x2 x3 x5 σ hf
      have hm : wr_q (wS_M_isWorn) σ σ := wr_0
      have hf : wf_M_isWorn_46_b k1 (wf_M_isWorn_46 k1 n) x2 x3 x5 σ = some res := hf
      unfold wf_M_isWorn_46_b at hf
      obtain ⟨v4, ev4, hf⟩ := wc_st_n hf
      by_cases c5 : v4 ≤ x5
      · have hf := wc_t c5 hf
        exact wr_f (g := fun r => r.2) hf hm
      · have hf := wc_f c5 hf
        obtain ⟨h6, hf⟩ := wc_gd_e hf
        obtain ⟨v7, ev7, hf⟩ := wc_st_n hf
        obtain ⟨h8, hf⟩ := wc_gd_e hf
        obtain ⟨v9, ev9, hf⟩ := wc_st_n hf
        obtain ⟨h10, hf⟩ := wc_gd_e hf
        obtain ⟨v11, ev11, hf⟩ := wc_st_n hf
        by_cases c12 : v9 < v11
        · have hf := wc_t c12 hf
          exact wr_j hm (J95 (wf_M_isWorn_46 k1 n) hk46 x2 x3 x5 σ hf)
        · have hf := wc_f c12 hf
          obtain ⟨h39, hf⟩ := wc_gd_e hf
          obtain ⟨v40, ev40, hf⟩ := wc_st_n hf
          obtain ⟨h41, hf⟩ := wc_gd_e hf
          obtain ⟨v42, ev42, hf⟩ := wc_st_n hf
          obtain ⟨h43, hf⟩ := wc_gd_e hf
          obtain ⟨v44, ev44, hf⟩ := wc_st_n hf
          by_cases c45 : v44 < v42
          · have hf := wc_t c45 hf
            exact wr_j hm (J95 (wf_M_isWorn_46 k1 n) hk46 x2 x3 x5 σ hf)
          · have hf := wc_f c45 hf
            exact wr_j hm (J96 (wf_M_isWorn_46 k1 n) hk46 x2 x3 x5 1 σ hf)
  have J6 : ∀ (n : Nat) (x2 : Int32) (x3 : Int32) (x4 : Int32) (x5 : Int32) (σ : wc_S), wf_M_isWorn_6 k1 n x2 x3 x4 x5 σ = some res → wr_q (wS_M_isWorn) σ res.2 := by
    intro  n
    induction n with
    | zero => intro x2 x3 x4 x5 σ hf; exact absurd hf (by intro h9; cases h9)
    | succ n hk6 =>
      intro x2 x3 x4 x5 σ hf
      have hm : wr_q (wS_M_isWorn) σ σ := wr_0
      have hf : wf_M_isWorn_6_b k1 (wf_M_isWorn_6 k1 n) x2 x3 x4 x5 σ = some res := hf
      unfold wf_M_isWorn_6_b at hf
      by_cases c1 : x3 < x5
      · have hf := wc_t c1 hf
        obtain ⟨v2, ev2, hf⟩ := wc_st_n hf
        by_cases c3 : x4 ≤ v2
        · have hf := wc_t c3 hf
          exact wr_j hm (J46 16 x2 x3 0 σ hf)
        · have hf := wc_f c3 hf
          exact wr_f (g := fun r => r.2) hf hm
      · have hf := wc_f c1 hf
        obtain ⟨h46, hf⟩ := wc_gd_e hf
        obtain ⟨v47, ev47, hf⟩ := wc_st_n hf
        obtain ⟨h48, hf⟩ := wc_gd_e hf
        obtain ⟨v49, ev49, hf⟩ := wc_st_n hf
        obtain ⟨v50, ev50, hf⟩ := wc_st_n hf
        obtain ⟨v51, ev51, hf⟩ := wc_st_n hf
        exact wr_j hm (hk6 x2 x3 v50 v51 σ hf)
  have hm : wr_q (wS_M_isWorn) σ σ := wr_0
  unfold wf_M_isWorn at hf
  exact wr_j hm (J6 16 a2 a3 0 a2 σ hf)
theorem wr_M_reckon (k1 : Nat) (a2 : Int32) (σ : wc_S) (res : wc_S) (hf : wf_M_reckon k1 a2 σ = some res) : wr_q (wS_M_reckon) σ res := by
  have J167 : ∀ (k20 : Int32 → Int32 → Int32 → wc_S → Option wc_S) (hk20 : (∀ (x2 : Int32) (x3 : Int32) (x4 : Int32) (σ : wc_S), k20 x2 x3 x4 σ = some res → wr_q (wS_M_reckon) σ res)) (x2 : Int32) (x3 : Int32) (x4 : Int32) (σ : wc_S), wf_M_reckon_167 k1 k20 x2 x3 x4 σ = some res → wr_q (wS_M_reckon) σ res := by
    intro k20 hk20 x2 x3 x4 σ hf
    have hm : wr_q (wS_M_reckon) σ σ := wr_0
    unfold wf_M_reckon_167 at hf
    obtain ⟨v17, ev17, hf⟩ := wc_st_n hf
    exact wr_j hm (hk20 x2 x3 v17 σ hf)
  have J118 : ∀ (k20 : Int32 → Int32 → Int32 → wc_S → Option wc_S) (hk20 : (∀ (x2 : Int32) (x3 : Int32) (x4 : Int32) (σ : wc_S), k20 x2 x3 x4 σ = some res → wr_q (wS_M_reckon) σ res)) (x2 : Int32) (x3 : Int32) (x4 : Int32) (σ : wc_S), wf_M_reckon_118 k1 k20 x2 x3 x4 σ = some res → wr_q (wS_M_reckon) σ res := by
    intro k20 hk20 x2 x3 x4 σ hf
    have hm : wr_q (wS_M_reckon) σ σ := wr_0
    unfold wf_M_reckon_118 at hf
    obtain ⟨h12, hf⟩ := wc_gd_e hf
    obtain ⟨v13, ev13, hf⟩ := wc_st_n hf
    obtain ⟨h14, hf⟩ := wc_gd_e hf
    obtain ⟨v15, ev15, hf⟩ := wc_st_n hf
    by_cases c16 : v15 < 0
    · have hf := wc_t c16 hf
      exact wr_j hm (J167 k20 hk20 x2 x3 x4 σ hf)
    · have hf := wc_f c16 hf
      obtain ⟨h18, hf⟩ := wc_gd_e hf
      obtain ⟨v19, ev19, hf⟩ := wc_st_n hf
      obtain ⟨h20, hf⟩ := wc_gd_e hf
      obtain ⟨v21, ev21, hf⟩ := wc_st_n hf
      by_cases c22 : v21 = x4
      · have hf := wc_t c22 hf
        exact wr_j hm (J167 k20 hk20 x2 x3 x4 σ hf)
      · have hf := wc_f c22 hf
        obtain ⟨v23, ev23, hf⟩ := wc_st_n hf
        obtain ⟨v24, ev24, hf⟩ := wc_st_n hf
        obtain ⟨σ25, eσ25, hf⟩ := wc_st_n hf
        have hm := wr_u hm eσ25 (by unfold wS_M_reckon; omega)
        obtain ⟨v26, ev26, hf⟩ := wc_st_n hf
        obtain ⟨v27, ev27, hf⟩ := wc_st_n hf
        obtain ⟨v28, ev28, hf⟩ := wc_st_n hf
        obtain ⟨σ29, eσ29, hf⟩ := wc_st_n hf
        have hm := wr_u hm eσ29 (by unfold wS_M_reckon; omega)
        exact wr_j hm (J167 k20 hk20 x2 x3 x4 σ29 hf)
  have J90 : ∀ (k20 : Int32 → Int32 → Int32 → wc_S → Option wc_S) (hk20 : (∀ (x2 : Int32) (x3 : Int32) (x4 : Int32) (σ : wc_S), k20 x2 x3 x4 σ = some res → wr_q (wS_M_reckon) σ res)) (x2 : Int32) (x3 : Int32) (x4 : Int32) (σ : wc_S), wf_M_reckon_90 k1 k20 x2 x3 x4 σ = some res → wr_q (wS_M_reckon) σ res := by
    intro k20 hk20 x2 x3 x4 σ hf
    have hm : wr_q (wS_M_reckon) σ σ := wr_0
    unfold wf_M_reckon_90 at hf
    by_cases c11 : x4 ≤ 0
    · have hf := wc_t c11 hf
      exact wr_j hm (J118 k20 hk20 x2 x3 x4 σ hf)
    · have hf := wc_f c11 hf
      obtain ⟨v30, ev30, hf⟩ := wc_st_n hf
      obtain ⟨v31, ev31, hf⟩ := wc_st_n hf
      obtain ⟨h32, hf⟩ := wc_gd_e hf
      obtain ⟨v33, ev33, hf⟩ := wc_st_n hf
      obtain ⟨h34, hf⟩ := wc_gd_e hf
      obtain ⟨v35, ev35, hf⟩ := wc_st_n hf
      obtain ⟨r37, σ36, hq, hf⟩ := wc_b2_e hf
      have hm := wr_x hm (wr_M_jumpOf _ _ _ _ hq) (fun _ _ h => False.elim h)
      obtain ⟨v38, ev38, hf⟩ := wc_st_n hf
      obtain ⟨σ39, eσ39, hf⟩ := wc_st_n hf
      have hm := wr_u hm eσ39 (by unfold wS_M_reckon; omega)
      exact wr_j hm (J118 k20 hk20 x2 x3 x4 σ39 hf)
  have J53 : ∀ (k20 : Int32 → Int32 → Int32 → wc_S → Option wc_S) (hk20 : (∀ (x2 : Int32) (x3 : Int32) (x4 : Int32) (σ : wc_S), k20 x2 x3 x4 σ = some res → wr_q (wS_M_reckon) σ res)) (x2 : Int32) (x3 : Int32) (x4 : Int32) (s1 : Int32) (s2 : Int32) (σ : wc_S), wf_M_reckon_53 k1 k20 x2 x3 x4 s1 s2 σ = some res → wr_q (wS_M_reckon) σ res := by
    intro k20 hk20 x2 x3 x4 s1 s2 σ hf
    have hm : wr_q (wS_M_reckon) σ σ := wr_0
    unfold wf_M_reckon_53 at hf
    obtain ⟨h6, hf⟩ := wc_gd_e hf
    obtain ⟨σ7, eσ7, hf⟩ := wc_st_n hf
    have hm := wr_u hm eσ7 (by unfold wS_M_reckon; omega)
    obtain ⟨h8, hf⟩ := wc_gd_e hf
    obtain ⟨v9, ev9, hf⟩ := wc_st_n hf
    by_cases c10 : v9 = 0
    · have hf := wc_t c10 hf
      exact wr_j hm (J90 k20 hk20 x2 x3 x4 σ7 hf)
    · have hf := wc_f c10 hf
      obtain ⟨v40, ev40, hf⟩ := wc_st_n hf
      obtain ⟨v41, ev41, hf⟩ := wc_st_n hf
      obtain ⟨σ42, eσ42, hf⟩ := wc_st_n hf
      have hm := wr_u hm eσ42 (by unfold wS_M_reckon; omega)
      obtain ⟨v43, ev43, hf⟩ := wc_st_n hf
      obtain ⟨v44, ev44, hf⟩ := wc_st_n hf
      obtain ⟨v45, ev45, hf⟩ := wc_st_n hf
      obtain ⟨σ46, eσ46, hf⟩ := wc_st_n hf
      have hm := wr_u hm eσ46 (by unfold wS_M_reckon; omega)
      exact wr_j hm (J90 k20 hk20 x2 x4 x4 σ46 hf)
  have J52 : ∀ (k20 : Int32 → Int32 → Int32 → wc_S → Option wc_S) (hk20 : (∀ (x2 : Int32) (x3 : Int32) (x4 : Int32) (σ : wc_S), k20 x2 x3 x4 σ = some res → wr_q (wS_M_reckon) σ res)) (x2 : Int32) (x3 : Int32) (x4 : Int32) (s1 : Int32) (σ : wc_S), wf_M_reckon_52 k1 k20 x2 x3 x4 s1 σ = some res → wr_q (wS_M_reckon) σ res := by
    intro k20 hk20 x2 x3 x4 s1 σ hf
    have hm : wr_q (wS_M_reckon) σ σ := wr_0
    unfold wf_M_reckon_52 at hf
    exact wr_j hm (J53 k20 hk20 x2 x3 x4 s1 0 σ hf)
  have J20 : ∀ (n : Nat) (x2 : Int32) (x3 : Int32) (x4 : Int32) (σ : wc_S), wf_M_reckon_20 k1 n x2 x3 x4 σ = some res → wr_q (wS_M_reckon) σ res := by
    intro  n
    induction n with
    | zero => intro x2 x3 x4 σ hf; exact absurd hf (by intro h9; cases h9)
    | succ n hk20 =>
      intro x2 x3 x4 σ hf
      have hm : wr_q (wS_M_reckon) σ σ := wr_0
      have hf : wf_M_reckon_20_b k1 (wf_M_reckon_20 k1 n) x2 x3 x4 σ = some res := hf
      unfold wf_M_reckon_20_b at hf
      by_cases c4 : x2 ≤ x4
      · have hf := wc_t c4 hf
        exact wr_f (g := fun r => r) hf hm
      · have hf := wc_f c4 hf
        by_cases c5 : x4 ≤ 0
        · have hf := wc_t c5 hf
          exact wr_j hm (J52 (wf_M_reckon_20 k1 n) hk20 x2 x3 x4 x4 σ hf)
        · have hf := wc_f c5 hf
          obtain ⟨r48, σ47, hq, hf⟩ := wc_b2_e hf
          have hm := wr_x hm (wr_M_isWorn _ _ _ _ _ hq) (fun _ _ h => False.elim h)
          by_cases c49 : r48 = 0
          · have hf := wc_t c49 hf
            exact wr_j hm (J52 (wf_M_reckon_20 k1 n) hk20 x2 x3 x4 x4 σ47 hf)
          · have hf := wc_f c49 hf
            exact wr_j hm (J53 (wf_M_reckon_20 k1 n) hk20 x2 x3 x4 x4 1 σ47 hf)
  have hm : wr_q (wS_M_reckon) σ σ := wr_0
  unfold wf_M_reckon at hf
  obtain ⟨σ1, eσ1, hf⟩ := wc_st_n hf
  have hm := wr_u hm eσ1 (by unfold wS_M_reckon; omega)
  obtain ⟨σ2, eσ2, hf⟩ := wc_st_n hf
  have hm := wr_u hm eσ2 (by unfold wS_M_reckon; omega)
  obtain ⟨σ3, eσ3, hf⟩ := wc_st_n hf
  have hm := wr_u hm eσ3 (by unfold wS_M_reckon; omega)
  exact wr_j hm (J20 16 a2 0 0 σ3 hf)
theorem wr_M_stands (a1 : Int32) (a2 : Int32) (σ : wc_S) (res : Int32 × wc_S) (hf : wf_M_stands a1 a2 σ = some res) : wr_q (wS_M_stands) σ res.2 := by
  have J2 : ∀ (n : Nat) (x1 : Int32) (x2 : Int32) (x3 : Int32) (σ : wc_S), wf_M_stands_2 n x1 x2 x3 σ = some res → wr_q (wS_M_stands) σ res.2 := by
    intro  n
    induction n with
    | zero => intro x1 x2 x3 σ hf; exact absurd hf (by intro h9; cases h9)
    | succ n hk2 =>
      intro x1 x2 x3 σ hf
      have hm : wr_q (wS_M_stands) σ σ := wr_0
      have hf : wf_M_stands_2_b (wf_M_stands_2 n) x1 x2 x3 σ = some res := hf
      unfold wf_M_stands_2_b at hf
      by_cases c1 : x2 ≤ x3
      · have hf := wc_t c1 hf
        exact wr_f (g := fun r => r.2) hf hm
      · have hf := wc_f c1 hf
        obtain ⟨h2, hf⟩ := wc_gd_e hf
        obtain ⟨v3, ev3, hf⟩ := wc_st_n hf
        by_cases c4 : v3 = x1
        · have hf := wc_t c4 hf
          exact wr_f (g := fun r => r.2) hf hm
        · have hf := wc_f c4 hf
          obtain ⟨v5, ev5, hf⟩ := wc_st_n hf
          exact wr_j hm (hk2 x1 x2 v5 σ hf)
  have hm : wr_q (wS_M_stands) σ σ := wr_0
  unfold wf_M_stands at hf
  exact wr_j hm (J2 16 a1 a2 0 σ hf)
theorem wr_M_run (a1 : Int32) (σ : wc_S) (res : Int32 × wc_S) (hf : wf_M_run a1 σ = some res) : wr_q (wS_M_run) σ res.2 := by
  have J291 : ∀ (σ : wc_S), wf_M_run_291  σ = some res → wr_q (wS_M_run) σ res.2 := by
    intro   σ hf
    have hm : wr_q (wS_M_run) σ σ := wr_0
    unfold wf_M_run_291 at hf
    obtain ⟨v14, ev14, hf⟩ := wc_st_n hf
    by_cases c15 : v14 = 0
    · have hf := wc_t c15 hf
      exact wr_f (g := fun r => r.2) hf hm
    · have hf := wc_f c15 hf
      obtain ⟨v16, ev16, hf⟩ := wc_st_n hf
      exact wr_f (g := fun r => r.2) hf hm
  have J89 : ∀ (k61 : Int32 → Int32 → Int32 → wc_S → Option (Int32 × wc_S)) (hk61 : (∀ (x2 : Int32) (x3 : Int32) (x4 : Int32) (σ : wc_S), k61 x2 x3 x4 σ = some res → wr_q (wS_M_run) σ res.2)) (x2 : Int32) (x3 : Int32) (x4 : Int32) (σ : wc_S), wf_M_run_89 k61 x2 x3 x4 σ = some res → wr_q (wS_M_run) σ res.2 := by
    intro k61 hk61 x2 x3 x4 σ hf
    have hm : wr_q (wS_M_run) σ σ := wr_0
    unfold wf_M_run_89 at hf
    obtain ⟨v19, ev19, hf⟩ := wc_st_n hf
    by_cases c20 : v19 < 0
    · have hf := wc_t c20 hf
      exact wr_j hm (hk61 x2 x3 v19 σ hf)
    · have hf := wc_f c20 hf
      obtain ⟨h21, hf⟩ := wc_gd_e hf
      obtain ⟨v22, ev22, hf⟩ := wc_st_n hf
      obtain ⟨v23, ev23, hf⟩ := wc_st_n hf
      obtain ⟨h24, hf⟩ := wc_gd_e hf
      obtain ⟨σ25, eσ25, hf⟩ := wc_st_n hf
      have hm := wr_u hm eσ25 (by unfold wS_M_run; omega)
      exact wr_j hm (hk61 x2 x3 v19 σ25 hf)
  have J140 : ∀ (k61 : Int32 → Int32 → Int32 → wc_S → Option (Int32 × wc_S)) (hk61 : (∀ (x2 : Int32) (x3 : Int32) (x4 : Int32) (σ : wc_S), k61 x2 x3 x4 σ = some res → wr_q (wS_M_run) σ res.2)) (x2 : Int32) (x3 : Int32) (x4 : Int32) (σ : wc_S), wf_M_run_140 k61 x2 x3 x4 σ = some res → wr_q (wS_M_run) σ res.2 := by
    intro k61 hk61 x2 x3 x4 σ hf
    have hm : wr_q (wS_M_run) σ σ := wr_0
    unfold wf_M_run_140 at hf
    obtain ⟨h35, hf⟩ := wc_gd_e hf
    obtain ⟨v36, ev36, hf⟩ := wc_st_n hf
    obtain ⟨v37, ev37, hf⟩ := wc_st_n hf
    obtain ⟨h38, hf⟩ := wc_gd_e hf
    obtain ⟨σ39, eσ39, hf⟩ := wc_st_n hf
    have hm := wr_u hm eσ39 (by unfold wS_M_run; omega)
    exact wr_j hm (hk61 x2 x3 x4 σ39 hf)
  have J234 : ∀ (k61 : Int32 → Int32 → Int32 → wc_S → Option (Int32 × wc_S)) (hk61 : (∀ (x2 : Int32) (x3 : Int32) (x4 : Int32) (σ : wc_S), k61 x2 x3 x4 σ = some res → wr_q (wS_M_run) σ res.2)) (n : Nat) (x2 : Int32) (x3 : Int32) (x4 : Int32) (x5 : Int32) (σ : wc_S), wf_M_run_234 k61 n x2 x3 x4 x5 σ = some res → wr_q (wS_M_run) σ res.2 := by
    intro k61 hk61 n
    induction n with
    | zero => intro x2 x3 x4 x5 σ hf; exact absurd hf (by intro h9; cases h9)
    | succ n hk234 =>
      intro x2 x3 x4 x5 σ hf
      have hm : wr_q (wS_M_run) σ σ := wr_0
      have hf : wf_M_run_234_b k61 (wf_M_run_234 k61 n) x2 x3 x4 x5 σ = some res := hf
      unfold wf_M_run_234_b at hf
      obtain ⟨v57, ev57, hf⟩ := wc_st_n hf
      by_cases c58 : v57 ≤ x5
      · have hf := wc_t c58 hf
        obtain ⟨h59, hf⟩ := wc_gd_e hf
        obtain ⟨v60, ev60, hf⟩ := wc_st_n hf
        obtain ⟨v61, ev61, hf⟩ := wc_st_n hf
        obtain ⟨h62, hf⟩ := wc_gd_e hf
        obtain ⟨σ63, eσ63, hf⟩ := wc_st_n hf
        have hm := wr_u hm eσ63 (by unfold wS_M_run; omega)
        exact wr_j hm (hk61 x2 x3 x4 σ63 hf)
      · have hf := wc_f c58 hf
        obtain ⟨h64, hf⟩ := wc_gd_e hf
        obtain ⟨v65, ev65, hf⟩ := wc_st_n hf
        obtain ⟨h66, hf⟩ := wc_gd_e hf
        obtain ⟨σ67, eσ67, hf⟩ := wc_st_n hf
        have hm := wr_u hm eσ67 (by unfold wS_M_run; omega)
        obtain ⟨v68, ev68, hf⟩ := wc_st_n hf
        exact wr_j hm (hk234 x2 x3 x4 v68 σ67 hf)
  have J210 : ∀ (k61 : Int32 → Int32 → Int32 → wc_S → Option (Int32 × wc_S)) (hk61 : (∀ (x2 : Int32) (x3 : Int32) (x4 : Int32) (σ : wc_S), k61 x2 x3 x4 σ = some res → wr_q (wS_M_run) σ res.2)) (x2 : Int32) (x3 : Int32) (x4 : Int32) (σ : wc_S), wf_M_run_210 k61 x2 x3 x4 σ = some res → wr_q (wS_M_run) σ res.2 := by
    intro k61 hk61 x2 x3 x4 σ hf
    have hm : wr_q (wS_M_run) σ σ := wr_0
    unfold wf_M_run_210 at hf
    obtain ⟨v49, ev49, hf⟩ := wc_st_n hf
    obtain ⟨v50, ev50, hf⟩ := wc_st_n hf
    by_cases c51 : x4 = v50
    · have hf := wc_t c51 hf
      obtain ⟨σ55, eσ55, hf⟩ := wc_st_n hf
      have hm := wr_u hm eσ55 (by unfold wS_M_run; omega)
      obtain ⟨v56, ev56, hf⟩ := wc_st_n hf
      exact wr_j hm (J234 k61 hk61 16 v56 x3 x4 0 σ55 hf)
    · have hf := wc_f c51 hf
      obtain ⟨v52, ev52, hf⟩ := wc_st_n hf
      obtain ⟨h53, hf⟩ := wc_gd_e hf
      obtain ⟨σ54, eσ54, hf⟩ := wc_st_n hf
      have hm := wr_u hm eσ54 (by unfold wS_M_run; omega)
      exact wr_j hm (hk61 x2 x3 v52 σ54 hf)
  have J61 : ∀ (n : Nat) (x2 : Int32) (x3 : Int32) (x4 : Int32) (σ : wc_S), wf_M_run_61 n x2 x3 x4 σ = some res → wr_q (wS_M_run) σ res.2 := by
    intro  n
    induction n with
    | zero => intro x2 x3 x4 σ hf; exact absurd hf (by intro h9; cases h9)
    | succ n hk61 =>
      intro x2 x3 x4 σ hf
      have hm : wr_q (wS_M_run) σ σ := wr_0
      have hf : wf_M_run_61_b (wf_M_run_61 n) x2 x3 x4 σ = some res := hf
      unfold wf_M_run_61_b at hf
      by_cases c13 : x4 < 0
      · have hf := wc_t c13 hf
        exact wr_j hm (J291  σ hf)
      · have hf := wc_f c13 hf
        obtain ⟨v17, ev17, hf⟩ := wc_st_n hf
        by_cases c18 : x4 = v17
        · have hf := wc_t c18 hf
          exact wr_j hm (J89 (wf_M_run_61 n) hk61 x2 x3 x4 σ hf)
        · have hf := wc_f c18 hf
          obtain ⟨h26, hf⟩ := wc_gd_e hf
          obtain ⟨v27, ev27, hf⟩ := wc_st_n hf
          obtain ⟨v28, ev28, hf⟩ := wc_st_n hf
          by_cases c29 : v27 = v28
          · have hf := wc_t c29 hf
            exact wr_j hm (J89 (wf_M_run_61 n) hk61 x2 x3 x4 σ hf)
          · have hf := wc_f c29 hf
            obtain ⟨h30, hf⟩ := wc_gd_e hf
            obtain ⟨v31, ev31, hf⟩ := wc_st_n hf
            obtain ⟨r33, σ32, hq, hf⟩ := wc_b2_e hf
            have hm := wr_x hm (wr_M_stands _ _ _ _ hq) (fun _ _ h => False.elim h)
            by_cases c34 : r33 = 0
            · have hf := wc_t c34 hf
              obtain ⟨r41, σ40, hq, hf⟩ := wc_b2_e hf
              have hm := wr_x hm (wr_M_mayBe _ _ _ _ hq) (fun _ _ h => False.elim h)
              by_cases c42 : r41 = 0
              · have hf := wc_t c42 hf
                exact wr_j hm (J140 (wf_M_run_61 n) hk61 x2 x3 x4 σ40 hf)
              · have hf := wc_f c42 hf
                by_cases c43 : x3 = 0
                · have hf := wc_t c43 hf
                  obtain ⟨σ76, eσ76, hf⟩ := wc_st_n hf
                  have hm := wr_u hm eσ76 (by unfold wS_M_run; omega)
                  exact wr_j hm (J291  σ76 hf)
                · have hf := wc_f c43 hf
                  obtain ⟨v44, ev44, hf⟩ := wc_st_n hf
                  obtain ⟨v45, ev45, hf⟩ := wc_st_n hf
                  obtain ⟨σ46, hq, hf⟩ := wc_b1_e hf
                  have hm := wr_x hm (wr_M_reckon _ _ _ _ hq) (by intro k i h; unfold wS_M_reckon at h; unfold wS_M_run; omega)
                  obtain ⟨v47, ev47, hf⟩ := wc_st_n hf
                  by_cases c48 : v47 = 0
                  · have hf := wc_t c48 hf
                    exact wr_j hm (J210 (wf_M_run_61 n) hk61 x2 v44 x4 σ46 hf)
                  · have hf := wc_f c48 hf
                    obtain ⟨v69, ev69, hf⟩ := wc_st_n hf
                    by_cases c70 : v69 < x2
                    · have hf := wc_t c70 hf
                      exact wr_j hm (J210 (wf_M_run_61 n) hk61 x2 v44 x4 σ46 hf)
                    · have hf := wc_f c70 hf
                      obtain ⟨h71, hf⟩ := wc_gd_e hf
                      obtain ⟨v72, ev72, hf⟩ := wc_st_n hf
                      obtain ⟨v73, ev73, hf⟩ := wc_st_n hf
                      obtain ⟨h74, hf⟩ := wc_gd_e hf
                      obtain ⟨σ75, eσ75, hf⟩ := wc_st_n hf
                      have hm := wr_u hm eσ75 (by unfold wS_M_run; omega)
                      exact wr_j hm (hk61 x2 v44 x4 σ75 hf)
            · have hf := wc_f c34 hf
              exact wr_j hm (J140 (wf_M_run_61 n) hk61 x2 x3 x4 σ32 hf)
  have hm : wr_q (wS_M_run) σ σ := wr_0
  unfold wf_M_run at hf
  obtain ⟨r2, σ1, hq, hf⟩ := wc_b2_e hf
  have hm := wr_x hm (wr_M_in _ _ _ _ _ hq) (fun _ _ h => False.elim h)
  obtain ⟨r4, σ3, hq, hf⟩ := wc_b2_e hf
  have hm := wr_x hm (wr_M_goes _ _ _ _ _ hq) (by intro k i h; unfold wS_M_goes at h; unfold wS_M_run; omega)
  by_cases c5 : r4 = 0
  · have hf := wc_t c5 hf
    exact wr_f (g := fun r => r.2) hf hm
  · have hf := wc_f c5 hf
    obtain ⟨σ6, eσ6, hf⟩ := wc_st_n hf
    have hm := wr_u hm eσ6 (by unfold wS_M_run; omega)
    obtain ⟨σ7, eσ7, hf⟩ := wc_st_n hf
    have hm := wr_u hm eσ7 (by unfold wS_M_run; omega)
    obtain ⟨σ8, eσ8, hf⟩ := wc_st_n hf
    have hm := wr_u hm eσ8 (by unfold wS_M_run; omega)
    obtain ⟨h9, hf⟩ := wc_gd_e hf
    obtain ⟨σ10, eσ10, hf⟩ := wc_st_n hf
    have hm := wr_u hm eσ10 (by unfold wS_M_run; omega)
    obtain ⟨v11, ev11, hf⟩ := wc_st_n hf
    by_cases c12 : v11 = 0
    · have hf := wc_t c12 hf
      obtain ⟨σ77, eσ77, hf⟩ := wc_st_n hf
      have hm := wr_u hm eσ77 (by unfold wS_M_run; omega)
      exact wr_f (g := fun r => r.2) hf hm
    · have hf := wc_f c12 hf
      exact wr_j hm (J61 wc_big 0 a1 0 σ10 hf)
theorem wr_M_proved (σ : wc_S) (res : Int32 × wc_S) (hf : wf_M_proved  σ = some res) : wr_q (wS_M_proved) σ res.2 := by
  have hm : wr_q (wS_M_proved) σ σ := wr_0
  unfold wf_M_proved at hf
  obtain ⟨v1, ev1, hf⟩ := wc_st_n hf
  obtain ⟨r3, σ2, hq, hf⟩ := wc_b2_e hf
  have hm := wr_x hm (wr_M_goes _ _ _ _ _ hq) (by intro k i h; unfold wS_M_goes at h; unfold wS_M_proved; omega)
  by_cases c4 : r3 = 0
  · have hf := wc_t c4 hf
    exact wr_f (g := fun r => r.2) hf hm
  · have hf := wc_f c4 hf
    obtain ⟨v5, ev5, hf⟩ := wc_st_n hf
    by_cases c6 : v5 = 0
    · have hf := wc_t c6 hf
      exact wr_f (g := fun r => r.2) hf hm
    · have hf := wc_f c6 hf
      exact wr_f (g := fun r => r.2) hf hm
theorem wr_M_order (a1 : Int32) (σ : wc_S) (res : Int32 × wc_S) (hf : wf_M_order a1 σ = some res) : wr_q (wS_M_order) σ res.2 := by
  have J31 : ∀ (x1 : Int32) (s1 : Int32) (σ : wc_S), wf_M_order_31 x1 s1 σ = some res → wr_q (wS_M_order) σ res.2 := by
    intro  x1 s1 σ hf
    have hm : wr_q (wS_M_order) σ σ := wr_0
    unfold wf_M_order_31 at hf
    obtain ⟨σ8, eσ8, hf⟩ := wc_st_n hf
    have hm := wr_u hm eσ8 (by unfold wS_M_order; omega)
    obtain ⟨v9, ev9, hf⟩ := wc_st_n hf
    by_cases c10 : v9 ≤ 0
    · have hf := wc_t c10 hf
      obtain ⟨h11, hf⟩ := wc_gd_e hf
      obtain ⟨v12, ev12, hf⟩ := wc_st_n hf
      exact wr_f (g := fun r => r.2) hf hm
    · have hf := wc_f c10 hf
      exact wr_f (g := fun r => r.2) hf hm
  have hm : wr_q (wS_M_order) σ σ := wr_0
  unfold wf_M_order at hf
  obtain ⟨v1, ev1, hf⟩ := wc_st_n hf
  by_cases c2 : v1 = 0
  · have hf := wc_t c2 hf
    exact wr_j hm (J31 a1 2 σ hf)
  · have hf := wc_f c2 hf
    obtain ⟨v3, ev3, hf⟩ := wc_st_n hf
    obtain ⟨v4, ev4, hf⟩ := wc_st_n hf
    obtain ⟨r6, σ5, hq, hf⟩ := wc_b2_e hf
    have hm := wr_x hm (wr_M_in _ _ _ _ _ hq) (fun _ _ h => False.elim h)
    by_cases c7 : r6 = 0
    · have hf := wc_t c7 hf
      exact wr_j hm (J31 a1 1 σ5 hf)
    · have hf := wc_f c7 hf
      exact wr_j hm (J31 a1 0 σ5 hf)
theorem wr_M_told (a1 : Int32) (σ : wc_S) (res : Int32 × wc_S) (hf : wf_M_told a1 σ = some res) : wr_q (wS_M_told) σ res.2 := by
  have hm : wr_q (wS_M_told) σ σ := wr_0
  unfold wf_M_told at hf
  obtain ⟨r2, σ1, hq, hf⟩ := wc_b2_e hf
  have hm := wr_x hm (wr_M_in _ _ _ _ _ hq) (fun _ _ h => False.elim h)
  obtain ⟨v3, ev3, hf⟩ := wc_st_n hf
  obtain ⟨r5, σ4, hq, hf⟩ := wc_b2_e hf
  have hm := wr_x hm (wr_M_goes _ _ _ _ _ hq) (by intro k i h; unfold wS_M_goes at h; unfold wS_M_told; omega)
  by_cases c6 : r5 = 0
  · have hf := wc_t c6 hf
    exact wr_f (g := fun r => r.2) hf hm
  · have hf := wc_f c6 hf
    obtain ⟨v7, ev7, hf⟩ := wc_st_n hf
    obtain ⟨σ8, hq, hf⟩ := wc_b1_e hf
    have hm := wr_x hm (wr_M_reckon _ _ _ _ hq) (by intro k i h; unfold wS_M_reckon at h; unfold wS_M_told; omega)
    by_cases c9 : a1 = 0
    · have hf := wc_t c9 hf
      obtain ⟨v13, ev13, hf⟩ := wc_st_n hf
      exact wr_f (g := fun r => r.2) hf hm
    · have hf := wc_f c9 hf
      by_cases c10 : a1 = 1
      · have hf := wc_t c10 hf
        obtain ⟨v12, ev12, hf⟩ := wc_st_n hf
        exact wr_f (g := fun r => r.2) hf hm
      · have hf := wc_f c10 hf
        obtain ⟨v11, ev11, hf⟩ := wc_st_n hf
        exact wr_f (g := fun r => r.2) hf hm
theorem wr_M_change (a1 : Int32) (σ : wc_S) (res : Int32 × wc_S) (hf : wf_M_change a1 σ = some res) : wr_q (wS_M_change) σ res.2 := by
  have J31 : ∀ (x1 : Int32) (s1 : Int32) (σ : wc_S), wf_M_change_31 x1 s1 σ = some res → wr_q (wS_M_change) σ res.2 := by
    intro  x1 s1 σ hf
    have hm : wr_q (wS_M_change) σ σ := wr_0
    unfold wf_M_change_31 at hf
    obtain ⟨σ8, eσ8, hf⟩ := wc_st_n hf
    have hm := wr_u hm eσ8 (by unfold wS_M_change; omega)
    obtain ⟨v9, ev9, hf⟩ := wc_st_n hf
    by_cases c10 : v9 ≤ 0
    · have hf := wc_t c10 hf
      obtain ⟨v11, ev11, hf⟩ := wc_st_n hf
      obtain ⟨σ12, hq, hf⟩ := wc_b1_e hf
      have hm := wr_x hm (wr_M_reckon _ _ _ _ hq) (by intro k i h; unfold wS_M_reckon at h; unfold wS_M_change; omega)
      obtain ⟨h13, hf⟩ := wc_gd_e hf
      obtain ⟨v14, ev14, hf⟩ := wc_st_n hf
      obtain ⟨h15, hf⟩ := wc_gd_e hf
      exact wr_f (g := fun r => r.2) hf hm
    · have hf := wc_f c10 hf
      exact wr_f (g := fun r => r.2) hf hm
  have hm : wr_q (wS_M_change) σ σ := wr_0
  unfold wf_M_change at hf
  obtain ⟨v1, ev1, hf⟩ := wc_st_n hf
  by_cases c2 : v1 = 0
  · have hf := wc_t c2 hf
    exact wr_j hm (J31 a1 2 σ hf)
  · have hf := wc_f c2 hf
    obtain ⟨v3, ev3, hf⟩ := wc_st_n hf
    obtain ⟨v4, ev4, hf⟩ := wc_st_n hf
    obtain ⟨r6, σ5, hq, hf⟩ := wc_b2_e hf
    have hm := wr_x hm (wr_M_in _ _ _ _ _ hq) (fun _ _ h => False.elim h)
    by_cases c7 : r6 = 0
    · have hf := wc_t c7 hf
      exact wr_j hm (J31 a1 1 σ5 hf)
    · have hf := wc_f c7 hf
      exact wr_j hm (J31 a1 0 σ5 hf)
theorem wr_M_jump (a1 : Int32) (a2 : Int32) (σ : wc_S) (res : Int32 × wc_S) (hf : wf_M_jump a1 a2 σ = some res) : wr_q (wS_M_jump) σ res.2 := by
  have J27 : ∀ (x1 : Int32) (x2 : Int32) (s1 : Int32) (σ : wc_S), wf_M_jump_27 x1 x2 s1 σ = some res → wr_q (wS_M_jump) σ res.2 := by
    intro  x1 x2 s1 σ hf
    have hm : wr_q (wS_M_jump) σ σ := wr_0
    unfold wf_M_jump_27 at hf
    obtain ⟨r5, σ4, hq, hf⟩ := wc_b2_e hf
    have hm := wr_x hm (wr_M_goes _ _ _ _ _ hq) (by intro k i h; unfold wS_M_goes at h; unfold wS_M_jump; omega)
    by_cases c6 : r5 = 0
    · have hf := wc_t c6 hf
      exact wr_f (g := fun r => r.2) hf hm
    · have hf := wc_f c6 hf
      obtain ⟨r8, σ7, hq, hf⟩ := wc_b2_e hf
      have hm := wr_x hm (wr_M_jumpOf _ _ _ _ hq) (fun _ _ h => False.elim h)
      exact wr_f (g := fun r => r.2) hf hm
  have J26 : ∀ (x1 : Int32) (x2 : Int32) (σ : wc_S), wf_M_jump_26 x1 x2 σ = some res → wr_q (wS_M_jump) σ res.2 := by
    intro  x1 x2 σ hf
    have hm : wr_q (wS_M_jump) σ σ := wr_0
    unfold wf_M_jump_26 at hf
    exact wr_j hm (J27 x1 x2 0 σ hf)
  have hm : wr_q (wS_M_jump) σ σ := wr_0
  unfold wf_M_jump at hf
  obtain ⟨r2, σ1, hq, hf⟩ := wc_b2_e hf
  have hm := wr_x hm (wr_M_isCoil _ _ _ hq) (fun _ _ h => False.elim h)
  by_cases c3 : r2 = 0
  · have hf := wc_t c3 hf
    exact wr_j hm (J26 a1 a2 σ1 hf)
  · have hf := wc_f c3 hf
    obtain ⟨r10, σ9, hq, hf⟩ := wc_b2_e hf
    have hm := wr_x hm (wr_M_isCoil _ _ _ hq) (fun _ _ h => False.elim h)
    by_cases c11 : r10 = 0
    · have hf := wc_t c11 hf
      exact wr_j hm (J26 a1 a2 σ9 hf)
    · have hf := wc_f c11 hf
      by_cases c12 : a1 = a2
      · have hf := wc_t c12 hf
        exact wr_j hm (J26 a1 a2 σ9 hf)
      · have hf := wc_f c12 hf
        exact wr_j hm (J27 a1 a2 1 σ9 hf)
theorem wr_M_bound (σ : wc_S) (res : Int32 × wc_S) (hf : wf_M_bound  σ = some res) : wr_q (wS_M_bound) σ res.2 := by
  have J101 : ∀ (k11 : Int32 → Int32 → Int32 → wc_S → Option (Int32 × wc_S)) (hk11 : (∀ (x1 : Int32) (x2 : Int32) (x3 : Int32) (σ : wc_S), k11 x1 x2 x3 σ = some res → wr_q (wS_M_bound) σ res.2)) (x1 : Int32) (x2 : Int32) (x3 : Int32) (σ : wc_S), wf_M_bound_101 k11 x1 x2 x3 σ = some res → wr_q (wS_M_bound) σ res.2 := by
    intro k11 hk11 x1 x2 x3 σ hf
    have hm : wr_q (wS_M_bound) σ σ := wr_0
    unfold wf_M_bound_101 at hf
    obtain ⟨v10, ev10, hf⟩ := wc_st_n hf
    exact wr_j hm (hk11 x1 x2 v10 σ hf)
  have J87 : ∀ (k11 : Int32 → Int32 → Int32 → wc_S → Option (Int32 × wc_S)) (hk11 : (∀ (x1 : Int32) (x2 : Int32) (x3 : Int32) (σ : wc_S), k11 x1 x2 x3 σ = some res → wr_q (wS_M_bound) σ res.2)) (x1 : Int32) (x2 : Int32) (x3 : Int32) (x4 : Int32) (σ : wc_S), wf_M_bound_87 k11 x1 x2 x3 x4 σ = some res → wr_q (wS_M_bound) σ res.2 := by
    intro k11 hk11 x1 x2 x3 x4 σ hf
    have hm : wr_q (wS_M_bound) σ σ := wr_0
    unfold wf_M_bound_87 at hf
    obtain ⟨v8, ev8, hf⟩ := wc_st_n hf
    by_cases c9 : x4 ≤ x2
    · have hf := wc_t c9 hf
      exact wr_j hm (J101 k11 hk11 v8 x2 x3 σ hf)
    · have hf := wc_f c9 hf
      exact wr_j hm (J101 k11 hk11 v8 x4 x3 σ hf)
  have J73 : ∀ (k11 : Int32 → Int32 → Int32 → wc_S → Option (Int32 × wc_S)) (hk11 : (∀ (x1 : Int32) (x2 : Int32) (x3 : Int32) (σ : wc_S), k11 x1 x2 x3 σ = some res → wr_q (wS_M_bound) σ res.2)) (k25 : Int32 → Int32 → Int32 → Int32 → Int32 → wc_S → Option (Int32 × wc_S)) (hk25 : (∀ (x1 : Int32) (x2 : Int32) (x3 : Int32) (x4 : Int32) (x5 : Int32) (σ : wc_S), k25 x1 x2 x3 x4 x5 σ = some res → wr_q (wS_M_bound) σ res.2)) (x1 : Int32) (x2 : Int32) (x3 : Int32) (x4 : Int32) (x5 : Int32) (σ : wc_S), wf_M_bound_73 k11 k25 x1 x2 x3 x4 x5 σ = some res → wr_q (wS_M_bound) σ res.2 := by
    intro k11 hk11 k25 hk25 x1 x2 x3 x4 x5 σ hf
    have hm : wr_q (wS_M_bound) σ σ := wr_0
    unfold wf_M_bound_73 at hf
    obtain ⟨v15, ev15, hf⟩ := wc_st_n hf
    exact wr_j hm (hk25 x1 x2 x3 x4 v15 σ hf)
  have J69 : ∀ (k11 : Int32 → Int32 → Int32 → wc_S → Option (Int32 × wc_S)) (hk11 : (∀ (x1 : Int32) (x2 : Int32) (x3 : Int32) (σ : wc_S), k11 x1 x2 x3 σ = some res → wr_q (wS_M_bound) σ res.2)) (k25 : Int32 → Int32 → Int32 → Int32 → Int32 → wc_S → Option (Int32 × wc_S)) (hk25 : (∀ (x1 : Int32) (x2 : Int32) (x3 : Int32) (x4 : Int32) (x5 : Int32) (σ : wc_S), k25 x1 x2 x3 x4 x5 σ = some res → wr_q (wS_M_bound) σ res.2)) (x1 : Int32) (x2 : Int32) (x3 : Int32) (x5 : Int32) (x6 : Int32) (σ : wc_S), wf_M_bound_69 k11 k25 x1 x2 x3 x5 x6 σ = some res → wr_q (wS_M_bound) σ res.2 := by
    intro k11 hk11 k25 hk25 x1 x2 x3 x5 x6 σ hf
    have hm : wr_q (wS_M_bound) σ σ := wr_0
    unfold wf_M_bound_69 at hf
    exact wr_j hm (J73 k11 hk11 k25 hk25 x1 x2 x3 x6 x5 σ hf)
  have J25 : ∀ (k11 : Int32 → Int32 → Int32 → wc_S → Option (Int32 × wc_S)) (hk11 : (∀ (x1 : Int32) (x2 : Int32) (x3 : Int32) (σ : wc_S), k11 x1 x2 x3 σ = some res → wr_q (wS_M_bound) σ res.2)) (n : Nat) (x1 : Int32) (x2 : Int32) (x3 : Int32) (x4 : Int32) (x5 : Int32) (σ : wc_S), wf_M_bound_25 k11 n x1 x2 x3 x4 x5 σ = some res → wr_q (wS_M_bound) σ res.2 := by
    intro k11 hk11 n
    induction n with
    | zero => intro x1 x2 x3 x4 x5 σ hf; exact absurd hf (by intro h9; cases h9)
    | succ n hk25 =>
      intro x1 x2 x3 x4 x5 σ hf
      have hm : wr_q (wS_M_bound) σ σ := wr_0
      have hf : wf_M_bound_25_b k11 (wf_M_bound_25 k11 n) x1 x2 x3 x4 x5 σ = some res := hf
      unfold wf_M_bound_25_b at hf
      obtain ⟨v5, ev5, hf⟩ := wc_st_n hf
      by_cases c6 : v5 ≤ x5
      · have hf := wc_t c6 hf
        by_cases c7 : 0 ≤ x4
        · have hf := wc_t c7 hf
          exact wr_j hm (J87 k11 hk11 x1 x2 x3 x4 σ hf)
        · have hf := wc_f c7 hf
          exact wr_j hm (J87 k11 hk11 x1 x2 x3 0 σ hf)
      · have hf := wc_f c6 hf
        by_cases c11 : x5 = x3
        · have hf := wc_t c11 hf
          exact wr_j hm (J73 k11 hk11 (wf_M_bound_25 k11 n) hk25 x1 x2 x3 x4 x5 σ hf)
        · have hf := wc_f c11 hf
          obtain ⟨r13, σ12, hq, hf⟩ := wc_b2_e hf
          have hm := wr_x hm (wr_M_jumpOf _ _ _ _ hq) (fun _ _ h => False.elim h)
          by_cases c14 : r13 < 0
          · have hf := wc_t c14 hf
            exact wr_j hm (J73 k11 hk11 (wf_M_bound_25 k11 n) hk25 x1 x2 x3 x4 x5 σ12 hf)
          · have hf := wc_f c14 hf
            by_cases c16 : x4 < 0
            · have hf := wc_t c16 hf
              exact wr_j hm (J69 k11 hk11 (wf_M_bound_25 k11 n) hk25 x1 x2 x3 x5 r13 σ12 hf)
            · have hf := wc_f c16 hf
              by_cases c17 : x4 ≤ r13
              · have hf := wc_t c17 hf
                exact wr_j hm (J73 k11 hk11 (wf_M_bound_25 k11 n) hk25 x1 x2 x3 x4 x5 σ12 hf)
              · have hf := wc_f c17 hf
                exact wr_j hm (J69 k11 hk11 (wf_M_bound_25 k11 n) hk25 x1 x2 x3 x5 r13 σ12 hf)
  have J11 : ∀ (n : Nat) (x1 : Int32) (x2 : Int32) (x3 : Int32) (σ : wc_S), wf_M_bound_11 n x1 x2 x3 σ = some res → wr_q (wS_M_bound) σ res.2 := by
    intro  n
    induction n with
    | zero => intro x1 x2 x3 σ hf; exact absurd hf (by intro h9; cases h9)
    | succ n hk11 =>
      intro x1 x2 x3 σ hf
      have hm : wr_q (wS_M_bound) σ σ := wr_0
      have hf : wf_M_bound_11_b (wf_M_bound_11 n) x1 x2 x3 σ = some res := hf
      unfold wf_M_bound_11_b at hf
      obtain ⟨v2, ev2, hf⟩ := wc_st_n hf
      by_cases c3 : v2 ≤ x3
      · have hf := wc_t c3 hf
        obtain ⟨v4, ev4, hf⟩ := wc_st_n hf
        exact wr_f (g := fun r => r.2) hf hm
      · have hf := wc_f c3 hf
        exact wr_j hm (J25 (wf_M_bound_11 n) hk11 16 x1 x2 x3 (-1) 0 σ hf)
  have hm : wr_q (wS_M_bound) σ σ := wr_0
  unfold wf_M_bound at hf
  obtain ⟨σ1, eσ1, hf⟩ := wc_st_n hf
  have hm := wr_u hm eσ1 (by unfold wS_M_bound; omega)
  exact wr_j hm (J11 16 0 0 0 σ1 hf)
theorem wr_M_isGood (k1 : Nat) (σ : wc_S) (res : Int32 × wc_S) (hf : wf_M_isGood k1 σ = some res) : wr_q (wS_M_isGood) σ res.2 := by
  have J2 : ∀ (n : Nat) (x2 : Int32) (σ : wc_S), wf_M_isGood_2 k1 n x2 σ = some res → wr_q (wS_M_isGood) σ res.2 := by
    intro  n
    induction n with
    | zero => intro x2 σ hf; exact absurd hf (by intro h9; cases h9)
    | succ n hk2 =>
      intro x2 σ hf
      have hm : wr_q (wS_M_isGood) σ σ := wr_0
      have hf : wf_M_isGood_2_b k1 (wf_M_isGood_2 k1 n) x2 σ = some res := hf
      unfold wf_M_isGood_2_b at hf
      obtain ⟨v1, ev1, hf⟩ := wc_st_n hf
      by_cases c2 : v1 ≤ x2
      · have hf := wc_t c2 hf
        exact wr_f (g := fun r => r.2) hf hm
      · have hf := wc_f c2 hf
        obtain ⟨r4, σ3, hq, hf⟩ := wc_b2_e hf
        have hm := wr_x hm (wr_M_mayBe _ _ _ _ hq) (fun _ _ h => False.elim h)
        by_cases c5 : r4 = 0
        · have hf := wc_t c5 hf
          exact wr_f (g := fun r => r.2) hf hm
        · have hf := wc_f c5 hf
          obtain ⟨v6, ev6, hf⟩ := wc_st_n hf
          exact wr_j hm (hk2 v6 σ3 hf)
  have hm : wr_q (wS_M_isGood) σ σ := wr_0
  unfold wf_M_isGood at hf
  exact wr_j hm (J2 16 0 σ hf)
theorem wr_M_tell (a1 : Int64) (σ : wc_S) (res : wc_S) (hf : wf_M_tell a1 σ = some res) : wr_q (wS_M_tell) σ res := by
  have J108 : ∀ (n : Nat) (x4 : Int32) (σ : wc_S), wf_M_tell_108 n x4 σ = some res → wr_q (wS_M_tell) σ res := by
    intro  n
    induction n with
    | zero => intro x4 σ hf; exact absurd hf (by intro h9; cases h9)
    | succ n hk108 =>
      intro x4 σ hf
      have hm : wr_q (wS_M_tell) σ σ := wr_0
      have hf : wf_M_tell_108_b (wf_M_tell_108 n) x4 σ = some res := hf
      unfold wf_M_tell_108_b at hf
      obtain ⟨v8, ev8, hf⟩ := wc_st_n hf
      by_cases c9 : v8 ≤ x4
      · have hf := wc_t c9 hf
        exact wr_f (g := fun r => r) hf hm
      · have hf := wc_f c9 hf
        obtain ⟨h10, hf⟩ := wc_gd_e hf
        obtain ⟨v11, ev11, hf⟩ := wc_st_n hf
        obtain ⟨h12, hf⟩ := wc_gd_e hf
        obtain ⟨σ13, eσ13, hf⟩ := wc_st_n hf
        have hm := wr_u hm eσ13 (by unfold wS_M_tell; omega)
        obtain ⟨v14, ev14, hf⟩ := wc_st_n hf
        exact wr_j hm (hk108 v14 σ13 hf)
  have J92 : ∀ (s1 : Int32) (s2 : Int32) (σ : wc_S), wf_M_tell_92 s1 s2 σ = some res → wr_q (wS_M_tell) σ res := by
    intro  s1 s2 σ hf
    have hm : wr_q (wS_M_tell) σ σ := wr_0
    unfold wf_M_tell_92 at hf
    obtain ⟨r5, σ4, hq, hf⟩ := wc_b2_e hf
    have hm := wr_x hm (wr_M_goes _ _ _ _ _ hq) (by intro k i h; unfold wS_M_goes at h; unfold wS_M_tell; omega)
    by_cases c6 : r5 = 0
    · have hf := wc_t c6 hf
      exact wr_f (g := fun r => r) hf hm
    · have hf := wc_f c6 hf
      obtain ⟨σ7, eσ7, hf⟩ := wc_st_n hf
      have hm := wr_u hm eσ7 (by unfold wS_M_tell; omega)
      exact wr_j hm (J108 16 0 σ7 hf)
  have J91 : ∀ (s1 : Int32) (σ : wc_S), wf_M_tell_91 s1 σ = some res → wr_q (wS_M_tell) σ res := by
    intro  s1 σ hf
    have hm : wr_q (wS_M_tell) σ σ := wr_0
    unfold wf_M_tell_91 at hf
    exact wr_j hm (J92 s1 0 σ hf)
  have J64 : ∀ (k5 : Int64 → Int32 → Int32 → wc_S → Option wc_S) (hk5 : (∀ (x1 : Int64) (x3 : Int32) (x4 : Int32) (σ : wc_S), k5 x1 x3 x4 σ = some res → wr_q (wS_M_tell) σ res)) (x1 : Int64) (x3 : Int32) (x4 : Int32) (σ : wc_S), wf_M_tell_64 k5 x1 x3 x4 σ = some res → wr_q (wS_M_tell) σ res := by
    intro k5 hk5 x1 x3 x4 σ hf
    have hm : wr_q (wS_M_tell) σ σ := wr_0
    unfold wf_M_tell_64 at hf
    obtain ⟨v28, ev28, hf⟩ := wc_st_n hf
    exact wr_j hm (hk5 x1 x3 v28 σ hf)
  have J62 : ∀ (k5 : Int64 → Int32 → Int32 → wc_S → Option wc_S) (hk5 : (∀ (x1 : Int64) (x3 : Int32) (x4 : Int32) (σ : wc_S), k5 x1 x3 x4 σ = some res → wr_q (wS_M_tell) σ res)) (x1 : Int64) (x4 : Int32) (σ : wc_S), wf_M_tell_62 k5 x1 x4 σ = some res → wr_q (wS_M_tell) σ res := by
    intro k5 hk5 x1 x4 σ hf
    have hm : wr_q (wS_M_tell) σ σ := wr_0
    unfold wf_M_tell_62 at hf
    exact wr_j hm (J64 k5 hk5 x1 0 x4 σ hf)
  have J5 : ∀ (n : Nat) (x1 : Int64) (x3 : Int32) (x4 : Int32) (σ : wc_S), wf_M_tell_5 n x1 x3 x4 σ = some res → wr_q (wS_M_tell) σ res := by
    intro  n
    induction n with
    | zero => intro x1 x3 x4 σ hf; exact absurd hf (by intro h9; cases h9)
    | succ n hk5 =>
      intro x1 x3 x4 σ hf
      have hm : wr_q (wS_M_tell) σ σ := wr_0
      have hf : wf_M_tell_5_b (wf_M_tell_5 n) x1 x3 x4 σ = some res := hf
      unfold wf_M_tell_5_b at hf
      obtain ⟨v1, ev1, hf⟩ := wc_st_n hf
      by_cases c2 : v1 ≤ x4
      · have hf := wc_t c2 hf
        by_cases c3 : x3 = 0
        · have hf := wc_t c3 hf
          exact wr_j hm (J91 x3 σ hf)
        · have hf := wc_f c3 hf
          obtain ⟨r16, σ15, hq, hf⟩ := wc_b2_e hf
          have hm := wr_x hm (wr_M_isGood _ _ _ hq) (fun _ _ h => False.elim h)
          by_cases c17 : r16 = 0
          · have hf := wc_t c17 hf
            exact wr_j hm (J91 x3 σ15 hf)
          · have hf := wc_f c17 hf
            exact wr_j hm (J92 x3 1 σ15 hf)
      · have hf := wc_f c2 hf
        obtain ⟨v18, ev18, hf⟩ := wc_st_n hf
        obtain ⟨v19, ev19, hf⟩ := wc_st_n hf
        obtain ⟨v20, ev20, hf⟩ := wc_st_n hf
        obtain ⟨v21, ev21, hf⟩ := wc_st_n hf
        obtain ⟨h22, hf⟩ := wc_gd_e hf
        obtain ⟨σ23, eσ23, hf⟩ := wc_st_n hf
        have hm := wr_u hm eσ23 (by unfold wS_M_tell; omega)
        obtain ⟨h24, hf⟩ := wc_gd_e hf
        obtain ⟨v25, ev25, hf⟩ := wc_st_n hf
        obtain ⟨v26, ev26, hf⟩ := wc_st_n hf
        by_cases c27 : v26 ≤ v25
        · have hf := wc_t c27 hf
          exact wr_j hm (J62 (wf_M_tell_5 n) hk5 x1 x4 σ23 hf)
        · have hf := wc_f c27 hf
          obtain ⟨h29, hf⟩ := wc_gd_e hf
          obtain ⟨v30, ev30, hf⟩ := wc_st_n hf
          obtain ⟨r32, σ31, hq, hf⟩ := wc_b2_e hf
          have hm := wr_x hm (wr_M_stands _ _ _ _ hq) (fun _ _ h => False.elim h)
          by_cases c33 : r32 = 0
          · have hf := wc_t c33 hf
            exact wr_j hm (J64 (wf_M_tell_5 n) hk5 x1 x3 x4 σ31 hf)
          · have hf := wc_f c33 hf
            exact wr_j hm (J62 (wf_M_tell_5 n) hk5 x1 x4 σ31 hf)
  have hm : wr_q (wS_M_tell) σ σ := wr_0
  unfold wf_M_tell at hf
  exact wr_j hm (J5 16 a1 1 0 σ hf)
theorem wr_M_swaps (a1 : Int32) (a2 : Int32) (σ : wc_S) (res : Int32 × wc_S) (hf : wf_M_swaps a1 a2 σ = some res) : wr_q (wS_M_swaps) σ res.2 := by
  have J111 : ∀ (n : Nat) (x4 : Int32) (σ : wc_S), wf_M_swaps_111 n x4 σ = some res → wr_q (wS_M_swaps) σ res.2 := by
    intro  n
    induction n with
    | zero => intro x4 σ hf; exact absurd hf (by intro h9; cases h9)
    | succ n hk111 =>
      intro x4 σ hf
      have hm : wr_q (wS_M_swaps) σ σ := wr_0
      have hf : wf_M_swaps_111_b (wf_M_swaps_111 n) x4 σ = some res := hf
      unfold wf_M_swaps_111_b at hf
      obtain ⟨v21, ev21, hf⟩ := wc_st_n hf
      by_cases c22 : v21 ≤ x4
      · have hf := wc_t c22 hf
        exact wr_f (g := fun r => r.2) hf hm
      · have hf := wc_f c22 hf
        obtain ⟨h23, hf⟩ := wc_gd_e hf
        obtain ⟨v24, ev24, hf⟩ := wc_st_n hf
        obtain ⟨h25, hf⟩ := wc_gd_e hf
        obtain ⟨σ26, eσ26, hf⟩ := wc_st_n hf
        have hm := wr_u hm eσ26 (by unfold wS_M_swaps; omega)
        obtain ⟨v27, ev27, hf⟩ := wc_st_n hf
        exact wr_j hm (hk111 v27 σ26 hf)
  have J20 : ∀ (n : Nat) (x1 : Int32) (x2 : Int32) (x3 : Int32) (x4 : Int32) (σ : wc_S), wf_M_swaps_20 n x1 x2 x3 x4 σ = some res → wr_q (wS_M_swaps) σ res.2 := by
    intro  n
    induction n with
    | zero => intro x1 x2 x3 x4 σ hf; exact absurd hf (by intro h9; cases h9)
    | succ n hk20 =>
      intro x1 x2 x3 x4 σ hf
      have hm : wr_q (wS_M_swaps) σ σ := wr_0
      have hf : wf_M_swaps_20_b (wf_M_swaps_20 n) x1 x2 x3 x4 σ = some res := hf
      unfold wf_M_swaps_20_b at hf
      obtain ⟨v4, ev4, hf⟩ := wc_st_n hf
      by_cases c5 : v4 ≤ x4
      · have hf := wc_t c5 hf
        obtain ⟨h6, hf⟩ := wc_gd_e hf
        obtain ⟨v7, ev7, hf⟩ := wc_st_n hf
        obtain ⟨h8, hf⟩ := wc_gd_e hf
        obtain ⟨σ9, eσ9, hf⟩ := wc_st_n hf
        have hm := wr_u hm eσ9 (by unfold wS_M_swaps; omega)
        obtain ⟨h10, hf⟩ := wc_gd_e hf
        obtain ⟨v11, ev11, hf⟩ := wc_st_n hf
        obtain ⟨h12, hf⟩ := wc_gd_e hf
        obtain ⟨σ13, eσ13, hf⟩ := wc_st_n hf
        have hm := wr_u hm eσ13 (by unfold wS_M_swaps; omega)
        obtain ⟨r15, σ14, hq, hf⟩ := wc_b2_e hf
        have hm := wr_x hm (wr_M_isGood _ _ _ hq) (fun _ _ h => False.elim h)
        by_cases c16 : r15 = 0
        · have hf := wc_t c16 hf
          exact wr_f (g := fun r => r.2) hf hm
        · have hf := wc_f c16 hf
          obtain ⟨v17, ev17, hf⟩ := wc_st_n hf
          obtain ⟨σ18, hq, hf⟩ := wc_b1_e hf
          have hm := wr_x hm (wr_M_reckon _ _ _ _ hq) (by intro k i h; unfold wS_M_reckon at h; unfold wS_M_swaps; omega)
          obtain ⟨v19, ev19, hf⟩ := wc_st_n hf
          by_cases c20 : v19 < x3
          · have hf := wc_t c20 hf
            exact wr_j hm (J111 16 0 σ18 hf)
          · have hf := wc_f c20 hf
            exact wr_f (g := fun r => r.2) hf hm
      · have hf := wc_f c5 hf
        obtain ⟨h28, hf⟩ := wc_gd_e hf
        obtain ⟨v29, ev29, hf⟩ := wc_st_n hf
        obtain ⟨h30, hf⟩ := wc_gd_e hf
        obtain ⟨σ31, eσ31, hf⟩ := wc_st_n hf
        have hm := wr_u hm eσ31 (by unfold wS_M_swaps; omega)
        obtain ⟨v32, ev32, hf⟩ := wc_st_n hf
        exact wr_j hm (hk20 x1 x2 x3 v32 σ31 hf)
  have hm : wr_q (wS_M_swaps) σ σ := wr_0
  unfold wf_M_swaps at hf
  obtain ⟨v1, ev1, hf⟩ := wc_st_n hf
  obtain ⟨σ2, hq, hf⟩ := wc_b1_e hf
  have hm := wr_x hm (wr_M_reckon _ _ _ _ hq) (by intro k i h; unfold wS_M_reckon at h; unfold wS_M_swaps; omega)
  obtain ⟨v3, ev3, hf⟩ := wc_st_n hf
  exact wr_j hm (J20 16 a1 a2 v3 0 σ2 hf)
theorem wr_M_better (σ : wc_S) (res : Int32 × wc_S) (hf : wf_M_better  σ = some res) : wr_q (wS_M_better) σ res.2 := by
  have J14 : ∀ (k2 : Int32 → wc_S → Option (Int32 × wc_S)) (hk2 : (∀ (x1 : Int32) (σ : wc_S), k2 x1 σ = some res → wr_q (wS_M_better) σ res.2)) (n : Nat) (x1 : Int32) (x2 : Int32) (σ : wc_S), wf_M_better_14 k2 n x1 x2 σ = some res → wr_q (wS_M_better) σ res.2 := by
    intro k2 hk2 n
    induction n with
    | zero => intro x1 x2 σ hf; exact absurd hf (by intro h9; cases h9)
    | succ n hk14 =>
      intro x1 x2 σ hf
      have hm : wr_q (wS_M_better) σ σ := wr_0
      have hf : wf_M_better_14_b k2 (wf_M_better_14 k2 n) x1 x2 σ = some res := hf
      unfold wf_M_better_14_b at hf
      obtain ⟨v4, ev4, hf⟩ := wc_st_n hf
      by_cases c5 : v4 ≤ x2
      · have hf := wc_t c5 hf
        obtain ⟨v6, ev6, hf⟩ := wc_st_n hf
        exact wr_j hm (hk2 v6 σ hf)
      · have hf := wc_f c5 hf
        obtain ⟨r8, σ7, hq, hf⟩ := wc_b2_e hf
        have hm := wr_x hm (wr_M_swaps _ _ _ _ hq) (by intro k i h; unfold wS_M_swaps at h; unfold wS_M_better; omega)
        by_cases c9 : r8 = 0
        · have hf := wc_t c9 hf
          obtain ⟨v10, ev10, hf⟩ := wc_st_n hf
          exact wr_j hm (hk14 x1 v10 σ7 hf)
        · have hf := wc_f c9 hf
          exact wr_f (g := fun r => r.2) hf hm
  have J2 : ∀ (n : Nat) (x1 : Int32) (σ : wc_S), wf_M_better_2 n x1 σ = some res → wr_q (wS_M_better) σ res.2 := by
    intro  n
    induction n with
    | zero => intro x1 σ hf; exact absurd hf (by intro h9; cases h9)
    | succ n hk2 =>
      intro x1 σ hf
      have hm : wr_q (wS_M_better) σ σ := wr_0
      have hf : wf_M_better_2_b (wf_M_better_2 n) x1 σ = some res := hf
      unfold wf_M_better_2_b at hf
      obtain ⟨v1, ev1, hf⟩ := wc_st_n hf
      by_cases c2 : v1 ≤ x1
      · have hf := wc_t c2 hf
        exact wr_f (g := fun r => r.2) hf hm
      · have hf := wc_f c2 hf
        obtain ⟨v3, ev3, hf⟩ := wc_st_n hf
        exact wr_j hm (J14 (wf_M_better_2 n) hk2 16 x1 v3 σ hf)
  have hm : wr_q (wS_M_better) σ σ := wr_0
  unfold wf_M_better at hf
  exact wr_j hm (J2 16 0 σ hf)
theorem wr_M_improve (a1 : Int32) (σ : wc_S) (res : Int32 × wc_S) (hf : wf_M_improve a1 σ = some res) : wr_q (wS_M_improve) σ res.2 := by
  have J23 : ∀ (n : Nat) (x1 : Int32) (x2 : Int32) (σ : wc_S), wf_M_improve_23 n x1 x2 σ = some res → wr_q (wS_M_improve) σ res.2 := by
    intro  n
    induction n with
    | zero => intro x1 x2 σ hf; exact absurd hf (by intro h9; cases h9)
    | succ n hk23 =>
      intro x1 x2 σ hf
      have hm : wr_q (wS_M_improve) σ σ := wr_0
      have hf : wf_M_improve_23_b (wf_M_improve_23 n) x1 x2 σ = some res := hf
      unfold wf_M_improve_23_b at hf
      by_cases c7 : x1 ≤ x2
      · have hf := wc_t c7 hf
        exact wr_f (g := fun r => r.2) hf hm
      · have hf := wc_f c7 hf
        obtain ⟨r9, σ8, hq, hf⟩ := wc_b2_e hf
        have hm := wr_x hm (wr_M_better  _ _ hq) (by intro k i h; unfold wS_M_better at h; unfold wS_M_improve; omega)
        by_cases c10 : r9 = 0
        · have hf := wc_t c10 hf
          exact wr_f (g := fun r => r.2) hf hm
        · have hf := wc_f c10 hf
          obtain ⟨v11, ev11, hf⟩ := wc_st_n hf
          exact wr_j hm (hk23 x1 v11 σ8 hf)
  have hm : wr_q (wS_M_improve) σ σ := wr_0
  unfold wf_M_improve at hf
  obtain ⟨v1, ev1, hf⟩ := wc_st_n hf
  obtain ⟨r3, σ2, hq, hf⟩ := wc_b2_e hf
  have hm := wr_x hm (wr_M_in _ _ _ _ _ hq) (fun _ _ h => False.elim h)
  obtain ⟨r5, σ4, hq, hf⟩ := wc_b2_e hf
  have hm := wr_x hm (wr_M_goes _ _ _ _ _ hq) (by intro k i h; unfold wS_M_goes at h; unfold wS_M_improve; omega)
  by_cases c6 : r5 = 0
  · have hf := wc_t c6 hf
    exact wr_f (g := fun r => r.2) hf hm
  · have hf := wc_f c6 hf
    exact wr_j hm (J23 128 a1 0 σ4 hf)
theorem wr_K_coil (a1 : Int32) (a2 : Int32) (a3 : Int32) (a4 : Int32) (σ : wc_S) (res : Int32 × wc_S) (hf : wf_K_coil a1 a2 a3 a4 σ = some res) : wr_q (wS_K_coil) σ res.2 := by
  have hm : wr_q (wS_K_coil) σ σ := wr_0
  unfold wf_K_coil at hf
  obtain ⟨q, hq, hf⟩ := wc_cti_e hf
  have hm := wr_x hm (wr_W_coil _ _ _ _ _ _ hq) (by intro k i h; unfold wS_W_coil at h; unfold wS_K_coil; omega)
  rcases q with ⟨k9, σ3⟩ | ⟨r2, σ1⟩
  · have hm : wr_q (wS_K_coil) σ σ3 := hm
    have hf := wc_cti_l hf
    by_cases ck2 : k9 = 2
    · have hf := wc_t ck2 hf
      exact wr_f (g := fun r => r.2) hf hm
    · have hf := wc_f ck2 hf
      by_cases ck3 : k9 = 3
      · have hf := wc_t ck3 hf
        exact wr_f (g := fun r => r.2) hf hm
      · have hf := wc_f ck3 hf
        cases hf
  · have hm : wr_q (wS_K_coil) σ σ1 := hm
    have hf := wc_cti_r hf
    obtain ⟨h4, hf⟩ := wc_gd_e hf
    obtain ⟨σ5, eσ5, hf⟩ := wc_st_n hf
    have hm := wr_u hm eσ5 (by unfold wS_K_coil; omega)
    exact wr_f (g := fun r => r.2) hf hm
theorem wr_K_table (a1 : Int32) (a2 : Int32) (a3 : Int32) (a4 : Int32) (σ : wc_S) (res : Int32 × wc_S) (hf : wf_K_table a1 a2 a3 a4 σ = some res) : wr_q (wS_K_table) σ res.2 := by
  have hm : wr_q (wS_K_table) σ σ := wr_0
  unfold wf_K_table at hf
  obtain ⟨q, hq, hf⟩ := wc_cti_e hf
  have hm := wr_x hm (wr_W_table _ _ _ _ _ _ hq) (by intro k i h; unfold wS_W_table at h; unfold wS_K_table; omega)
  rcases q with ⟨k9, σ3⟩ | ⟨r2, σ1⟩
  · have hm : wr_q (wS_K_table) σ σ3 := hm
    have hf := wc_cti_l hf
    by_cases ck0 : k9 = 0
    · have hf := wc_t ck0 hf
      exact wr_f (g := fun r => r.2) hf hm
    · have hf := wc_f ck0 hf
      by_cases ck2 : k9 = 2
      · have hf := wc_t ck2 hf
        exact wr_f (g := fun r => r.2) hf hm
      · have hf := wc_f ck2 hf
        by_cases ck3 : k9 = 3
        · have hf := wc_t ck3 hf
          exact wr_f (g := fun r => r.2) hf hm
        · have hf := wc_f ck3 hf
          cases hf
  · have hm : wr_q (wS_K_table) σ σ1 := hm
    have hf := wc_cti_r hf
    obtain ⟨h4, hf⟩ := wc_gd_e hf
    obtain ⟨σ5, eσ5, hf⟩ := wc_st_n hf
    have hm := wr_u hm eσ5 (by unfold wS_K_table; omega)
    exact wr_f (g := fun r => r.2) hf hm
theorem wr_K_group (a1 : Int32) (a2 : Int32) (a3 : Int32) (σ : wc_S) (res : Int32 × wc_S) (hf : wf_K_group a1 a2 a3 σ = some res) : wr_q (wS_K_group) σ res.2 := by
  have hm : wr_q (wS_K_group) σ σ := wr_0
  unfold wf_K_group at hf
  obtain ⟨q, hq, hf⟩ := wc_cti_e hf
  have hm := wr_x hm (wr_W_group _ _ _ _ _ hq) (by intro k i h; unfold wS_W_group at h; unfold wS_K_group; omega)
  rcases q with ⟨k9, σ3⟩ | ⟨r2, σ1⟩
  · have hm : wr_q (wS_K_group) σ σ3 := hm
    have hf := wc_cti_l hf
    by_cases ck2 : k9 = 2
    · have hf := wc_t ck2 hf
      exact wr_f (g := fun r => r.2) hf hm
    · have hf := wc_f ck2 hf
      by_cases ck3 : k9 = 3
      · have hf := wc_t ck3 hf
        exact wr_f (g := fun r => r.2) hf hm
      · have hf := wc_f ck3 hf
        cases hf
  · have hm : wr_q (wS_K_group) σ σ1 := hm
    have hf := wc_cti_r hf
    obtain ⟨h4, hf⟩ := wc_gd_e hf
    obtain ⟨σ5, eσ5, hf⟩ := wc_st_n hf
    have hm := wr_u hm eσ5 (by unfold wS_K_group; omega)
    exact wr_f (g := fun r => r.2) hf hm
theorem wr_K_urgent (a1 : Int32) (a2 : Int32) (σ : wc_S) (res : Int32 × wc_S) (hf : wf_K_urgent a1 a2 σ = some res) : wr_q (wS_K_urgent) σ res.2 := by
  have hm : wr_q (wS_K_urgent) σ σ := wr_0
  unfold wf_K_urgent at hf
  obtain ⟨q, hq, hf⟩ := wc_ctv_e hf
  have hm := wr_x hm (wr_W_urgent _ _ _ _ hq) (by intro k i h; unfold wS_W_urgent at h; unfold wS_K_urgent; omega)
  rcases q with ⟨k9, σ2⟩ | σ1
  · have hm : wr_q (wS_K_urgent) σ σ2 := hm
    have hf := wc_ctv_l hf
    by_cases ck0 : k9 = 0
    · have hf := wc_t ck0 hf
      exact wr_f (g := fun r => r.2) hf hm
    · have hf := wc_f ck0 hf
      by_cases ck2 : k9 = 2
      · have hf := wc_t ck2 hf
        exact wr_f (g := fun r => r.2) hf hm
      · have hf := wc_f ck2 hf
        cases hf
  · have hm : wr_q (wS_K_urgent) σ σ1 := hm
    have hf := wc_ctv_r hf
    exact wr_f (g := fun r => r.2) hf hm
theorem wr_K_old (a1 : Int32) (a2 : Int32) (σ : wc_S) (res : Int32 × wc_S) (hf : wf_K_old a1 a2 σ = some res) : wr_q (wS_K_old) σ res.2 := by
  have hm : wr_q (wS_K_old) σ σ := wr_0
  unfold wf_K_old at hf
  obtain ⟨q, hq, hf⟩ := wc_ctv_e hf
  have hm := wr_x hm (wr_W_old _ _ _ _ hq) (by intro k i h; unfold wS_W_old at h; unfold wS_K_old; omega)
  rcases q with ⟨k9, σ2⟩ | σ1
  · have hm : wr_q (wS_K_old) σ σ2 := hm
    have hf := wc_ctv_l hf
    by_cases ck0 : k9 = 0
    · have hf := wc_t ck0 hf
      exact wr_f (g := fun r => r.2) hf hm
    · have hf := wc_f ck0 hf
      by_cases ck2 : k9 = 2
      · have hf := wc_t ck2 hf
        exact wr_f (g := fun r => r.2) hf hm
      · have hf := wc_f ck2 hf
        cases hf
  · have hm : wr_q (wS_K_old) σ σ1 := hm
    have hf := wc_ctv_r hf
    exact wr_f (g := fun r => r.2) hf hm
theorem wr_K_rules (a1 : Int32) (a2 : Int32) (a3 : Int32) (a4 : Int32) (σ : wc_S) (res : Int32 × wc_S) (hf : wf_K_rules a1 a2 a3 a4 σ = some res) : wr_q (wS_K_rules) σ res.2 := by
  have hm : wr_q (wS_K_rules) σ σ := wr_0
  unfold wf_K_rules at hf
  obtain ⟨q, hq, hf⟩ := wc_ctv_e hf
  have hm := wr_x hm (wr_W_rules _ _ _ _ _ _ hq) (by intro k i h; unfold wS_W_rules at h; unfold wS_K_rules; omega)
  rcases q with ⟨k9, σ2⟩ | σ1
  · have hm : wr_q (wS_K_rules) σ σ2 := hm
    have hf := wc_ctv_l hf
    by_cases ck2 : k9 = 2
    · have hf := wc_t ck2 hf
      exact wr_f (g := fun r => r.2) hf hm
    · have hf := wc_f ck2 hf
      cases hf
  · have hm : wr_q (wS_K_rules) σ σ1 := hm
    have hf := wc_ctv_r hf
    exact wr_f (g := fun r => r.2) hf hm
theorem wr_K_run (a1 : Int32) (σ : wc_S) (res : Int32 × wc_S) (hf : wf_K_run a1 σ = some res) : wr_q (wS_K_run) σ res.2 := by
  have hm : wr_q (wS_K_run) σ σ := wr_0
  unfold wf_K_run at hf
  obtain ⟨q, hq, hf⟩ := wc_cti_e hf
  have hm := wr_x hm (wr_W_run _ _ _ hq) (by intro k i h; unfold wS_W_run at h; unfold wS_K_run; omega)
  rcases q with ⟨k9, σ3⟩ | ⟨r2, σ1⟩
  · have hm : wr_q (wS_K_run) σ σ3 := hm
    have hf := wc_cti_l hf
    by_cases ck2 : k9 = 2
    · have hf := wc_t ck2 hf
      exact wr_f (g := fun r => r.2) hf hm
    · have hf := wc_f ck2 hf
      cases hf
  · have hm : wr_q (wS_K_run) σ σ1 := hm
    have hf := wc_cti_r hf
    obtain ⟨h4, hf⟩ := wc_gd_e hf
    obtain ⟨σ5, eσ5, hf⟩ := wc_st_n hf
    have hm := wr_u hm eσ5 (by unfold wS_K_run; omega)
    exact wr_f (g := fun r => r.2) hf hm
theorem wr_K_proved (σ : wc_S) (res : Int32 × wc_S) (hf : wf_K_proved  σ = some res) : wr_q (wS_K_proved) σ res.2 := by
  have hm : wr_q (wS_K_proved) σ σ := wr_0
  unfold wf_K_proved at hf
  obtain ⟨q, hq, hf⟩ := wc_cti_e hf
  have hm := wr_x hm (wr_W_proved  _ _ hq) (fun _ _ h => False.elim h)
  rcases q with ⟨k9, σ3⟩ | ⟨r2, σ1⟩
  · have hm : wr_q (wS_K_proved) σ σ3 := hm
    have hf := wc_cti_l hf
    by_cases ck1 : k9 = 1
    · have hf := wc_t ck1 hf
      exact wr_f (g := fun r => r.2) hf hm
    · have hf := wc_f ck1 hf
      cases hf
  · have hm : wr_q (wS_K_proved) σ σ1 := hm
    have hf := wc_cti_r hf
    by_cases c4 : r2 = 0
    · have hf := wc_t c4 hf
      obtain ⟨h5, hf⟩ := wc_gd_e hf
      obtain ⟨σ6, eσ6, hf⟩ := wc_st_n hf
      have hm := wr_u hm eσ6 (by unfold wS_K_proved; omega)
      exact wr_f (g := fun r => r.2) hf hm
    · have hf := wc_f c4 hf
      obtain ⟨h7, hf⟩ := wc_gd_e hf
      obtain ⟨σ8, eσ8, hf⟩ := wc_st_n hf
      have hm := wr_u hm eσ8 (by unfold wS_K_proved; omega)
      exact wr_f (g := fun r => r.2) hf hm
theorem wr_K_order (a1 : Int32) (σ : wc_S) (res : Int32 × wc_S) (hf : wf_K_order a1 σ = some res) : wr_q (wS_K_order) σ res.2 := by
  have hm : wr_q (wS_K_order) σ σ := wr_0
  unfold wf_K_order at hf
  obtain ⟨q, hq, hf⟩ := wc_cti_e hf
  have hm := wr_x hm (wr_W_order _ _ _ hq) (fun _ _ h => False.elim h)
  rcases q with ⟨k9, σ3⟩ | ⟨r2, σ1⟩
  · have hm : wr_q (wS_K_order) σ σ3 := hm
    have hf := wc_cti_l hf
    by_cases ck0 : k9 = 0
    · have hf := wc_t ck0 hf
      exact wr_f (g := fun r => r.2) hf hm
    · have hf := wc_f ck0 hf
      by_cases ck1 : k9 = 1
      · have hf := wc_t ck1 hf
        exact wr_f (g := fun r => r.2) hf hm
      · have hf := wc_f ck1 hf
        cases hf
  · have hm : wr_q (wS_K_order) σ σ1 := hm
    have hf := wc_cti_r hf
    obtain ⟨h4, hf⟩ := wc_gd_e hf
    obtain ⟨σ5, eσ5, hf⟩ := wc_st_n hf
    have hm := wr_u hm eσ5 (by unfold wS_K_order; omega)
    exact wr_f (g := fun r => r.2) hf hm
theorem wr_K_told (a1 : Int32) (σ : wc_S) (res : Int32 × wc_S) (hf : wf_K_told a1 σ = some res) : wr_q (wS_K_told) σ res.2 := by
  have hm : wr_q (wS_K_told) σ σ := wr_0
  unfold wf_K_told at hf
  obtain ⟨q, hq, hf⟩ := wc_cti_e hf
  have hm := wr_x hm (wr_W_told _ _ _ hq) (fun _ _ h => False.elim h)
  rcases q with ⟨k9, σ3⟩ | ⟨r2, σ1⟩
  · have hm : wr_q (wS_K_told) σ σ3 := hm
    have hf := wc_cti_l hf
    by_cases ck0 : k9 = 0
    · have hf := wc_t ck0 hf
      exact wr_f (g := fun r => r.2) hf hm
    · have hf := wc_f ck0 hf
      by_cases ck1 : k9 = 1
      · have hf := wc_t ck1 hf
        exact wr_f (g := fun r => r.2) hf hm
      · have hf := wc_f ck1 hf
        cases hf
  · have hm : wr_q (wS_K_told) σ σ1 := hm
    have hf := wc_cti_r hf
    obtain ⟨h4, hf⟩ := wc_gd_e hf
    obtain ⟨σ5, eσ5, hf⟩ := wc_st_n hf
    have hm := wr_u hm eσ5 (by unfold wS_K_told; omega)
    exact wr_f (g := fun r => r.2) hf hm
theorem wr_K_change (a1 : Int32) (σ : wc_S) (res : Int32 × wc_S) (hf : wf_K_change a1 σ = some res) : wr_q (wS_K_change) σ res.2 := by
  have hm : wr_q (wS_K_change) σ σ := wr_0
  unfold wf_K_change at hf
  obtain ⟨q, hq, hf⟩ := wc_cti_e hf
  have hm := wr_x hm (wr_W_change _ _ _ hq) (fun _ _ h => False.elim h)
  rcases q with ⟨k9, σ3⟩ | ⟨r2, σ1⟩
  · have hm : wr_q (wS_K_change) σ σ3 := hm
    have hf := wc_cti_l hf
    by_cases ck0 : k9 = 0
    · have hf := wc_t ck0 hf
      exact wr_f (g := fun r => r.2) hf hm
    · have hf := wc_f ck0 hf
      by_cases ck1 : k9 = 1
      · have hf := wc_t ck1 hf
        exact wr_f (g := fun r => r.2) hf hm
      · have hf := wc_f ck1 hf
        cases hf
  · have hm : wr_q (wS_K_change) σ σ1 := hm
    have hf := wc_cti_r hf
    by_cases c4 : r2 = 0
    · have hf := wc_t c4 hf
      obtain ⟨h5, hf⟩ := wc_gd_e hf
      obtain ⟨σ6, eσ6, hf⟩ := wc_st_n hf
      have hm := wr_u hm eσ6 (by unfold wS_K_change; omega)
      exact wr_f (g := fun r => r.2) hf hm
    · have hf := wc_f c4 hf
      obtain ⟨h7, hf⟩ := wc_gd_e hf
      obtain ⟨σ8, eσ8, hf⟩ := wc_st_n hf
      have hm := wr_u hm eσ8 (by unfold wS_K_change; omega)
      exact wr_f (g := fun r => r.2) hf hm
theorem wr_K_jump (a1 : Int32) (a2 : Int32) (σ : wc_S) (res : Int32 × wc_S) (hf : wf_K_jump a1 a2 σ = some res) : wr_q (wS_K_jump) σ res.2 := by
  have hm : wr_q (wS_K_jump) σ σ := wr_0
  unfold wf_K_jump at hf
  obtain ⟨q, hq, hf⟩ := wc_cti_e hf
  have hm := wr_x hm (wr_W_jump _ _ _ _ hq) (fun _ _ h => False.elim h)
  rcases q with ⟨k9, σ3⟩ | ⟨r2, σ1⟩
  · have hm : wr_q (wS_K_jump) σ σ3 := hm
    have hf := wc_cti_l hf
    by_cases ck0 : k9 = 0
    · have hf := wc_t ck0 hf
      exact wr_f (g := fun r => r.2) hf hm
    · have hf := wc_f ck0 hf
      cases hf
  · have hm : wr_q (wS_K_jump) σ σ1 := hm
    have hf := wc_cti_r hf
    obtain ⟨h4, hf⟩ := wc_gd_e hf
    obtain ⟨σ5, eσ5, hf⟩ := wc_st_n hf
    have hm := wr_u hm eσ5 (by unfold wS_K_jump; omega)
    exact wr_f (g := fun r => r.2) hf hm
theorem wr_K_tell (a1 : Int64) (σ : wc_S) (res : Int32 × wc_S) (hf : wf_K_tell a1 σ = some res) : wr_q (wS_K_tell) σ res.2 := by
  have hm : wr_q (wS_K_tell) σ σ := wr_0
  unfold wf_K_tell at hf
  obtain ⟨q, hq, hf⟩ := wc_ctv_e hf
  have hm := wr_x hm (wr_W_tell _ _ _ hq) (by intro k i h; unfold wS_W_tell at h; unfold wS_K_tell; omega)
  rcases q with ⟨k9, σ2⟩ | σ1
  · have hm : wr_q (wS_K_tell) σ σ2 := hm
    have hf := wc_ctv_l hf
    by_cases ck0 : k9 = 0
    · have hf := wc_t ck0 hf
      exact wr_f (g := fun r => r.2) hf hm
    · have hf := wc_f ck0 hf
      by_cases ck3 : k9 = 3
      · have hf := wc_t ck3 hf
        exact wr_f (g := fun r => r.2) hf hm
      · have hf := wc_f ck3 hf
        cases hf
  · have hm : wr_q (wS_K_tell) σ σ1 := hm
    have hf := wc_ctv_r hf
    exact wr_f (g := fun r => r.2) hf hm
theorem wr_K_improve (a1 : Int32) (σ : wc_S) (res : Int32 × wc_S) (hf : wf_K_improve a1 σ = some res) : wr_q (wS_K_improve) σ res.2 := by
  have hm : wr_q (wS_K_improve) σ σ := wr_0
  unfold wf_K_improve at hf
  obtain ⟨q, hq, hf⟩ := wc_cti_e hf
  have hm := wr_x hm (wr_W_improve _ _ _ hq) (by intro k i h; unfold wS_W_improve at h; unfold wS_K_improve; omega)
  rcases q with ⟨k9, σ3⟩ | ⟨r2, σ1⟩
  · have hm : wr_q (wS_K_improve) σ σ3 := hm
    have hf := wc_cti_l hf
    by_cases ck1 : k9 = 1
    · have hf := wc_t ck1 hf
      exact wr_f (g := fun r => r.2) hf hm
    · have hf := wc_f ck1 hf
      by_cases ck2 : k9 = 2
      · have hf := wc_t ck2 hf
        exact wr_f (g := fun r => r.2) hf hm
      · have hf := wc_f ck2 hf
        cases hf
  · have hm : wr_q (wS_K_improve) σ σ1 := hm
    have hf := wc_cti_r hf
    obtain ⟨h4, hf⟩ := wc_gd_e hf
    obtain ⟨σ5, eσ5, hf⟩ := wc_st_n hf
    have hm := wr_u hm eσ5 (by unfold wS_K_improve; omega)
    exact wr_f (g := fun r => r.2) hf hm
/-! methods that may throw: contract, call, throw, catch -/
section WZ
/-- how such a method ends: as Qr says, or q is thrown, of the class E, and Qx holds -/
def wz_Q (Qr : Array Value → State → Outcome → State → Prop) (Qx : String → State → State → Prop) (mc ms : Nat) (fr : Addr → Prop) (a : Array Value) (st : State) (o : Outcome) (t : State) : Prop :=
  (Qr a st o t ∧ ∃ L, FrameEnd st o t L mc ms ∧ ∀ q ∈ L, fr q.base) ∨
  ∃ (q : Addr) (E : String) (ce : Cell) (L : List Loc), o = .threw q ∧ Qx E st t ∧ (t.heap[q]? = some ce ∧ ce.vm = .none ∧ st.vm.findClass E = some ce.cls) ∧ st.WarmedH t.vm ∧ st.sameButNew ({ t with vm := st.vm } : State) L mc ms ∧ ∀ z ∈ L, fr z.base
def wz_Met (l : Launch) (y : MethodName) (ws : List Cond) (rm : Room) (Pc : Array Value → State → Prop) (Qr : Array Value → State → Outcome → State → Prop) (Qx : String → State → State → Prop) (mc ms : Nat) (fr : Addr → Prop) : Prop :=
  MetFree l y (headSpec ws rm) Pc (fun _ _ _ _ _ => True) (wz_Q Qr Qx mc ms fr)
def wz_MQ (below : List Frame) (Qr : Array Value → State → Outcome → State → Prop) (Qx : String → State → State → Prop) (a : Array Value) (s : State) (mc ms : Nat) (fr : Addr → Prop) : State → Prop := fun t =>
  ∃ o, t.status = .running ∧ Ended t below o ∧ wz_Q Qr Qx mc ms fr a s o t
variable {p : Program} {l : Launch} {e : Env} {R : Room} {s : State} {m : MethodId} {args : Array Value} {below : List Frame} {meth : Method} {c : Code} {H : Heap} {locs : List Loc} {cells slots : Nat} {Q : State → Prop}
variable {cc : ByteArray} {pc : Nat} {ls : Array Slot} {rest st0 : List Value} {mc ms : Nat} {Qr : Array Value → State → Outcome → State → Prop} {Qx : String → State → State → Prop} {fr : Addr → Prop}
/-- the frame g, with q thrown over it -/
def wz_W (p : Program) (l : Launch) (e : Env) (R : Room) (s : State) (m : MethodId) (args : Array Value) (below : List Frame) (meth : Method) (c : Code) (H : Heap) (locs : List Loc) (cells slots : Nat) (Q : State → Prop) (g : JFrame) (q : Addr) : Prop :=
  ∀ T : State, T.heap = H → Stand p l e R s m args below meth c T locs cells slots → ∃ t, Steps p.tables e below ((T.setTop g).pushFrame (.throwing q)) t ∧ Q t
theorem wz_ret {g : JFrame} (k : W p l e R s m args below meth c H locs cells slots (MQ below Qr args s mc ms fr) g) : W p l e R s m args below meth c H locs cells slots (wz_MQ below Qr Qx args s mc ms fr) g := by
  intro T hT X
  obtain ⟨t, a1, o, b1, b2, b3, b4⟩ := k T hT X
  exact ⟨t, a1, o, b1, b2, Or.inl ⟨b3, b4⟩⟩
theorem wz_ofW {y : MethodName} {ws ws' : List Cond} {rm : Room} {Pc : Array Value → State → Prop} {maxL : Nat} {ret : Option FieldType} (hy : plainName y.cls = true) (hw : ws = Cond.code y cc maxL ret :: ws')
    (body : ∀ p e s m args below meth c s₁, BodyLoose p l y (headSpec ws rm) cc maxL ret e s m args below meth c s₁ → c.maxLocals = maxL → (∀ x ∈ c.exceptionTable.toList, False) → Pc args s →
      W p l e (headSpec ws rm).room s m args below meth c s.heap [] 0 0 (wz_MQ below Qr Qx args s mc ms fr) (entryFrame m args maxL)) : wz_Met l y ws rm Pc Qr Qx mc ms fr := by
  have hmem : Cond.code y cc maxL ret ∈ ws := by rw [hw]; exact List.mem_cons_self
  refine MetFree.of_bodyS (code := cc) (maxLocals := maxL) (ret := ret) hy (fun args s m h hn => ?_) (fun p e s m args below meth c s₁ B hml hP _ => ?_)
  · obtain ⟨meth, c, h1, h2, h3, h4, h5, h6, -, -⟩ := Cond.code_spec hn (atoms_spec (ws := ws) h _ hmem)
    exact ⟨meth, c, h1, h2, h3, h4, h5, h6⟩
  · have hnone : ∀ x ∈ c.exceptionTable.toList, False := by
      obtain ⟨meth2, c2, h1, h2, -, -, -, -, h7, -⟩ := Cond.code_spec B.named (atoms_spec (ws := ws) B.pre _ hmem)
      cases Option.some.inj (h1.symm.trans B.method)
      cases Option.some.inj (h2.symm.trans (Stand.of_body B).code)
      intro x hx
      rw [Array.isEmpty_iff.mp h7] at hx
      cases hx
    obtain ⟨t, a1, o, b1, b2, b3⟩ := body p e s m args below meth c s₁ B hml hnone hP s₁ (by rw [B.state]; rfl) (Stand.of_body B)
    exact ⟨t, o, a1, b1, b2, b3⟩
/-- a call of a method that may throw -/
theorem wz_callV {y : MethodName} {bytes : ByteArray} {maxL nL n index : Nat} {ret : Option FieldType} {ws : List Cond} {rm : Room} {Pc : Array Value → State → Prop} {Ts : List Cond} {own C : String} {b : Addr} {As : List Value} {g : JFrame}
    (S : CallFix p m c cc nL s args Ts own) (hM : wz_Met l y ws rm Pc Qr Qx mc ms fr) (cw : CallW R s args own C index y bytes maxL ret ws rm mc ms n) (hp : PreV s H C b Pc As)
    (hg : g.method = m) (hn : As.length = n) (hsize : g.locals.size = nL) (hstack : g.stack = As.reverse ++ .ref b :: rest) (hW : 2 * g.monitorRoom + (rest.map fun v => v.category).sum ≤ 8) (hdg : decode cc g.pc = .ok (.invokevirtual index, 3)) (hf : cells + mc ≤ R.cells ∧ slots + ms ≤ R.slots)
    (kx : ∀ (q : Addr) (E : String) (ce : Cell) (L : List Loc) (st₀ t T' : State), st₀.heap = H → T'.heap = t.heap → T'.vm = t.vm → Qx E st₀ t → t.heap[q]? = some ce → ce.vm = .none → s.vm.findClass E = some ce.cls → (∀ z ∈ L, fr z.base) → Stand p l e R s m args below meth c T' (locs ++ L) (cells + mc) (slots + ms) → ∃ t2, Steps p.tables e below ((T'.setTop { g with stack := rest }).pushFrame (.throwing q)) t2 ∧ Q t2)
    (kr : ∀ (v : Option Value) (L : List Loc) (st₀ t T' : State), st₀.heap = H → T'.heap = t.heap → T'.vm = t.vm → Qr (Value.ref b :: As).toArray st₀ (.returned v) t → (∀ z ∈ L, fr z.base) → Stand p l e R s m args below meth c T' (locs ++ L) (cells + mc) (slots + ms) → ∃ t2, Steps p.tables e below (T'.setTop { g with pc := g.pc + 3, stack := v.toList ++ rest }) t2 ∧ Q t2) :
    W p l e R s m args below meth c H locs cells slots Q g := by
  intro T hT X
  obtain ⟨⟨hrc, hrs, hfr, hlo, hws, hcw, hcode, hini, hy, hlen, hl⟩, hin, hse⟩ := cw
  obtain ⟨hx, hb, hml, ho, -⟩ := S
  obtain ⟨hbl, ⟨cellB, hcB, hoB, hclB⟩, hPc⟩ := hp
  subst hg
  have hdg' : decode c.code g.pc = .ok (.invokevirtual index, 3) := by rw [hb]; exact hdg
  -- the machine enters the callee
  obtain ⟨mk, mM, hnm, hmM, hst, hab⟩ := Cond.instanceMethod_spec hin
  obtain ⟨mM', -, hmM', -, -, -, -, -, -, hsig⟩ := Cond.code_spec hnm hcode
  cases hmM.symm.trans hmM'
  obtain ⟨c2, r2, m2, q1, q2, q3, q4, kP, hkP, hkPi⟩ := Cond.selects_spec hse
  cases hclB.symm.trans q1
  cases (State.methodFound?_of_named hnm hy).symm.trans q2
  cases hnm.symm.trans q3
  have hsel : selectMethod e.platform s.vm cellB.cls mk = .method mk := by rw [Launch.admits_selectMethod X.admits]; exact q4
  obtain ⟨vm1, X1, step1⟩ := X.invokevirtual hx ho hl hnm hmM hst hkP hkPi hy (a := b) (cell := cellB) (by rw [hT]; exact hcB) (fun z h => by rw [h] at hoB; cases hoB) hsel hmM hab hkP hkPi (g := g) rfl (argsL := As) (rest := rest) (hn.trans (hlen _ hsig)) hstack hdg'
  obtain ⟨U, hU⟩ : ∃ U, U = T.setVm vm1 := ⟨_, rfl⟩
  rw [← hU] at X1 step1
  have hUh : U.heap = H := by rw [hU]; exact hT
  obtain ⟨g1, hg1⟩ : ∃ g1 : JFrame, g1 = { g with stack := rest } := ⟨_, rfl⟩
  have hg1m : g1.method = g.method := by rw [hg1]
  have hg1p : g1.pc = g.pc := by rw [hg1]
  have hat : At U g1.method c below := by rw [hg1m]; exact X1.here
  have hnU : U.methodNamed? y = some mk := X1.named hnm
  -- .. and the callee's contract runs it
  obtain ⟨mY, cY, hmY, hcY, -, hlY, -, -, -, -⟩ := Cond.code_spec hnU (hws _ hcw #[] _ X1.warmed)
  obtain ⟨kY, hkY, -⟩ := className_of_methodNamed hnU
  have hini' : kY.init = .initialized := Cond.initialized_spec (findClass_of_methodNamed hnU) hkY (word_at (a' := #[]) X1.warmed (Or.inl (by first | rfl | simp [Cond.onTables, Cond.keeps, Cond.steady])) hini)
  obtain ⟨a, ha⟩ : ∃ a, a = (Value.ref b :: As).toArray := ⟨_, rfl⟩
  have happ : (headSpec ws rm).appliesLoose y e.platform (U.calling g1 mk a) = true :=
    Spec.appliesLoose_calling (g := g1) hat (by rw [hg1p]; exact hdg') hnU hkY hini'
      (X1.room_calling (g := g1) (R' := (headSpec ws rm).room) (by rw [hg1]; exact hsize.trans hml.symm) hmY hcY hfr (by rw [hlY, hg1]; have : 2 * ({ g with stack := rest } : JFrame).monitorRoom + (rest.map fun v => v.category).sum ≤ 8 := hW; show 2 * ({ g with stack := rest } : JFrame).monitorRoom + (rest.map fun v => v.category).sum + (maxL + 11) + rm.locals ≤ _; omega) (by show cells + rm.cells ≤ _; rw [hrc]; exact hf.1) (by show slots + rm.slots ≤ _; rw [hrs]; exact hf.2))
      (atoms_intro fun w hw => hws w hw _ _ X1.warmed)
  obtain ⟨mid, hmid⟩ := hat.above
  have hfrm : (U.setTop g1).frames = (.java g1 :: mid) ++ below := by rw [State.frames_setTop' g1 hat.top, hmid]; rfl
  have hPa : Pc a (U.calling g1 mk a) := hbl _ _ _ _ (by rw [ha]; exact hPc U hUh X1.warmed)
  obtain ⟨o, s2, run, -, hend, hq⟩ := Steps.callFree hM p X1.admits X1.cas X1.clock (acts := []) hfrm happ hPa trivial
  have hq : wz_Q Qr Qx mc ms fr a (U.calling g1 mk a) o s2 := hq
  rw [State.frames_setTop' g1 hat.top] at hend
  obtain ⟨g0, hg0⟩ := Option.isSome_iff_exists.mp hat.top
  obtain ⟨r, hr⟩ := State.topJava?_eq_some.mp hg0
  have hr2 : (({ U with heap := s2.heap, slotsUsed := s2.slotsUsed } : State).setVm s2.vm).frames = .java g0 :: r := hr
  -- what is left of the state behind it, whichever way it ended
  have shape : ∀ L, (U.calling g1 mk a).sameButNew ({ s2 with vm := (U.calling g1 mk a).vm } : State) L mc ms →
      s2 = ({ (U.calling g1 mk a).setFrames s2.frames with heap := s2.heap, slotsUsed := s2.slotsUsed } : State).setVm s2.vm ∧ U.sameButNew ({ U with heap := s2.heap, slotsUsed := s2.slotsUsed } : State) L mc ms := by
    intro L h
    obtain ⟨e1, h2, h3, h4, h5, h6⟩ := h
    refine ⟨?_, ?_, h2, h3, h4, h5, h6⟩
    · have e0 : s2 = ({ s2 with vm := (U.calling g1 mk a).vm } : State).setVm s2.vm := rfl
      rw [e1] at e0
      exact e0
    · obtain ⟨t, ht, -⟩ := State.frames_cons hr
      show ({ U with heap := s2.heap, slotsUsed := s2.slotsUsed } : State) = { U.setFrames U.frames with heap := s2.heap, slotsUsed := s2.slotsUsed }
      rw [State.setFrames_self ht]
  have stand : ∀ L, U.WarmedH s2.vm → U.sameButNew ({ U with heap := s2.heap, slotsUsed := s2.slotsUsed } : State) L mc ms →
      Stand p l e R s g.method args below meth c (({ U with heap := s2.heap, slotsUsed := s2.slotsUsed } : State).setVm s2.vm) (locs ++ L) (cells + mc) (slots + ms) := fun L hW2 hs =>
    ⟨X1.admits, X1.cas, X1.clock, X1.frames, X1.room, X1.hears, X1.method, X1.code, (X1.here.setHeapUsed s2.heap s2.slotsUsed).setVm hW2.alike, X1.tail, State.WarmedH.trans X1.warmed hW2, X1.limits, X1.bytes, X1.same.trans (hs.setVm s.vm)⟩
  have go : ∀ t, Steps p.tables e below s2 t → Steps p.tables e below (T.setTop g) t := fun t h => step1 _ fun acts => by
    rw [doInvoke_state]
    rw [hg1, ha] at run
    exact run.trans h
  rcases hq with ⟨hQr, L, hfe, hL⟩ | ⟨q, E, ce, L, rfl, hQx, ⟨hce, hcv, hcl⟩, hW2, hsm, hL⟩
  · obtain ⟨⟨v, rfl⟩, hW2, hsm⟩ := id hfe
    obtain ⟨e3, hs2⟩ := shape L hsm
    obtain ⟨c9, i9, len9, hc9, hd9, hf9⟩ := hend
    have hW2 : U.WarmedH s2.vm := hW2
    have hcc : c9 = c := by
      have h1 : s2.code? g1.method = U.code? g1.method := by rw [State.code?_eq, State.code?_eq, hW2.alike.method?]
      exact Option.some.inj (hc9.symm.trans (h1.trans hat.code))
    subst hcc
    have hlen9 : len9 = 3 := by rw [hg1p, hdg'] at hd9; cases hd9; rfl
    subst hlen9
    obtain ⟨t2, a1, b1⟩ := kr v L (U.calling g1 mk a) s2 (({ U with heap := s2.heap, slotsUsed := s2.slotsUsed } : State).setVm s2.vm) hUh rfl rfl (by rw [← ha]; exact hQr) hL (stand L hW2 hs2)
    refine ⟨t2, go t2 ?_, b1⟩
    have e4 : s2 = (({ U with heap := s2.heap, slotsUsed := s2.slotsUsed } : State).setVm s2.vm).setTop { g with pc := g.pc + 3, stack := v.toList ++ rest } := by
      refine e3.trans ?_
      rw [hf9, State.calling_eq hat.top, State.setFrames_setFrames, State.setTop_of_frames _ hr2, hr, hg1]
      rfl
    rw [e4]
    exact a1
  · obtain ⟨e3, hs2⟩ := shape L hsm
    have hW2 : U.WarmedH s2.vm := hW2
    have hcl2 : s.vm.findClass E = some ce.cls := by
      have h1 : U.vm.findClass E = some ce.cls := hcl
      rw [X1.warmed.alike.findClass] at h1
      exact h1
    obtain ⟨t2, a1, b1⟩ := kx q E ce L (U.calling g1 mk a) s2 (({ U with heap := s2.heap, slotsUsed := s2.slotsUsed } : State).setVm s2.vm) hUh rfl rfl hQx hce hcv hcl2 hL (stand L hW2 hs2)
    refine ⟨t2, go t2 ?_, b1⟩
    have hf9 : s2.frames = .throwing q :: .java g1 :: U.frames.tail := hend
    have e4 : s2 = ((({ U with heap := s2.heap, slotsUsed := s2.slotsUsed } : State).setVm s2.vm).setTop { g with stack := rest }).pushFrame (.throwing q) := by
      refine e3.trans ?_
      rw [hf9, State.calling_eq hat.top, State.setFrames_setFrames, State.pushFrame, State.frames_setTop _ hr2, State.setTop_of_frames _ hr2, State.setFrames_setFrames, hr, hg1]
      rfl
    rw [e4]
    exact a1
/-- the same, for every goal behind it -/
def wz_Run (p : Program) (l : Launch) (e : Env) (R : Room) (s : State) (m : MethodId) (args : Array Value) (below : List Frame) (meth : Method) (c : Code) (H : Heap) (locs : List Loc) (cells slots mc ms : Nat) (g : JFrame) (rest : List Value) (Qa : State → Outcome → State → Prop) (Qx : String → State → State → Prop) (fr : Addr → Prop) : Prop :=
  ∀ Q : State → Prop,
    (∀ (q : Addr) (E : String) (ce : Cell) (L : List Loc) (st₀ t T' : State), st₀.heap = H → T'.heap = t.heap → T'.vm = t.vm → Qx E st₀ t → t.heap[q]? = some ce → ce.vm = .none → s.vm.findClass E = some ce.cls → (∀ z ∈ L, fr z.base) → Stand p l e R s m args below meth c T' (locs ++ L) (cells + mc) (slots + ms) → ∃ t2, Steps p.tables e below ((T'.setTop { g with stack := rest }).pushFrame (.throwing q)) t2 ∧ Q t2) →
    (∀ (v : Option Value) (L : List Loc) (st₀ t T' : State), st₀.heap = H → T'.heap = t.heap → T'.vm = t.vm → Qa st₀ (.returned v) t → (∀ z ∈ L, fr z.base) → Stand p l e R s m args below meth c T' (locs ++ L) (cells + mc) (slots + ms) → ∃ t2, Steps p.tables e below (T'.setTop { g with pc := g.pc + 3, stack := v.toList ++ rest }) t2 ∧ Q t2) →
    W p l e R s m args below meth c H locs cells slots Q g
theorem wz_runV {y : MethodName} {bytes : ByteArray} {maxL nL n index : Nat} {ret : Option FieldType} {ws : List Cond} {rm : Room} {Pc : Array Value → State → Prop} {Ts : List Cond} {own C : String} {b : Addr} {As : List Value} {g : JFrame}
    (S : CallFix p m c cc nL s args Ts own) (hM : wz_Met l y ws rm Pc Qr Qx mc ms fr) (cw : CallW R s args own C index y bytes maxL ret ws rm mc ms n) (hp : PreV s H C b Pc As)
    (hg : g.method = m) (hn : As.length = n) (hsize : g.locals.size = nL) (hstack : g.stack = As.reverse ++ .ref b :: rest) (hW : 2 * g.monitorRoom + (rest.map fun v => v.category).sum ≤ 8) (hdg : decode cc g.pc = .ok (.invokevirtual index, 3)) (hf : cells + mc ≤ R.cells ∧ slots + ms ≤ R.slots) :
    wz_Run p l e R s m args below meth c H locs cells slots mc ms g rest (Qr (Value.ref b :: As).toArray) Qx fr := fun _ kx kr => wz_callV S hM cw hp hg hn hsize hstack hW hdg hf kx kr
/-- nothing outside A has changed, also behind a call -/
theorem wz_S {A A1 : Nat → Prop} {H0 : Heap} {st₀ t T' : State} {L : List Loc} (h0 : st₀.heap = H) (e1 : T'.heap = t.heap) (hS : va_S A H0 H locs) (hA : ∀ q, A1 q → A q) (hL : ∀ q ∈ L, A1 q.base) (hF : va_F A1 st₀ t) : va_S A H0 T'.heap (locs ++ L) := by
  obtain ⟨hz, hk⟩ := hF
  rw [h0] at hz hk
  refine ⟨Nat.le_trans hS.1 (by rw [e1]; exact hz), fun q h1 h2 => ?_, fun q hq => ?_⟩
  · rw [e1, hk q (Nat.lt_of_lt_of_le h1 hS.1) (fun z => h2 (hA q z))]
    exact hS.2.1 q h1 h2
  · rcases List.mem_append.mp hq with h | h
    · exact hS.2.2 q h
    · exact hA _ (hL q h)
/-- a state that differs from another in new cells alone holds the old ones -/
theorem wz_old {z U : State} {k n : Nat} (h : z.sameButNew ({ U with vm := z.vm } : State) [] k n) : z.heap.size ≤ U.heap.size ∧ ∀ q : Nat, q < z.heap.size → U.heap[q]? = z.heap[q]? := by
  obtain ⟨-, h2, -, -, -, h6⟩ := h
  refine ⟨h2, fun q hq => ?_⟩
  obtain ⟨c9, e1, e2, -, e4⟩ := h6 q _ (Array.getElem?_eq_getElem hq)
  have e1 : U.heap[q]? = some c9 := e1
  rw [e1, Array.getElem?_eq_getElem hq, e2]
  have hs : c9.slots = (z.heap[q]).slots := Array.ext_getElem? fun i => e4 i (fun h => nomatch h)
  rw [hs]
/-- the same place of the machine, told from this state on -/
theorem wz_base {T : State} (X : Stand p l e R s m args below meth c T locs cells slots) {k n : Nat} (hc : cells + k ≤ R.cells) (hs : slots + n ≤ R.slots) :
    Stand p l e { frames := R.frames, locals := R.locals, cells := k, slots := n } ((T.setVm s.vm).setFrames (.invoking m args :: below)) m args below meth c T [] 0 0 := by
  have htop : (T.setVm s.vm).topJava?.isSome := X.here.top
  have hfr : ((T.setVm s.vm).setFrames (.invoking m args :: below)).frames = .invoking m args :: below := State.frames_setFrames _ (State.cur_lt_of_top htop)
  obtain ⟨g0, hg0⟩ := Option.isSome_iff_exists.mp htop
  obtain ⟨r, hr⟩ := State.topJava?_eq_some.mp hg0
  have hlim : e.platform.stackLimits (T.setVm s.vm).me = e.platform.stackLimits s.me := X.limits
  have hby : (T.setVm s.vm).me.stackBytes = s.me.stackBytes := X.bytes
  have hin : ((T.setVm s.vm).setFrames (.invoking m args :: below)).localsInUse = s.localsInUse := by
    rw [State.localsInUse_invoking hfr (meth := meth) (c := c) X.method X.code, State.localsInUse_invoking X.frames X.method X.code]
  have hdrop : T.heap.toList.drop T.heap.size = [] := List.drop_eq_nil_of_le (Nat.le_of_eq Array.length_toList)
  have hroom := X.room
  simp only [State.hasRoom, Bool.and_eq_true, decide_eq_true_eq] at hroom
  obtain ⟨⟨⟨⟨h1, h2, h3, h4, h5, h6⟩, h7⟩, h8⟩, h9⟩ := hroom
  rw [X.frames, List.length_cons] at h2 h3
  have hz := X.heapSize
  have hu := X.used
  refine ⟨X.admits, X.cas, X.clock, hfr, ?_, X.hears, X.method, X.code, X.here, X.tail, X.warmed, by rw [State.stackLimits_setFrames]; rfl, by rw [State.stackBytes_setFrames]; rfl, ?_⟩
  · simp only [State.hasRoom, Bool.and_eq_true, decide_eq_true_eq, hfr, hin, List.length_cons, State.stackLimits_setFrames, State.stackBytes_setFrames, hlim, hby]
    have z1 : T.heap.size + k ≤ e.platform.maxCells := by omega
    have z2 : T.slotsUsed + n ≤ e.platform.maxSlots := by omega
    exact ⟨⟨⟨⟨h1, h2, h3, h4, h5, h6⟩, z1⟩, z2⟩, X.book⟩
  · refine ⟨?_, Nat.le_refl _, Nat.le_refl _, ?_, ?_, fun a c9 h9 => ⟨c9, h9, rfl, rfl, fun _ _ => rfl⟩⟩
    · obtain ⟨t, ht, -⟩ := State.frames_cons hr
      show T.setVm s.vm = { ((T.setVm s.vm).setFrames (.invoking m args :: below)).setFrames (T.setVm s.vm).frames with heap := T.heap, slotsUsed := T.slotsUsed }
      rw [State.setFrames_setFrames, State.setFrames_self ht]
      rfl
    · show T.slotsUsed = T.slotsUsed + ((T.heap.toList.drop T.heap.size).map (·.slots.size)).sum
      rw [hdrop]; rfl
    · show ((T.heap.toList.drop T.heap.size).map (·.slots.size)).sum ≤ 0
      rw [hdrop]; exact Nat.le_refl _
end WZ
/-! .. and these over the world of this proof -/
abbrev wx_Qix (D : va_G) (ad : Nat → Nat) (cI cZ cJ cG : ClassId) (res : wc_X (Int32 × wc_S)) (A : Nat → Prop) := va_Qi (fun x u => Sum.inr (x, u) = res) (wx_B D ad cI cZ cJ cG) A
abbrev wx_Qvx (D : va_G) (ad : Nat → Nat) (cI cZ cJ cG : ClassId) (res : wc_X wc_S) (A : Nat → Prop) := va_Qv (fun u => Sum.inr u = res) (wx_B D ad cI cZ cJ cG) A
def wx_XC (D : va_G) (ad : Nat → Nat) (cI cZ cJ cG : ClassId) {α : Type} (res : wc_X α) (A : Nat → Prop) : String → State → State → Prop := fun E st t => ∃ u : Nat × wc_S, Sum.inl u = res ∧ E = wx_E u.1 ∧ wx_B D ad cI cZ cJ cG u.2 t ∧ va_F A st t
section WZX
variable {p : Program} {l : Launch} {e : Env} {R : Room} {s : State} {m : MethodId} {args : Array Value} {below : List Frame} {meth : Method} {c : Code} {H : Heap} {locs : List Loc} {cells slots : Nat} {Q : State → Prop}
variable {cc : ByteArray} {pc : Nat} {ls : Array Slot} {rest st0 : List Value} {D : va_G} {ad : Nat → Nat} {cI cZ cJ cG : ClassId} {σ τ : wc_S} {A : Nat → Prop} {H0 : Heap} {mc ms : Nat}
theorem wx_callix {q : wc_X (Int32 × wc_S)} {a : Array Value} (hr : wz_Run p l e R s m args below meth c H locs cells slots mc ms (F0 m pc ls st0) rest (wx_Qix D ad cI cZ cJ cG q (va_A (wx_W ad cI cZ cJ cG σ) H.size) a) (wx_XC D ad cI cZ cJ cG q (va_A (wx_W ad cI cZ cJ cG σ) H.size)) (va_A (wx_W ad cI cZ cJ cG σ) H.size)) (hD : va_D A (wx_W ad cI cZ cJ cG σ)) (hS : va_S A H0 H locs) (hA : ∀ q, H0.size ≤ q → A q)
    (kx : ∀ (E : String) (q9 : Addr) (ce : Cell) (k9 : Nat) (τ : wc_S) (H1 : Heap) (locs1 : List Loc), Sum.inl (k9, τ) = q → E = wx_E k9 → va_P D wx_cl (wx_W ad cI cZ cJ cG τ) H1 → va_D A (wx_W ad cI cZ cJ cG τ) → va_S A H0 H1 locs1 → H1[q9]? = some ce → ce.vm = .none → s.vm.findClass E = some ce.cls → wz_W p l e R s m args below meth c H1 locs1 (cells + mc) (slots + ms) Q (F0 m pc ls rest) q9)
    (kk : ∀ (r : Int32) (τ : wc_S) (H1 : Heap) (locs1 : List Loc), Sum.inr (r, τ) = q → va_P D wx_cl (wx_W ad cI cZ cJ cG τ) H1 → va_D A (wx_W ad cI cZ cJ cG τ) → va_S A H0 H1 locs1 → W p l e R s m args below meth c H1 locs1 (cells + mc) (slots + ms) Q (F0 m (pc + 3) ls (.int r :: rest))) : W p l e R s m args below meth c H locs cells slots Q (F0 m pc ls st0) := by
  refine hr Q (fun q9 E ce L st₀ t T' h0 e1 e2 hx hce hcv hcl hL X => ?_) (fun v L st₀ t T' h0 e1 e2 hq hL X => ?_)
  · obtain ⟨u, hu, hE, hB, hF⟩ := hx
    exact kx E q9 ce u.1 u.2 T'.heap (locs ++ L) hu hE (by rw [e1]; exact hB) (wc_D hD) (wz_S h0 e1 hS (wx_fr hD hS hA) hL hF) (by rw [e1]; exact hce) hcv hcl T' rfl X
  · obtain ⟨⟨r, u, hv, hu, hB⟩, hF⟩ := hq
    cases hv
    exact kk r u T'.heap (locs ++ L) hu (by rw [e1]; exact hB) (wc_D hD) (wz_S h0 e1 hS (wx_fr hD hS hA) hL hF) T' rfl X
theorem wx_callvx {q : wc_X wc_S} {a : Array Value} (hr : wz_Run p l e R s m args below meth c H locs cells slots mc ms (F0 m pc ls st0) rest (wx_Qvx D ad cI cZ cJ cG q (va_A (wx_W ad cI cZ cJ cG σ) H.size) a) (wx_XC D ad cI cZ cJ cG q (va_A (wx_W ad cI cZ cJ cG σ) H.size)) (va_A (wx_W ad cI cZ cJ cG σ) H.size)) (hD : va_D A (wx_W ad cI cZ cJ cG σ)) (hS : va_S A H0 H locs) (hA : ∀ q, H0.size ≤ q → A q)
    (kx : ∀ (E : String) (q9 : Addr) (ce : Cell) (k9 : Nat) (τ : wc_S) (H1 : Heap) (locs1 : List Loc), Sum.inl (k9, τ) = q → E = wx_E k9 → va_P D wx_cl (wx_W ad cI cZ cJ cG τ) H1 → va_D A (wx_W ad cI cZ cJ cG τ) → va_S A H0 H1 locs1 → H1[q9]? = some ce → ce.vm = .none → s.vm.findClass E = some ce.cls → wz_W p l e R s m args below meth c H1 locs1 (cells + mc) (slots + ms) Q (F0 m pc ls rest) q9)
    (kk : ∀ (τ : wc_S) (H1 : Heap) (locs1 : List Loc), Sum.inr τ = q → va_P D wx_cl (wx_W ad cI cZ cJ cG τ) H1 → va_D A (wx_W ad cI cZ cJ cG τ) → va_S A H0 H1 locs1 → W p l e R s m args below meth c H1 locs1 (cells + mc) (slots + ms) Q (F0 m (pc + 3) ls rest)) : W p l e R s m args below meth c H locs cells slots Q (F0 m pc ls st0) := by
  refine hr Q (fun q9 E ce L st₀ t T' h0 e1 e2 hx hce hcv hcl hL X => ?_) (fun v L st₀ t T' h0 e1 e2 hq hL X => ?_)
  · obtain ⟨u, hu, hE, hB, hF⟩ := hx
    exact kx E q9 ce u.1 u.2 T'.heap (locs ++ L) hu hE (by rw [e1]; exact hB) (wc_D hD) (wz_S h0 e1 hS (wx_fr hD hS hA) hL hF) (by rw [e1]; exact hce) hcv hcl T' rfl X
  · obtain ⟨⟨u, hv, hu, hB⟩, hF⟩ := hq
    cases hv
    exact kk u T'.heap (locs ++ L) hu (by rw [e1]; exact hB) (wc_D hD) (wz_S h0 e1 hS (wx_fr hD hS hA) hL hF) T' rfl X
theorem wx_iretx {v : Int32} {res : wc_X (Int32 × wc_S)} (hx : p.tables.exec = Jvm.exec) (hb : c.code = cc) (hr : meth.sig.returnType = some .int) (hlocks : meth.locks = false) (hf : some (Sum.inr (v, σ)) = some res) (hP : va_P D wx_cl (wx_W ad cI cZ cJ cG σ) H) (hS : va_S A s.heap H locs) (hdg : decode cc pc = .ok (.ireturn, 1)) : W p l e R s m args below meth c H locs cells slots (MQ below (wx_Qix D ad cI cZ cJ cG res A) args s cells slots A) (F0 m pc ls [.int v]) :=
  W.iret (v := v) hx hb hr (fun t ht hW => ⟨⟨v, σ, rfl, Option.some.inj hf, by unfold wx_B; rw [ht]; exact hP⟩, hS.F ht⟩) hS.2.2 hdg
theorem wx_zretx {v : Int32} {res : wc_X (Int32 × wc_S)} (hx : p.tables.exec = Jvm.exec) (hb : c.code = cc) (hr : meth.sig.returnType = some .boolean) (hn : narrow .boolean (.int v) = .int v) (hlocks : meth.locks = false) (hf : some (Sum.inr (v, σ)) = some res) (hP : va_P D wx_cl (wx_W ad cI cZ cJ cG σ) H) (hS : va_S A s.heap H locs) (hdg : decode cc pc = .ok (.ireturn, 1)) : W p l e R s m args below meth c H locs cells slots (MQ below (wx_Qix D ad cI cZ cJ cG res A) args s cells slots A) (F0 m pc ls [.int v]) :=
  W.zret (v := v) hx hb hr hn (fun t ht hW => ⟨⟨v, σ, rfl, Option.some.inj hf, by unfold wx_B; rw [ht]; exact hP⟩, hS.F ht⟩) hS.2.2 hdg
theorem wx_vretx {res : wc_X wc_S} (hx : p.tables.exec = Jvm.exec) (hb : c.code = cc) (hr : meth.sig.returnType = none) (hlocks : meth.locks = false) (hf : some (Sum.inr σ) = some res) (hP : va_P D wx_cl (wx_W ad cI cZ cJ cG σ) H) (hS : va_S A s.heap H locs) (hdg : decode cc pc = .ok (.return_, 1)) : W p l e R s m args below meth c H locs cells slots (MQ below (wx_Qvx D ad cI cZ cJ cG res A) args s cells slots A) (F0 m pc ls []) :=
  W.vret hx hb hr (fun t ht hW => ⟨⟨σ, rfl, Option.some.inj hf, by unfold wx_B; rw [ht]; exact hP⟩, hS.F ht⟩) hS.2.2 hdg
/-- thrown by a callee, not caught here -/
theorem wx_outx {α : Type} {Qr : Array Value → State → Outcome → State → Prop} {res : wc_X α} {E : String} {ce : Cell} {q9 : Addr} {k9 : Nat} (ht : ∀ x ∈ c.exceptionTable.toList, False) (hlocks : meth.locks = false) (hc1 : H[q9]? = some ce) (hc2 : ce.vm = .none) (hc3 : s.vm.findClass E = some ce.cls) (hE : E = wx_E k9) (hres : Sum.inl (k9, σ) = res) (hP : va_P D wx_cl (wx_W ad cI cZ cJ cG σ) H) (hS : va_S A s.heap H locs) (h1 : cells ≤ mc) (h2 : slots ≤ ms) : wz_W p l e R s m args below meth c H locs cells slots (wz_MQ below Qr (wx_XC D ad cI cZ cJ cG res A) args s mc ms A) (F0 m pc ls rest) q9 := by
  intro T hT X
  obtain ⟨st1, hrun, hend, hW, hsm⟩ := X.leaveThrown q9 (g := F0 m pc ls rest) rfl rfl rfl (fun x hx => (ht x hx).elim) hlocks
  exact ⟨_, st1, .threw q9, hrun, hend, Or.inr ⟨q9, E, ce, locs, rfl, ⟨(k9, σ), hres, hE, (show va_P D wx_cl (wx_W ad cI cZ cJ cG σ) T.heap by rw [hT]; exact hP), hS.F (show T.heap = H from hT)⟩, ⟨(show T.heap[q9]? = some ce by rw [hT]; exact hc1), hc2, hc3⟩, hW, hsm.mono h1 h2, hS.2.2⟩⟩
theorem wx_ofX {y : MethodName} {ws ws' : List Cond} {rm : Room} {maxL : Nat} {ret : Option FieldType} {sz : Nat} {Qc : (Nat → Prop) → Array Value → State → Outcome → State → Prop} {XC : (Nat → Prop) → String → State → State → Prop} (av : List Value) (hy : plainName y.cls = true) (hw : ws = Cond.code y cc maxL ret :: ws') (hle : (lg_sl av).length ≤ maxL)
    (body : ∀ (p : Program) (e : Env) (s : State) (m : MethodId) (args : Array Value) (below : List Frame) (meth : Method) (c : Code) (A : Nat → Prop) (ls : Array Slot), wx_In p s m args meth c D ad cI cZ cJ cG A σ cc maxL ret ws y.cls → (∀ x ∈ c.exceptionTable.toList, False) → lv_has ls maxL (lv_args 0 av) →
      W p l e rm s m args below meth c s.heap [] 0 0 (wz_MQ below (Qc A) (XC A) args s mc ms A) (F0 m 0 ls [])) :
    wz_Met l y ws rm (va_Pc av (wx_pre D ad cI cZ cJ cG σ sz)) (Qc (va_A (wx_W ad cI cZ cJ cG σ) sz)) (XC (va_A (wx_W ad cI cZ cJ cG σ) sz)) mc ms (va_A (wx_W ad cI cZ cJ cG σ) sz) := by
  refine wz_ofW (cc := cc) (maxL := maxL) (ret := ret) hy hw ?_
  intro p e s m args below meth c s₁ B hml ht hv
  obtain ⟨rfl, hsz, hP, hK, hD0, hC⟩ := hv
  subst hsz
  have hl := lv_entry av (n := maxL) hle
  rw [lg_entry_eq]
  exact body p e s m _ below meth c _ _ ⟨B.exec, B.bytes, B.returns, atoms_spec (ws := ws) B.pre, findClass_of_methodNamed B.named, B.notSynchronized, hml, fun q h => Or.inr h, hP, hK, hD0.self, hC, hC.now, va_S.rf⟩ ht hl
/-- a method with an exception table that always returns -/
theorem wx_ofH {y : MethodName} {ws ws' : List Cond} {rm : Room} {maxL : Nat} {ret : Option FieldType} {hh : List (Nat × Nat × Nat × Nat)} {sz : Nat} {Qc : (Nat → Prop) → Array Value → State → Outcome → State → Prop} (av : List Value) (hy : plainName y.cls = true) (hw : ws = Cond.codeWith y cc maxL ret hh :: ws') (hle : (lg_sl av).length ≤ maxL)
    (body : ∀ (p : Program) (e : Env) (s : State) (m : MethodId) (args : Array Value) (below : List Frame) (meth : Method) (c : Code) (A : Nat → Prop) (ls : Array Slot), wx_In p s m args meth c D ad cI cZ cJ cG A σ cc maxL ret ws y.cls → c.exceptionTable.toList = tableOf hh → lv_has ls maxL (lv_args 0 av) →
      W p l e rm s m args below meth c s.heap [] 0 0 (MQ below (Qc A) args s mc ms A) (F0 m 0 ls [])) :
    Met l y ws rm (va_Pc av (wx_pre D ad cI cZ cJ cG σ sz)) (Qc (va_A (wx_W ad cI cZ cJ cG σ) sz)) mc ms (va_A (wx_W ad cI cZ cJ cG σ) sz) := by
  refine va_MetW (cc := cc) (maxL := maxL) (ret := ret) (hh := hh) hy hw ?_
  intro p e s m args below meth c s₁ B hml hv
  obtain ⟨rfl, hsz, hP, hK, hD0, hC⟩ := hv
  subst hsz
  have hl := lv_entry av (n := maxL) hle
  have hts := atoms_spec (ws := ws) B.pre
  have ht : c.exceptionTable.toList = tableOf hh := by
    obtain ⟨m9, meth9, c9, hn9, h1, h2, -, -, h6, -⟩ := Cond.codeWith_spec (hts (Cond.codeWith y cc maxL ret hh) (by rw [hw]; exact List.mem_cons_self))
    cases Option.some.inj (hn9.symm.trans B.named)
    cases Option.some.inj (h1.symm.trans B.method)
    cases Option.some.inj (h2.symm.trans (Stand.of_body B).code)
    rw [← h6, table_eq]
  rw [lg_entry_eq]
  exact body p e s m _ below meth c _ _ ⟨B.exec, B.bytes, B.returns, hts, findClass_of_methodNamed B.named, B.notSynchronized, hml, fun q h => Or.inr h, hP, hK, hD0.self, hC, hC.now, va_S.rf⟩ ht hl
/-- 'throw new E("text")', not caught here -/
theorem wz_throw {α : Type} {Qr : Array Value → State → Outcome → State → Prop} {res : wc_X α} {c0 : Cond} {k ik is ic : Nat} {text : String} (hx : p.tables.exec = Jvm.exec) (hb : c.code = cc) (htr : l.stackTraces = false) (hown : s.vm.findClass "WidthCampaigns" = some m.cls) (hts : ∀ w ∈ c0 :: wx_all, w.before args s = true) (hC : wx_C A s s.heap)
    (hk : Cond.classLink "WidthCampaigns" ik (wx_E k) ∈ wx_all) (hini : Cond.initialized (wx_E k) ∈ wx_all) (hstr : (is, text) ∈ wx_strs) (hat : Bundle.fit (wx_E k) = true ∧ ∀ w ∈ Bundle.ownAtoms "WidthCampaigns" ic (wx_E k) ["java/lang/RuntimeException", "java/lang/Exception"], (w ∈ lw_tbl ∧ goodWord w = true) ∨ w ∈ wx_bad)
    (hS : va_S A s.heap H locs) (hsize : ls.size = c.maxLocals)
    (d0 : decode cc pc = .ok (.new ik, 3)) (d3 : decode cc (pc + 3) = .ok (.dup, 1)) (d4 : decode cc (pc + 4) = .ok (.ldc is, 2)) (d6 : decode cc (pc + 6) = .ok (.invokespecial ic, 3)) (d9 : decode cc (pc + 9) = .ok (.athrow, 1)) (ht : ∀ x ∈ c.exceptionTable.toList, False)
    (hRf : 5 < R.frames) (hRl : (rest.map fun v => v.category).sum + 82 ≤ R.locals) (hRc : cells + 1 ≤ R.cells) (hRs : slots + 6 ≤ R.slots) (hlocks : meth.locks = false) (hP : va_P D wx_cl (wx_W ad cI cZ cJ cG σ) H) (hres : Sum.inl (k, σ) = res) (h1 : cells + 1 ≤ mc) (h2 : slots + 6 ≤ ms) :
    W p l e R s m args below meth c H locs cells slots (wz_MQ below Qr (wx_XC D ad cI cZ cJ cG res A) args s mc ms A) (F0 m pc ls rest) := by
  intro T hT X
  have htr' : e.platform.stackTraces = false := (show e.platform.stackTraces = l.stackTraces by rw [X.admits.platform]).trans htr
  have Y := wz_base X hRc hRs
  obtain ⟨z, hz⟩ : ∃ z, z = (T.setVm s.vm).setFrames (.invoking m args :: below) := ⟨_, rfl⟩
  rw [← hz] at Y
  have zv : z.vm = s.vm := by rw [hz]; rfl
  have zh : z.heap = H := by rw [hz]; exact hT
  have hWz : s.WarmedH z.vm := by rw [zv]; exact State.WarmedH.refl s
  have hfz : wx_facts z := hC z hWz (by rw [zh]; exact hS.1) (fun q h1 h2 => by rw [zh]; exact hS.2.1 q h1 h2)
  have good : ∀ w, w ∈ wx_all → w.before args z = true := fun w hw => word_at hWz (good_of_word (List.mem_filter.mp hw).2) (wx_hw hts hw)
  have atoms : ∀ w ∈ Bundle.ownAtoms "WidthCampaigns" ic (wx_E k) ["java/lang/RuntimeException", "java/lang/Exception"], w.before args z = true := fun w hw => by
    rcases hat.2 w hw with h | h
    · exact good w (List.mem_filter.mpr h)
    · exact hfz.1 w h args
  have hownz : z.vm.findClass "WidthCampaigns" = some m.cls := by rw [zv]; exact hown
  obtain ⟨vm1, cX, kX, hfX, hkX, -, -, X1, st1⟩ := Y.newCold hx (own := "WidthCampaigns") (C := wx_E k) (index := ik) (n := 6) hownz (good _ hk) (atoms _ (by simp [Bundle.ownAtoms])) (good _ hini) (g := F0 m pc ls rest) rfl (by rw [hb]; exact d0) (Nat.le_refl _) (Nat.le_refl _)
  obtain ⟨T1, hT1⟩ : ∃ T1, T1 = (T.setVm vm1).pushCell { cls := cX, slots := kX.instanceTypes.map defaultValue, vm := .none } := ⟨_, rfl⟩
  rw [← hT1] at X1 st1
  have hcell : T1.heap[T.heap.size]? = some (freshCell cX kX) := by rw [hT1]; exact State.heap_pushCell_size _ _
  obtain ⟨sa, hsa⟩ := hfz.2.1 _ hstr
  obtain ⟨U, run, hrun, hend, hWU, hsm, ce, hce, hO⟩ := X1.ctorThrowS hx htr' (own := "WidthCampaigns") (cls := wx_E k) (names := ["java/lang/RuntimeException", "java/lang/Exception"]) (ic := ic) hownz hat.1 (by decide +kernel) atoms (fun x hx => nomatch hx) hfX hkX hcell (by rw [zh, hT]; exact Nat.le_refl _) (msg := .ref sa) rfl
    (g := { method := m, pc := pc + 6, locals := ls, stack := .ref sa :: .ref T.heap.size :: .ref T.heap.size :: rest, locked := none }) rfl hsize rfl rfl (rest := rest) rfl (by rw [hb]; exact d6) (by rw [hb]; exact d9) (fun x hx => (ht x hx).elim) hRf (by simp only [List.map_cons, List.sum_cons, Value.category]; show 2 * 0 + (1 + (rest.map fun v => v.category).sum) + (13 * (2 + 1) + 42) ≤ R.locals; omega) hlocks
  obtain ⟨f1, f2⟩ := wz_old hsm
  rw [zh] at f1 f2
  have hWs : s.WarmedH U.vm := State.WarmedH.trans hWz hWU
  have hall : s.sameButNew ({ U with vm := s.vm } : State) locs mc ms := by
    subst hz
    obtain ⟨e1, e2⟩ := hsm
    rw [State.setFrames_setFrames] at e1
    have h3 := X.same.trans (show (T.setVm s.vm).sameButNew ({ U with vm := s.vm } : State) [] (0 + 1) (0 + 6) from ⟨e1, e2⟩)
    rw [List.append_nil] at h3
    exact h3.mono h1 h2
  refine ⟨U, ?_, .threw T.heap.size, hrun, hend, Or.inr ⟨T.heap.size, wx_E k, ce, locs, rfl, ⟨(k, σ), hres, rfl, hP.kept (fun j q hq => f2 q.1 (hP j q hq).lt), Nat.le_trans hS.1 f1, fun q h1 h2 => (f2 q (Nat.lt_of_lt_of_le h1 hS.1)).trans (hS.2.1 q h1 h2)⟩, ⟨hce, hO.vm, by have h9 := hO.cls; rw [zv] at h9; exact h9⟩, hWs, hall, hS.2.2⟩⟩
  refine st1 _ ?_
  have d3' : decode c.code (pc + 3) = .ok (.dup, 1) := by rw [hb]; exact d3
  show Steps p.tables e below (T1.setTop { method := m, pc := pc + 3, locals := ls, stack := .ref T.heap.size :: rest, locked := none }) _
  jvm_step X1.here [X1.here.top, hx, d3', Value.category]
  exact X1.ldcString hx (own := "WidthCampaigns") (text := text) (index := is) (a := sa) hownz hsa.1 hsa.2 (g := { method := m, pc := pc + 4, locals := ls, stack := .ref T.heap.size :: .ref T.heap.size :: rest, locked := none }) rfl (by rw [hb]; exact d4) _ run
/-- caught by the row x of the method's table, behind rows that let it by -/
theorem wz_catch {own E : String} {c0 : Cond} {ce : Cell} {q : Addr} (pre : List ExceptionTableEntry) (x : ExceptionTableEntry) (suf : List ExceptionTableEntry) (hown : s.vm.findClass own = some m.cls) (hts : ∀ w ∈ c0 :: wx_all, w.before args s = true) (hN : wx_facts s) (hsplit : c.exceptionTable.toList = pre ++ x :: suf)
    (hpass : ∀ z ∈ pre, z.catchType ≠ 0 ∧ ∃ nm : String, Cond.classLink own z.catchType nm ∈ wx_all ∧ (E, nm) ∈ wx_nots) (hcov : covers x pc = true) (h0 : x.catchType ≠ 0) (hlink : Cond.classLink own x.catchType E ∈ wx_all) (hcast : Cond.castable E E ∈ wx_bad) (hcell : H[q]? = some ce) (hv : ce.vm = .none) (hcl : s.vm.findClass E = some ce.cls)
    (kk : W p l e R s m args below meth c H locs cells slots Q (F0 m x.handlerPc ls [.ref q])) : wz_W p l e R s m args below meth c H locs cells slots Q (F0 m pc ls rest) q := by
  intro T hT X
  have hpl : e.platform.magicAccessors = ({} : Platform).magicAccessors := by rw [X.admits.platform]
  obtain ⟨c3, c4, hc3, hc4, hasg⟩ := Cond.castable_spec (hN.1 _ hcast args)
  cases Option.some.inj (hc3.symm.trans hcl)
  obtain ⟨c5, hc5, hcl5⟩ := Cond.classLink_spec hown (wx_hw hts hlink) e.platform hpl
  cases Option.some.inj (hc4.symm.trans hc5)
  obtain ⟨vm', X', st⟩ := X.thenCaughtThrough q (g := F0 m pc ls rest) rfl (Steps.refl _) (by rw [hT]; exact hcell) (by rw [hv]; rfl) (by obtain ⟨k9, h9, -⟩ := Vm.findClass_spec hcl; exact ⟨k9, h9⟩) pre x suf hsplit
    (fun z hz => by
      obtain ⟨hz0, nm, hl1, hn1⟩ := hpass z hz
      obtain ⟨c6, hc6, hcl6⟩ := Cond.classLink_spec hown (wx_hw hts hl1) e.platform hpl
      obtain ⟨a8, b8, g1, g2, g3⟩ := hN.2.2 _ hn1
      cases Option.some.inj (g1.symm.trans hcl)
      cases Option.some.inj (g2.symm.trans hc6)
      exact Or.inr ⟨hz0, _, hcl6, g3⟩) hcov (Or.inr ⟨h0, c4, hcl5, hasg⟩)
  obtain ⟨t, a1, b1⟩ := kk (T.setVm vm') hT X'
  exact ⟨t, st.trans a1, b1⟩
end WZX
theorem wa_0_72 : Bundle.fit (wx_E 0) = true ∧ ∀ w ∈ Bundle.ownAtoms "WidthCampaigns" 72 (wx_E 0) ["java/lang/RuntimeException", "java/lang/Exception"], (w ∈ lw_tbl ∧ goodWord w = true) ∨ w ∈ wx_bad := by decide +kernel
theorem wa_1_168 : Bundle.fit (wx_E 1) = true ∧ ∀ w ∈ Bundle.ownAtoms "WidthCampaigns" 168 (wx_E 1) ["java/lang/RuntimeException", "java/lang/Exception"], (w ∈ lw_tbl ∧ goodWord w = true) ∨ w ∈ wx_bad := by decide +kernel
theorem wa_2_49 : Bundle.fit (wx_E 2) = true ∧ ∀ w ∈ Bundle.ownAtoms "WidthCampaigns" 49 (wx_E 2) ["java/lang/RuntimeException", "java/lang/Exception"], (w ∈ lw_tbl ∧ goodWord w = true) ∨ w ∈ wx_bad := by decide +kernel
theorem wa_3_60 : Bundle.fit (wx_E 3) = true ∧ ∀ w ∈ Bundle.ownAtoms "WidthCampaigns" 60 (wx_E 3) ["java/lang/RuntimeException", "java/lang/Exception"], (w ∈ lw_tbl ∧ goodWord w = true) ∨ w ∈ wx_bad := by decide +kernel
