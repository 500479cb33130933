/-! no coil is there yet -/
theorem nb1 {β : Type} {a : Int32} {f : Int32 → wc_S → Option β} : wc_b2 (wf_W_isNoCoil a wc_0) f = f 1 wc_0 := by
  have e : wf_W_isNoCoil a wc_0 = some (1, wc_0) := by
    show (if a < 0 then some ((1 : Int32), wc_0) else if a < (0 : Int32) then some (0, wc_0) else some (1, wc_0)) = _
    by_cases h : a < 0
    · rw [if_pos h]
    · rw [if_neg h, if_neg h]
  rw [e]; rfl
theorem mc0 {β : Type} {a : Int32} {ρ : wc_S} {f : Int32 → wc_S → Option β} : wc_b2 (wf_M_isCoil a (wh ρ)) f = f 0 (wh ρ) := by
  have e : wf_M_isCoil a (wh ρ) = some (0, wh ρ) := by
    show (wc_b2 (wf_M_in a 0 ((0 : Int32) - 1) (wh ρ)) fun r4 σ3 => wc_gd (wc_z r4) (some (r4, σ3))) = _
    rw [mb0]
    · rfl
    · intro h
      have h1 := h.1; have h2 := h.2
      rw [wn_lt] at h1; rw [wn_le] at h2
      have e0 : (0 : Int32).toInt = 0 := rfl
      have e1 : ((0 : Int32) - 1).toInt = -1 := rfl
      omega
  rw [e]; rfl
set_option maxRecDepth 100000 in
set_option maxHeartbeats 4000000 in
theorem fk_urgent (a b : Int32) : wqv (wf_K_urgent a b wc_0) (wf_M_urgent a b) := by
  by_cases h0 : ¬ b < 0 ∧ b ≤ 8
  · exact wqv_of 1 (by unfold wf_K_urgent wf_W_urgent; rw [nb1]; rfl) (fun x hx => wr_K_urgent a b wc_0 x hx) (by intro k i h1 h2 h; unfold wS_K_urgent at h; omega) (fun ρ => ⟨_, by unfold wf_M_urgent; rw [mc0, mb1 h0]; rfl, by rfl⟩)
  · exact wqv_of 1 (by unfold wf_K_urgent wf_W_urgent; rw [nb1]; rfl) (fun x hx => wr_K_urgent a b wc_0 x hx) (by intro k i h1 h2 h; unfold wS_K_urgent at h; omega) (fun ρ => ⟨_, by unfold wf_M_urgent; rw [mc0, mb0 h0]; rfl, by rfl⟩)
set_option maxRecDepth 100000 in
set_option maxHeartbeats 4000000 in
theorem fk_old (a b : Int32) : wqv (wf_K_old a b wc_0) (wf_M_old a b) := by
  by_cases h0 : ¬ b < (-1) ∧ b ≤ 8
  · exact wqv_of 1 (by unfold wf_K_old wf_W_old; rw [nb1]; rfl) (fun x hx => wr_K_old a b wc_0 x hx) (by intro k i h1 h2 h; unfold wS_K_old at h; omega) (fun ρ => ⟨_, by unfold wf_M_old; rw [mc0, mb1 h0]; rfl, by rfl⟩)
  · exact wqv_of 1 (by unfold wf_K_old wf_W_old; rw [nb1]; rfl) (fun x hx => wr_K_old a b wc_0 x hx) (by intro k i h1 h2 h; unfold wS_K_old at h; omega) (fun ρ => ⟨_, by unfold wf_M_old; rw [mc0, mb0 h0]; rfl, by rfl⟩)
set_option maxRecDepth 100000 in
set_option maxHeartbeats 4000000 in
theorem fk_jump (a b : Int32) : wq (wf_K_jump a b wc_0) (wf_M_jump a b) := by
  exact wq_of 1 0 (by unfold wf_K_jump wf_W_jump; rw [nb1]; rfl) (fun x hx => wr_K_jump a b wc_0 x hx) (by intro k i h1 h2 h; unfold wS_K_jump at h; omega) (fun h => absurd h (by decide)) (fun ρ => ⟨_, _, by unfold wf_M_jump; rw [mc0]; rfl, by rfl, by rfl, by rfl⟩)
set_option maxRecDepth 100000 in
set_option maxHeartbeats 4000000 in
theorem fk_tell (a : Int64) : wqv (wf_K_tell a wc_0) (wf_M_tell a) := by
  exact wqv_of 0 (by rfl) (fun x hx => wr_K_tell a wc_0 x hx) (by intro k i h1 h2 h; unfold wS_K_tell at h; omega) (fun ρ => ⟨_, by rfl, by rfl⟩)
set_option maxRecDepth 100000 in
set_option maxHeartbeats 4000000 in
theorem fk_bound : ∃ τ, wf_M_bound wc_0 = some (0 - 0, τ) := ⟨_, rfl⟩
/-! one step of the law -/
def wl (o : Option (Int32 × wc_S)) (m : wc_S → Option (Int32 × wc_S)) (K : wc_S → Option (Int32 × wc_S)) : Option (Int32 × wc_S) :=
  wc_b2 o fun r σ1 => wc_b2 (m σ1) fun v σ2 => wc_b2 (wf_M_thrown σ2) fun e σ3 =>
  if e = r then (if r = 0 then wc_gd (wc_in 0 1) (wc_st ((σ3 88 ((0 : Int32).toNatClampNeg)).toInt64) fun v41 => wc_st v.toInt64 fun v42 => wc_st (lg_cmp v41 v42) fun v43 => if v43 = 0 then K σ3 else some (0, σ3)) else K σ3) else some (0, σ3)
def wlv (o : Option (Int32 × wc_S)) (m : wc_S → Option wc_S) (K : wc_S → Option (Int32 × wc_S)) : Option (Int32 × wc_S) :=
  wc_b2 o fun r σ1 => wc_b1 (m σ1) fun σ2 => wc_b2 (wf_M_thrown σ2) fun e σ3 => if e = r then K σ3 else some (0, σ3)
set_option maxRecDepth 100000 in
set_option maxHeartbeats 4000000 in
theorem b2s {β : Type} {r : Int32} {σ : wc_S} {f : Int32 → wc_S → Option β} : wc_b2 (some (r, σ)) f = f r σ := rfl
set_option maxRecDepth 100000 in
set_option maxHeartbeats 4000000 in
theorem b1s {β : Type} {σ : wc_S} {f : wc_S → Option β} : wc_b1 (some σ) f = f σ := rfl
set_option maxRecDepth 100000 in
set_option maxHeartbeats 4000000 in
theorem wl_q {o : Option (Int32 × wc_S)} {m : wc_S → Option (Int32 × wc_S)} {K : wc_S → Option (Int32 × wc_S)} (h : wq o m) : ∃ τ, wl o m K = K τ := by
  obtain ⟨r, τ1, v, τ, hK, hM, hr, hv⟩ := h
  refine ⟨τ, ?_⟩
  unfold wl
  rw [hK, b2s, hM, b2s]
  show (if τ 71 0 = r then (if r = 0 then (if lg_cmp ((τ 88 0).toInt64) v.toInt64 = 0 then K τ else some (0, τ)) else K τ) else some (0, τ)) = _
  rw [if_pos hr]
  by_cases h0 : r = 0
  · rw [if_pos h0, if_pos]
    rw [lg_cmp_eq, hv h0]
  · rw [if_neg h0]
set_option maxRecDepth 100000 in
set_option maxHeartbeats 4000000 in
theorem wlv_q {o : Option (Int32 × wc_S)} {m : wc_S → Option wc_S} {K : wc_S → Option (Int32 × wc_S)} (h : wqv o m) : ∃ τ, wlv o m K = K τ := by
  obtain ⟨r, τ1, τ, hK, hM, hr⟩ := h
  refine ⟨τ, ?_⟩
  unfold wlv
  rw [hK, b2s, hM, b1s]
  show (if τ 71 0 = r then K τ else some (0, τ)) = _
  rw [if_pos hr]
def wT (xs : Nat → Int32) (o : Option (Int32 × wc_S)) : Prop := ∃ τ, o = some (1, τ)
set_option maxRecDepth 100000 in
set_option maxHeartbeats 4000000 in
theorem k5 (xs : Nat → Int32) (τ : wc_S) : wf_law_1031 5 xs (wf_law_23 5 xs 599) 0 0 τ = some (1, τ) := rfl
set_option maxRecDepth 100000 in
set_option maxHeartbeats 4000000 in
theorem go_l {xs : Nat → Int32} {o : Option (Int32 × wc_S)} {m : wc_S → Option (Int32 × wc_S)} (h : wq o m) : wT xs (wl o m (wf_law_1031 5 xs (wf_law_23 5 xs 599) 0 0)) := by
  obtain ⟨τ, e⟩ := wl_q (K := wf_law_1031 5 xs (wf_law_23 5 xs 599) 0 0) h
  exact ⟨τ, e.trans (k5 xs τ)⟩
set_option maxRecDepth 100000 in
set_option maxHeartbeats 4000000 in
theorem go_v {xs : Nat → Int32} {o : Option (Int32 × wc_S)} {m : wc_S → Option wc_S} (h : wqv o m) : wT xs (wlv o m (wf_law_1031 5 xs (wf_law_23 5 xs 599) 0 0)) := by
  obtain ⟨τ, e⟩ := wlv_q (K := wf_law_1031 5 xs (wf_law_23 5 xs 599) 0 0) h
  exact ⟨τ, e.trans (k5 xs τ)⟩
variable (xs : Nat → Int32)
set_option maxRecDepth 100000 in
set_option maxHeartbeats 4000000 in
theorem s112 : wT xs (wf_law_112 5 xs (wf_law_23 5 xs 599) 0 0 wc_0) := go_l (fk_coil (xs 1) (xs 2) (xs 3) (xs 4))
set_option maxRecDepth 100000 in
set_option maxHeartbeats 4000000 in
theorem s204 : wT xs (wf_law_204 5 xs (wf_law_23 5 xs 599) 0 0 wc_0) := go_l (fk_table (xs 1) (xs 2) (xs 3) (xs 4))
set_option maxRecDepth 100000 in
set_option maxHeartbeats 4000000 in
theorem s296 : wT xs (wf_law_296 5 xs (wf_law_23 5 xs 599) 0 0 wc_0) := go_l (fk_group (xs 1) (xs 2) (xs 3))
set_option maxRecDepth 100000 in
set_option maxHeartbeats 4000000 in
theorem s376 : wT xs (wf_law_376 5 xs (wf_law_23 5 xs 599) 0 0 wc_0) := go_v (fk_urgent (xs 1) (xs 2))
set_option maxRecDepth 100000 in
set_option maxHeartbeats 4000000 in
theorem s424 : wT xs (wf_law_424 5 xs (wf_law_23 5 xs 599) 0 0 wc_0) := go_v (fk_old (xs 1) (xs 2))
set_option maxRecDepth 100000 in
set_option maxHeartbeats 4000000 in
theorem s472 : wT xs (wf_law_472 5 xs (wf_law_23 5 xs 599) 0 0 wc_0) := go_v (fk_rules (xs 1) (xs 2) (xs 3) (xs 4))
set_option maxRecDepth 100000 in
set_option maxHeartbeats 4000000 in
theorem s544 : wT xs (wf_law_544 5 xs (wf_law_23 5 xs 599) 0 0 wc_0) := go_l (fk_run (xs 1))
set_option maxRecDepth 100000 in
set_option maxHeartbeats 4000000 in
theorem s600 : wT xs (wf_law_600 5 xs (wf_law_23 5 xs 599) 0 0 wc_0) := ⟨_, rfl⟩
set_option maxRecDepth 100000 in
set_option maxHeartbeats 4000000 in
theorem s651 : wT xs (wf_law_651 5 xs (wf_law_23 5 xs 599) 0 0 wc_0) := go_l (fk_order (xs 1))
set_option maxRecDepth 100000 in
set_option maxHeartbeats 4000000 in
theorem s707 : wT xs (wf_law_707 5 xs (wf_law_23 5 xs 599) 0 0 wc_0) := go_l (fk_told (xs 1))
set_option maxRecDepth 100000 in
set_option maxHeartbeats 4000000 in
theorem s763 : wT xs (wf_law_763 5 xs (wf_law_23 5 xs 599) 0 0 wc_0) := ⟨_, rfl⟩
set_option maxRecDepth 100000 in
set_option maxHeartbeats 4000000 in
theorem s826 : wT xs (wf_law_826 5 xs (wf_law_23 5 xs 599) 0 0 wc_0) := go_l (fk_jump (xs 1) (xs 2))
set_option maxRecDepth 100000 in
set_option maxHeartbeats 4000000 in
theorem s894 : wT xs (wf_law_894 5 xs (wf_law_23 5 xs 599) 0 0 wc_0) := ⟨_, rfl⟩
set_option maxRecDepth 100000 in
set_option maxHeartbeats 4000000 in
theorem s907 : wT xs (wf_law_907 5 xs (wf_law_23 5 xs 599) 0 0 wc_0) := go_v (fk_tell (((xs 1).toInt64 <<< ((32 : Int32).toInt64 &&& 63)) ||| ((xs 2).toInt64 &&& 4294967295)))
set_option maxRecDepth 100000 in
set_option maxHeartbeats 4000000 in
theorem s975 : wT xs (wf_law_975 5 xs (wf_law_23 5 xs 599) 0 0 wc_0) := go_l (fk_improve (xs 1))
set_option maxRecDepth 100000 in
set_option maxHeartbeats 4000000 in
theorem s1031 : wT xs (wf_law_1031 5 xs (wf_law_23 5 xs 599) 0 0 wc_0) := ⟨_, k5 xs wc_0⟩
set_option maxRecDepth 100000 in
set_option maxHeartbeats 4000000 in
theorem wT_if {xs : Nat → Int32} {c : Prop} {i : Decidable c} {a b : Option (Int32 × wc_S)} (h1 : wT xs a) (h2 : wT xs b) : wT xs (@ite _ c i a b) := by
  by_cases h : c
  · rw [if_pos h]; exact h1
  · rw [if_neg h]; exact h2
set_option maxRecDepth 100000 in
set_option maxHeartbeats 4000000 in
theorem s23 : wT xs (wf_law_23_b 5 xs (wf_law_23 5 xs 599) 0 0 wc_0) := wT_if (s112 xs) (wT_if (s204 xs) (wT_if (s296 xs) (wT_if (s376 xs) (wT_if (s424 xs) (wT_if (s472 xs) (wT_if (s544 xs) (wT_if (s600 xs) (wT_if (s651 xs) (wT_if (s707 xs) (wT_if (s763 xs) (wT_if (s826 xs) (wT_if (s894 xs) (wT_if (s907 xs) (wT_if (s975 xs) (s1031 xs)))))))))))))))
set_option maxRecDepth 100000 in
set_option maxHeartbeats 4000000 in
theorem wp_main (L : Nat) (hL : L ≤ 5) (xs : Nat → Int32) : ∃ res : Int32 × wc_S, wf_law_23 L xs 600 0 0 wc_0 = some res ∧ res.1 = 1 := by
  have h : L = 0 ∨ L = 1 ∨ L = 2 ∨ L = 3 ∨ L = 4 ∨ L = 5 := by omega
  rcases h with rfl | rfl | rfl | rfl | rfl | rfl
  · exact ⟨(1, wc_0), rfl, rfl⟩
  · exact ⟨(1, wc_0), rfl, rfl⟩
  · exact ⟨(1, wc_0), rfl, rfl⟩
  · exact ⟨(1, wc_0), rfl, rfl⟩
  · exact ⟨(1, wc_0), rfl, rfl⟩
  · obtain ⟨τ, e⟩ := s23 xs
    exact ⟨(1, τ), e, rfl⟩
