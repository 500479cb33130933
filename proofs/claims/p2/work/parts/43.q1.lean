/-! costs of jumps: class and model as one function of the rows -/
theorem same_q {o : Option (Int32 × wc_S)} {σ : wc_S} {P : Int32 × wc_S → Prop} {S : Nat → Nat → Prop} (hw : ∀ x, o = some x → wr_q S σ x.2) (hs : ∀ k i, ¬ S k i) (h : pk o P) : pk o (fun r => P r ∧ r.2 = σ) := fun x e => ⟨h x e, wr_same (hw x e) hs⟩
theorem qn_up {x : Int32} {m : Int} (h : x.toInt < m) (hm : m ≤ 1000000) (h0 : 0 ≤ x.toInt) : (x + 1).toInt = x.toInt + 1 := wn_up h0 (by omega)
/-- the first of m rows, from r on, that holds x: its cost, or -1 -/
def qC (f t c : Nat → Int32) (x : Int32) : Nat → Nat → Int32
  | 0, _ => -1
  | m + 1, r => if x < f r then qC f t c x m (r + 1) else if t r < x then qC f t c x m (r + 1) else c r
theorem qC_eq {f t c f' t' c' : Nat → Int32} {x : Int32} : ∀ (m r r' : Nat), (∀ j, j < m → f (r + j) = f' (r' + j) ∧ t (r + j) = t' (r' + j) ∧ c (r + j) = c' (r' + j)) → qC f t c x m r = qC f' t' c' x m r' := by
  intro m
  induction m with
  | zero => intro r r' _; rfl
  | succ m ih =>
    intro r r' h
    have h0 := h 0 (by omega)
    have hs := ih (r + 1) (r' + 1) (fun j hj => by
      have := h (j + 1) (by omega)
      rw [show r + 1 + j = r + (j + 1) by omega, show r' + 1 + j = r' + (j + 1) by omega]
      exact this)
    simp only [Nat.add_zero] at h0
    show (if x < f r then qC f t c x m (r + 1) else if t r < x then qC f t c x m (r + 1) else c r) = (if x < f' r' then qC f' t' c' x m (r' + 1) else if t' r' < x then qC f' t' c' x m (r' + 1) else c' r')
    rw [h0.1, h0.2.1, h0.2.2, hs]
theorem qC_pos {f t c : Nat → Int32} {x : Int32} : ∀ (m r : Nat), (∀ j, j < m → 0 ≤ (c (r + j)).toInt ∧ (c (r + j)).toInt ≤ 10000) → qC f t c x m r = -1 ∨ (0 ≤ (qC f t c x m r).toInt ∧ (qC f t c x m r).toInt ≤ 10000) := by
  intro m
  induction m with
  | zero => intro r _; exact Or.inl rfl
  | succ m ih =>
    intro r h
    have hs := ih (r + 1) (fun j hj => by
      rw [show r + 1 + j = r + (j + 1) by omega]
      exact h (j + 1) (by omega))
    show (if x < f r then qC f t c x m (r + 1) else if t r < x then qC f t c x m (r + 1) else c r) = -1 ∨ (0 ≤ (if x < f r then qC f t c x m (r + 1) else if t r < x then qC f t c x m (r + 1) else c r).toInt ∧ (if x < f r then qC f t c x m (r + 1) else if t r < x then qC f t c x m (r + 1) else c r).toInt ≤ 10000)
    split
    · exact hs
    · split
      · exact hs
      · exact Or.inr (h 0 (by omega))
/-- with no row at all every jump costs 0 -/
def qK (n : Int32) (f t c : Nat → Int32) (b : Nat) (x : Int32) : Int32 := if n = 0 then 0 else qC f t c x n.toInt.toNat b
theorem pq_J_costOf_11 (b : Nat) (σ : wc_S) (x1 : Int32) (h8 : (σ b 3).toInt ≤ 8) : ∀ (n : Nat) (x2 : Int32), 0 ≤ x2.toInt → x2.toInt ≤ (σ b 3).toInt → pk (wf_J_costOf_11 b n x1 x2 σ) (fun r => r.1 = qC (σ (b + 1)) (σ (b + 2)) (σ (b + 3)) x1 ((σ b 3).toInt - x2.toInt).toNat x2.toInt.toNat) := by
  intro n
  induction n with
  | zero => intro x2 h0 h1; exact pk_n
  | succ n ih =>
    intro x2 h0 h1
    show pk (wf_J_costOf_11_b b (wf_J_costOf_11 b n) x1 x2 σ) _
    unfold wf_J_costOf_11_b
    refine pk_e (fun v3 e3 => pk_i (fun hc => ?_) (fun hc => ?_))
    · rw [e3, wn_le] at hc
      rw [show ((σ b 3).toInt - x2.toInt).toNat = 0 by omega]
      exact pk_s rfl
    · rw [e3, wn_le] at hc
      have hup : (x2 + 1).toInt = x2.toInt + 1 := wn_up h0 (by omega)
      have hm : ((σ b 3).toInt - x2.toInt).toNat = ((σ b 3).toInt - (x2 + 1).toInt).toNat + 1 := by omega
      have hr : x2.toInt.toNat + 1 = (x2 + 1).toInt.toNat := by omega
      rw [hm]
      show pk _ (fun r : Int32 × wc_S => r.1 = if x1 < σ (b + 1) x2.toInt.toNat then qC (σ (b + 1)) (σ (b + 2)) (σ (b + 3)) x1 ((σ b 3).toInt - (x2 + 1).toInt).toNat (x2.toInt.toNat + 1) else if σ (b + 2) x2.toInt.toNat < x1 then qC (σ (b + 1)) (σ (b + 2)) (σ (b + 3)) x1 ((σ b 3).toInt - (x2 + 1).toInt).toNat (x2.toInt.toNat + 1) else σ (b + 3) x2.toInt.toNat)
      rw [hr]
      have key := ih (x2 + 1) (by omega) (by omega)
      refine pk_g (fun _ => pk_e (fun v6 e6 => ?_))
      rw [wn_tn] at e6
      subst e6
      refine pk_i (fun h6 => ?_) (fun h6 => ?_)
      · rw [if_pos h6]; exact key
      · rw [if_neg h6]
        refine pk_g (fun _ => pk_e (fun v10 e10 => ?_))
        rw [wn_tn] at e10
        subst e10
        refine pk_i (fun h10 => ?_) (fun h10 => ?_)
        · rw [if_pos h10]; exact key
        · rw [if_neg h10]
          refine pk_g (fun _ => pk_e (fun v13 e13 => pk_s ?_))
          rw [wn_tn] at e13
          exact e13
theorem pq_J_costOf (b : Nat) (σ : wc_S) (x1 : Int32) (h0 : 0 ≤ (σ b 3).toInt) (h8 : (σ b 3).toInt ≤ 8) : pk (wf_J_costOf b x1 σ) (fun r => r.1 = qK (σ b 3) (σ (b + 1)) (σ (b + 2)) (σ (b + 3)) 0 x1 ∧ r.2 = σ) := by
  refine same_q (fun x e => wr_J_costOf b x1 σ x e) (fun _ _ h => h) ?_
  unfold wf_J_costOf qK
  refine pk_e (fun v1 e1 => ?_)
  subst e1
  refine pk_i (fun hc => ?_) (fun hc => ?_)
  · rw [if_pos hc]; exact pk_s rfl
  · rw [if_neg hc]
    have := pq_J_costOf_11 b σ x1 h8 16 0 (by rw [wn_0]; omega) (by rw [wn_0]; omega)
    rw [wn_0] at this
    simpa using this
/-- the size of a jump -/
def qA (v : Int32) : Int32 := if 0 ≤ v then v else 0 - v
def qJ (h t : Int32) : Int32 := if h = -1 then -1 else if t = -1 then -1 else h + t
def qh (σ : wc_S) (a b : Nat) : Int32 := qK (σ 18 3) (σ 19) (σ 20) (σ 21) 0 (qA (σ 4 a - σ 4 b))
def qt (σ : wc_S) (a b : Nat) : Int32 := qK (σ 22 3) (σ 23) (σ 24) (σ 25) 0 (qA (σ 3 a - σ 3 b))
def qj (σ : wc_S) (a b : Nat) : Int32 := qJ (qh σ a b) (qt σ a b)
theorem qj_eq {σ τ : wc_S} (h : ∀ k i, (k = 3 ∨ k = 4 ∨ (18 ≤ k ∧ k ≤ 25)) → τ k i = σ k i) (a b : Nat) : qj τ a b = qj σ a b := by
  have hf : ∀ k, (k = 3 ∨ k = 4 ∨ (18 ≤ k ∧ k ≤ 25)) → τ k = σ k := fun k hk => funext fun i => h k i hk
  unfold qj qh qt
  rw [hf 3 (by omega), hf 4 (by omega), hf 18 (by omega), hf 19 (by omega), hf 20 (by omega), hf 21 (by omega), hf 22 (by omega), hf 23 (by omega), hf 24 (by omega), hf 25 (by omega)]
theorem pq_P_reckonJump (σ : wc_S) (h18 : 0 ≤ (σ 18 3).toInt ∧ (σ 18 3).toInt ≤ 8) (h22 : 0 ≤ (σ 22 3).toInt ∧ (σ 22 3).toInt ≤ 8) (a1 a2 : Int32) : pk (wf_P_reckonJump a1 a2 σ) (fun r => r.1 = qj σ a1.toInt.toNat a2.toInt.toNat ∧ r.2 = σ) := by
  refine same_q (fun x e => wr_P_reckonJump a1 a2 σ x e) (fun _ _ h => h) ?_
  unfold wf_P_reckonJump
  refine pk_g (fun _ => pk_e (fun v2 e2 => pk_g (fun _ => pk_e (fun v4 e4 => pk_e (fun v5 e5 => pk_e (fun v6 e6 => ?_))))))
  refine pk_b2 (pq_J_costOf 18 σ v6 h18.1 h18.2) (fun r8 σ7 hq => ?_)
  obtain ⟨h8, h7⟩ := hq
  have h7 : σ7 = σ := h7
  have h8 : r8 = qh σ a1.toInt.toNat a2.toInt.toNat := by rw [wn_tn] at e2 e4; refine h8.trans ?_; rw [e6, e5, e4, e2]; rfl
  subst h7
  refine pk_g (fun _ => pk_e (fun v10 e10 => pk_g (fun _ => pk_e (fun v12 e12 => pk_e (fun v13 e13 => pk_e (fun v14 e14 => ?_))))))
  refine pk_b2 (pq_J_costOf 22 σ7 v14 h22.1 h22.2) (fun r16 σ15 hq => ?_)
  obtain ⟨h16, h15⟩ := hq
  have h16 : r16 = qt σ7 a1.toInt.toNat a2.toInt.toNat := by rw [wn_tn] at e10 e12; refine h16.trans ?_; rw [e14, e13, e12, e10]; rfl
  unfold qj qJ
  rw [← h8, ← h16]
  refine pk_i (fun hc => ?_) (fun hc => ?_)
  · rw [if_pos hc]; exact pk_s rfl
  · rw [if_neg hc]
    refine pk_i (fun hc2 => ?_) (fun hc2 => ?_)
    · rw [if_pos hc2]; exact pk_s rfl
    · rw [if_neg hc2]; exact pk_e (fun v19 e19 => pk_s e19)
/-- of the jumps those ahead of row x1, place x2 are reckoned -/
def qI (σ0 : wc_S) (x1 x2 : Int) (τ : wc_S) : Prop := (∀ k i, k < 9 ∨ 17 < k → τ k i = σ0 k i) ∧ ∀ a b : Nat, (b : Int) < (σ0 1 10).toInt → ((a : Int) < x1 ∨ ((a : Int) = x1 ∧ (b : Int) < x2)) → τ (9 + a) b = qj σ0 a b
theorem pq_rj12 {σ0 : wc_S} (h18 : 0 ≤ (σ0 18 3).toInt ∧ (σ0 18 3).toInt ≤ 8) (h22 : 0 ≤ (σ0 22 3).toInt ∧ (σ0 22 3).toInt ≤ 8) (h9 : (σ0 1 10).toInt ≤ 9) {P : wc_S → Prop} {k2 : Int32 → wc_S → Option wc_S} (x1 : Int32) (q1 : 0 ≤ x1.toInt) (q2 : x1.toInt < (σ0 1 10).toInt) (hk : ∀ v τ, v.toInt = x1.toInt + 1 → qI σ0 v.toInt 0 τ → pk (k2 v τ) P) : ∀ (n : Nat) (x2 : Int32) (σ : wc_S), qI σ0 x1.toInt x2.toInt σ → 0 ≤ x2.toInt → x2.toInt ≤ (σ0 1 10).toInt → pk (wf_P_reckonJumps_12 k2 n x1 x2 σ) P := by
  intro n
  induction n with
  | zero => intro x2 σ _ _ _; exact pk_n
  | succ n ih =>
    intro x2 σ hI h0 h1
    show pk (wf_P_reckonJumps_12_b k2 (wf_P_reckonJumps_12 k2 n) x1 x2 σ) P
    unfold wf_P_reckonJumps_12_b
    refine pk_e (fun v3 e3 => ?_)
    rw [hI.1 1 10 (by omega)] at e3
    refine pk_i (fun hc => pk_e (fun v5 e5 => ?_)) (fun hc => ?_)
    · rw [e3, wn_le] at hc
      have e5' : v5.toInt = x1.toInt + 1 := by rw [e5]; exact wn_up q1 (by omega)
      refine hk v5 σ e5' ⟨hI.1, fun a b hb hab => hI.2 a b hb ?_⟩
      omega
    · rw [e3, wn_le] at hc
      have f18 : σ 18 3 = σ0 18 3 := hI.1 18 3 (by omega)
      have f22 : σ 22 3 = σ0 22 3 := hI.1 22 3 (by omega)
      refine pk_g (fun _ => ?_)
      refine pk_b2 (pq_P_reckonJump σ (by rw [f18]; exact h18) (by rw [f22]; exact h22) x1 x2) (fun r8 σ7 hq => ?_)
      obtain ⟨h8, h7⟩ := hq
      have h7 : σ7 = σ := h7
      have h8 : r8 = qj σ0 x1.toInt.toNat x2.toInt.toNat := by
        rw [← qj_eq (σ := σ0) (τ := σ) (fun k i hk => hI.1 k i (by omega))]; exact h8
      refine pk_g (fun _ => pk_e (fun σ10 e10 => pk_e (fun v11 e11 => ?_)))
      have hup : v11.toInt = x2.toInt + 1 := by rw [e11]; exact wn_up h0 (by omega)
      refine ih v11 σ10 ⟨fun k i hk => ?_, fun a b hb hab => ?_⟩ (by omega) (by omega)
      · rw [e10, wu_other (Or.inl (by rw [wn_tn]; omega)), h7]
        exact hI.1 k i hk
      · by_cases hh : a = x1.toInt.toNat ∧ b = x2.toInt.toNat
        · rw [e10, h8, wn_tn, wn_tn, hh.1, hh.2, wu_same]
        · rw [e10, wu_other (by rw [wn_tn, wn_tn]; omega), h7]
          exact hI.2 a b hb (by omega)
theorem pq_rj2 {σ0 : wc_S} (h18 : 0 ≤ (σ0 18 3).toInt ∧ (σ0 18 3).toInt ≤ 8) (h22 : 0 ≤ (σ0 22 3).toInt ∧ (σ0 22 3).toInt ≤ 8) (h9 : (σ0 1 10).toInt ≤ 9) : ∀ (n : Nat) (x1 : Int32) (σ : wc_S), qI σ0 x1.toInt 0 σ → 0 ≤ x1.toInt → x1.toInt ≤ (σ0 1 10).toInt → pk (wf_P_reckonJumps_2 n x1 σ) (qI σ0 (σ0 1 10).toInt 0) := by
  intro n
  induction n with
  | zero => intro x1 σ _ _ _; exact pk_n
  | succ n ih =>
    intro x1 σ hI h0 h1
    show pk (wf_P_reckonJumps_2_b (wf_P_reckonJumps_2 n) x1 σ) _
    unfold wf_P_reckonJumps_2_b
    refine pk_e (fun v1 e1 => ?_)
    rw [hI.1 1 10 (by omega)] at e1
    refine pk_i (fun hc => pk_s ?_) (fun hc => ?_)
    · rw [e1, wn_le] at hc
      rw [show (σ0 1 10).toInt = x1.toInt by omega]
      exact hI
    · rw [e1, wn_le] at hc
      refine pq_rj12 h18 h22 h9 x1 h0 (by omega) (fun v τ hv hτ => ih v τ hτ (by omega) (by omega)) 16 0 σ hI (by rw [wn_0]; omega) (by rw [wn_0]; omega)
/-- all jumps of the class are what its rows and coils say -/
def qP (σ : wc_S) : Prop := ∀ a b : Nat, a ≤ 8 → (a : Int) < (σ 1 10).toInt → (b : Int) < (σ 1 10).toInt → σ (9 + a) b = qj σ a b
theorem pq_reckonJumps {σ : wc_S} (h18 : 0 ≤ (σ 18 3).toInt ∧ (σ 18 3).toInt ≤ 8) (h22 : 0 ≤ (σ 22 3).toInt ∧ (σ 22 3).toInt ≤ 8) (hn : 0 ≤ (σ 1 10).toInt ∧ (σ 1 10).toInt ≤ 9) : pk (wf_P_reckonJumps σ) (fun τ => (∀ k i, k < 9 ∨ 17 < k → τ k i = σ k i) ∧ qP τ) := by
  unfold wf_P_reckonJumps
  refine pk_mono (pq_rj2 h18 h22 hn.2 16 0 σ ⟨fun _ _ _ => rfl, fun a b hb hab => ?_⟩ (by rw [wn_0]; omega) (by rw [wn_0]; omega)) (fun τ hτ => ⟨hτ.1, fun a b _ ha hb => ?_⟩)
  · rw [wn_0] at hab; omega
  · rw [hτ.1 1 10 (by omega)] at ha hb
    rw [hτ.2 a b hb (Or.inl ha)]
    exact (qj_eq (fun k i hk => hτ.1 k i (by omega)) a b).symm
