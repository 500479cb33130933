/-! what holds of a value, if one comes -/
def pk {α : Type} (o : Option α) (P : α → Prop) : Prop := ∀ x, o = some x → P x
theorem pk_s {α : Type} {x : α} {P : α → Prop} (h : P x) : pk (some x) P := fun y e => by cases e; exact h
theorem pk_n {α : Type} {P : α → Prop} : pk (none : Option α) P := fun y e => by cases e
theorem pk_e {α γ : Type} {x : γ} {f : γ → Option α} {P : α → Prop} (h : ∀ v, v = x → pk (f v) P) : pk (wc_st x f) P := h x rfl
theorem pk_g {α : Type} {c : Bool} {k : Option α} {P : α → Prop} (h : c = true → pk k P) : pk (wc_gd c k) P := by
  cases c with
  | false => exact fun y e => by cases e
  | true => exact h rfl
theorem pk_i {α : Type} {c : Prop} {i : Decidable c} {a b : Option α} {P : α → Prop} (h1 : c → pk a P) (h2 : ¬ c → pk b P) : pk (@ite _ c i a b) P := by
  by_cases h : c
  · rw [if_pos h]; exact h1 h
  · rw [if_neg h]; exact h2 h
theorem pk_b1 {β : Type} {o : Option wc_S} {f : wc_S → Option β} {P : β → Prop} {Q : wc_S → Prop} (h : pk o Q) (h2 : ∀ u, Q u → pk (f u) P) : pk (wc_b1 o f) P := by
  cases o with
  | none => exact fun y e => by cases e
  | some x => exact h2 x (h x rfl)
theorem pk_b2 {β : Type} {o : Option (Int32 × wc_S)} {f : Int32 → wc_S → Option β} {P : β → Prop} {Q : Int32 × wc_S → Prop} (h : pk o Q) (h2 : ∀ r u, Q (r, u) → pk (f r u) P) : pk (wc_b2 o f) P := by
  cases o with
  | none => exact fun y e => by cases e
  | some x => exact h2 x.1 x.2 (h x rfl)
theorem pk_cti {β : Type} {o : Option (wc_X (Int32 × wc_S))} {x : Nat → wc_S → Option β} {f : Int32 → wc_S → Option β} {P : β → Prop} {Q : wc_X (Int32 × wc_S) → Prop} (h : pk o Q) (hl : ∀ k u, Q (.inl (k, u)) → pk (x k u) P) (hr : ∀ r u, Q (.inr (r, u)) → pk (f r u) P) : pk (wc_cti o x f) P := by
  cases o with
  | none => exact fun y e => by cases e
  | some q => cases q with
    | inl u => exact hl u.1 u.2 (h _ rfl)
    | inr u => exact hr u.1 u.2 (h _ rfl)
theorem pk_ctv {β : Type} {o : Option (wc_X wc_S)} {x : Nat → wc_S → Option β} {f : wc_S → Option β} {P : β → Prop} {Q : wc_X wc_S → Prop} (h : pk o Q) (hl : ∀ k u, Q (.inl (k, u)) → pk (x k u) P) (hr : ∀ u, Q (.inr u) → pk (f u) P) : pk (wc_ctv o x f) P := by
  cases o with
  | none => exact fun y e => by cases e
  | some q => cases q with
    | inl u => exact hl u.1 u.2 (h _ rfl)
    | inr u => exact hr u (h _ rfl)
theorem wk_pk {α : Type} {o : Option α} {P Q : α → Prop} (h : wk o P) (h2 : pk o Q) : wk o (fun x => P x ∧ Q x) := by
  obtain ⟨x, e, hp⟩ := h
  exact ⟨x, e, hp, h2 x e⟩
theorem pk_mono {α : Type} {o : Option α} {P Q : α → Prop} (h : pk o P) (h2 : ∀ x, P x → Q x) : pk o Q := fun x e => h2 x (h x e)
/-! counts of class and model, as the calls that change them leave them -/
theorem pk_reckonJumps {σ : wc_S} : pk (wf_P_reckonJumps σ) (fun τ => ∀ k i, k < 9 ∨ 17 < k → τ k i = σ k i) := fun x e k i hk => wr_P_reckonJumps σ x e k i (fun q => by unfold wS_P_reckonJumps at q; omega)
theorem pk_forget {σ : wc_S} : pk (wf_W_forgetOrder σ) (fun τ => ∀ k i, k ≠ 0 → τ k i = σ k i) := fun x e k i hk => wr_W_forgetOrder σ x e k i (fun q => by unfold wS_W_forgetOrder at q; omega)
theorem pk_gone {σ : wc_S} : pk (wf_M_gone σ) (fun τ => ∀ k i, k ≠ 71 ∨ (i ≠ 20 ∧ i ≠ 22) → τ k i = σ k i) := fun x e k i hk => wr_M_gone σ x e k i (fun q => by unfold wS_M_gone at q; omega)
theorem pk_addCoil {a1 a2 a3 a4 : Int32} {σ : wc_S} : pk (wf_P_addCoil a1 a2 a3 a4 σ) (fun r => r.1 = σ 1 10 ∧ r.2 1 10 = σ 1 10 + 1) := by
  unfold wf_P_addCoil
  refine pk_e (fun v1 e1 => ?_)
  refine pk_g (fun _ => pk_e (fun σ3 e3 => pk_g (fun _ => pk_e (fun σ5 e5 => pk_g (fun _ => pk_e (fun σ7 e7 => pk_g (fun _ => pk_e (fun σ9 e9 => pk_g (fun _ => pk_e (fun σ11 e11 => pk_g (fun _ => pk_e (fun σ13 e13 => ?_))))))))))))
  refine pk_e (fun v14 e14 => ?_)
  refine pk_e (fun v15 e15 => ?_)
  refine pk_e (fun σ16 e16 => ?_)
  refine pk_b1 pk_reckonJumps (fun u hu => ?_)
  refine pk_s ⟨e1, ?_⟩
  show u 1 10 = _
  rw [hu 1 10 (by omega), e16, wu_same, e15, e14, e13, wu_other (Or.inl (by decide)), e11, wu_other (Or.inl (by decide)), e9, wu_other (Or.inl (by decide)), e7, wu_other (Or.inl (by decide)), e5, wu_other (Or.inl (by decide)), e3, wu_other (Or.inl (by decide))]
theorem b2s {β : Type} {r : Int32} {σ : wc_S} {f : Int32 → wc_S → Option β} : wc_b2 (some (r, σ)) f = f r σ := rfl
theorem b1s {β : Type} {σ : wc_S} {f : wc_S → Option β} : wc_b1 (some σ) f = f σ := rfl
/-! costs of jumps: class and model as one function of the rows -/
theorem same_q {o : Option (Int32 × wc_S)} {σ : wc_S} {P : Int32 × wc_S → Prop} {S : Nat → Nat → Prop} (hw : ∀ x, o = some x → wr_q S σ x.2) (hs : ∀ k i, ¬ S k i) (h : pk o P) : pk o (fun r => P r ∧ r.2 = σ) := fun x e => ⟨h x e, wr_same (hw x e) hs⟩
theorem qn_up {x : Int32} {m : Int} (h : x.toInt < m) (hm : m ≤ 1000000) (h0 : 0 ≤ x.toInt) : (x + 1).toInt = x.toInt + 1 := wn_up h0 (by omega)
/-- the first of m rows, from r on, that holds x: its cost, or -1 -/
def qC (f t c : Nat → Int32) (x : Int32) : Nat → Nat → Int32
  | 0, _ => -1
  | m + 1, r => if x < f r then qC f t c x m (r + 1) else if t r < x then qC f t c x m (r + 1) else c r
theorem qC_eq {f t c f' t' c' : Nat → Int32} {x : Int32} : ∀ (m r r' : Nat), (∀ j, j < m → f (r + j) = f' (r' + j) ∧ t (r + j) = t' (r' + j) ∧ c (r + j) = c' (r' + j)) → qC f t c x m r = qC f' t' c' x m r' := by
  intro m
  induction m with
  | zero => intro r r' _; rfl
  | succ m ih =>
    intro r r' h
    have h0 := h 0 (by omega)
    have hs := ih (r + 1) (r' + 1) (fun j hj => by
      have := h (j + 1) (by omega)
      rw [show r + 1 + j = r + (j + 1) by omega, show r' + 1 + j = r' + (j + 1) by omega]
      exact this)
    simp only [Nat.add_zero] at h0
    show (if x < f r then qC f t c x m (r + 1) else if t r < x then qC f t c x m (r + 1) else c r) = (if x < f' r' then qC f' t' c' x m (r' + 1) else if t' r' < x then qC f' t' c' x m (r' + 1) else c' r')
    rw [h0.1, h0.2.1, h0.2.2, hs]
theorem qC_pos {f t c : Nat → Int32} {x : Int32} : ∀ (m r : Nat), (∀ j, j < m → 0 ≤ (c (r + j)).toInt ∧ (c (r + j)).toInt ≤ 10000) → qC f t c x m r = -1 ∨ (0 ≤ (qC f t c x m r).toInt ∧ (qC f t c x m r).toInt ≤ 10000) := by
  intro m
  induction m with
  | zero => intro r _; exact Or.inl rfl
  | succ m ih =>
    intro r h
    have hs := ih (r + 1) (fun j hj => by
      rw [show r + 1 + j = r + (j + 1) by omega]
      exact h (j + 1) (by omega))
    show (if x < f r then qC f t c x m (r + 1) else if t r < x then qC f t c x m (r + 1) else c r) = -1 ∨ (0 ≤ (if x < f r then qC f t c x m (r + 1) else if t r < x then qC f t c x m (r + 1) else c r).toInt ∧ (if x < f r then qC f t c x m (r + 1) else if t r < x then qC f t c x m (r + 1) else c r).toInt ≤ 10000)
    split
    · exact hs
    · split
      · exact hs
      · exact Or.inr (h 0 (by omega))
/-- with no row at all every jump costs 0 -/
def qK (n : Int32) (f t c : Nat → Int32) (b : Nat) (x : Int32) : Int32 := if n = 0 then 0 else qC f t c x n.toInt.toNat b
theorem pq_J_costOf_11 (b : Nat) (σ : wc_S) (x1 : Int32) (h8 : (σ b 3).toInt ≤ 8) : ∀ (n : Nat) (x2 : Int32), 0 ≤ x2.toInt → x2.toInt ≤ (σ b 3).toInt → pk (wf_J_costOf_11 b n x1 x2 σ) (fun r => r.1 = qC (σ (b + 1)) (σ (b + 2)) (σ (b + 3)) x1 ((σ b 3).toInt - x2.toInt).toNat x2.toInt.toNat) := by
  intro n
  induction n with
  | zero => intro x2 h0 h1; exact pk_n
  | succ n ih =>
    intro x2 h0 h1
    show pk (wf_J_costOf_11_b b (wf_J_costOf_11 b n) x1 x2 σ) _
    unfold wf_J_costOf_11_b
    refine pk_e (fun v3 e3 => pk_i (fun hc => ?_) (fun hc => ?_))
    · rw [e3, wn_le] at hc
      rw [show ((σ b 3).toInt - x2.toInt).toNat = 0 by omega]
      exact pk_s rfl
    · rw [e3, wn_le] at hc
      have hup : (x2 + 1).toInt = x2.toInt + 1 := wn_up h0 (by omega)
      have hm : ((σ b 3).toInt - x2.toInt).toNat = ((σ b 3).toInt - (x2 + 1).toInt).toNat + 1 := by omega
      have hr : x2.toInt.toNat + 1 = (x2 + 1).toInt.toNat := by omega
      rw [hm]
      show pk _ (fun r : Int32 × wc_S => r.1 = if x1 < σ (b + 1) x2.toInt.toNat then qC (σ (b + 1)) (σ (b + 2)) (σ (b + 3)) x1 ((σ b 3).toInt - (x2 + 1).toInt).toNat (x2.toInt.toNat + 1) else if σ (b + 2) x2.toInt.toNat < x1 then qC (σ (b + 1)) (σ (b + 2)) (σ (b + 3)) x1 ((σ b 3).toInt - (x2 + 1).toInt).toNat (x2.toInt.toNat + 1) else σ (b + 3) x2.toInt.toNat)
      rw [hr]
      have key := ih (x2 + 1) (by omega) (by omega)
      refine pk_g (fun _ => pk_e (fun v6 e6 => ?_))
      rw [wn_tn] at e6
      subst e6
      refine pk_i (fun h6 => ?_) (fun h6 => ?_)
      · rw [if_pos h6]; exact key
      · rw [if_neg h6]
        refine pk_g (fun _ => pk_e (fun v10 e10 => ?_))
        rw [wn_tn] at e10
        subst e10
        refine pk_i (fun h10 => ?_) (fun h10 => ?_)
        · rw [if_pos h10]; exact key
        · rw [if_neg h10]
          refine pk_g (fun _ => pk_e (fun v13 e13 => pk_s ?_))
          rw [wn_tn] at e13
          exact e13
theorem pq_J_costOf (b : Nat) (σ : wc_S) (x1 : Int32) (h0 : 0 ≤ (σ b 3).toInt) (h8 : (σ b 3).toInt ≤ 8) : pk (wf_J_costOf b x1 σ) (fun r => r.1 = qK (σ b 3) (σ (b + 1)) (σ (b + 2)) (σ (b + 3)) 0 x1 ∧ r.2 = σ) := by
  refine same_q (fun x e => wr_J_costOf b x1 σ x e) (fun _ _ h => h) ?_
  unfold wf_J_costOf qK
  refine pk_e (fun v1 e1 => ?_)
  subst e1
  refine pk_i (fun hc => ?_) (fun hc => ?_)
  · rw [if_pos hc]; exact pk_s rfl
  · rw [if_neg hc]
    have := pq_J_costOf_11 b σ x1 h8 16 0 (by rw [wn_0]; omega) (by rw [wn_0]; omega)
    rw [wn_0] at this
    simpa using this
/-- the size of a jump -/
def qA (v : Int32) : Int32 := if 0 ≤ v then v else 0 - v
def qJ (h t : Int32) : Int32 := if h = -1 then -1 else if t = -1 then -1 else h + t
def qh (σ : wc_S) (a b : Nat) : Int32 := qK (σ 18 3) (σ 19) (σ 20) (σ 21) 0 (qA (σ 4 a - σ 4 b))
def qt (σ : wc_S) (a b : Nat) : Int32 := qK (σ 22 3) (σ 23) (σ 24) (σ 25) 0 (qA (σ 3 a - σ 3 b))
def qj (σ : wc_S) (a b : Nat) : Int32 := qJ (qh σ a b) (qt σ a b)
theorem qj_eq {σ τ : wc_S} (h : ∀ k i, (k = 3 ∨ k = 4 ∨ (18 ≤ k ∧ k ≤ 25)) → τ k i = σ k i) (a b : Nat) : qj τ a b = qj σ a b := by
  have hf : ∀ k, (k = 3 ∨ k = 4 ∨ (18 ≤ k ∧ k ≤ 25)) → τ k = σ k := fun k hk => funext fun i => h k i hk
  unfold qj qh qt
  rw [hf 3 (by omega), hf 4 (by omega), hf 18 (by omega), hf 19 (by omega), hf 20 (by omega), hf 21 (by omega), hf 22 (by omega), hf 23 (by omega), hf 24 (by omega), hf 25 (by omega)]
theorem pq_P_reckonJump (σ : wc_S) (h18 : 0 ≤ (σ 18 3).toInt ∧ (σ 18 3).toInt ≤ 8) (h22 : 0 ≤ (σ 22 3).toInt ∧ (σ 22 3).toInt ≤ 8) (a1 a2 : Int32) : pk (wf_P_reckonJump a1 a2 σ) (fun r => r.1 = qj σ a1.toInt.toNat a2.toInt.toNat ∧ r.2 = σ) := by
  refine same_q (fun x e => wr_P_reckonJump a1 a2 σ x e) (fun _ _ h => h) ?_
  unfold wf_P_reckonJump
  refine pk_g (fun _ => pk_e (fun v2 e2 => pk_g (fun _ => pk_e (fun v4 e4 => pk_e (fun v5 e5 => pk_e (fun v6 e6 => ?_))))))
  refine pk_b2 (pq_J_costOf 18 σ v6 h18.1 h18.2) (fun r8 σ7 hq => ?_)
  obtain ⟨h8, h7⟩ := hq
  have h7 : σ7 = σ := h7
  have h8 : r8 = qh σ a1.toInt.toNat a2.toInt.toNat := by rw [wn_tn] at e2 e4; refine h8.trans ?_; rw [e6, e5, e4, e2]; rfl
  subst h7
  refine pk_g (fun _ => pk_e (fun v10 e10 => pk_g (fun _ => pk_e (fun v12 e12 => pk_e (fun v13 e13 => pk_e (fun v14 e14 => ?_))))))
  refine pk_b2 (pq_J_costOf 22 σ7 v14 h22.1 h22.2) (fun r16 σ15 hq => ?_)
  obtain ⟨h16, h15⟩ := hq
  have h16 : r16 = qt σ7 a1.toInt.toNat a2.toInt.toNat := by rw [wn_tn] at e10 e12; refine h16.trans ?_; rw [e14, e13, e12, e10]; rfl
  unfold qj qJ
  rw [← h8, ← h16]
  refine pk_i (fun hc => ?_) (fun hc => ?_)
  · rw [if_pos hc]; exact pk_s rfl
  · rw [if_neg hc]
    refine pk_i (fun hc2 => ?_) (fun hc2 => ?_)
    · rw [if_pos hc2]; exact pk_s rfl
    · rw [if_neg hc2]; exact pk_e (fun v19 e19 => pk_s e19)
/-- of the jumps those ahead of row x1, place x2 are reckoned -/
def qI (σ0 : wc_S) (x1 x2 : Int) (τ : wc_S) : Prop := (∀ k i, k < 9 ∨ 17 < k → τ k i = σ0 k i) ∧ ∀ a b : Nat, (b : Int) < (σ0 1 10).toInt → ((a : Int) < x1 ∨ ((a : Int) = x1 ∧ (b : Int) < x2)) → τ (9 + a) b = qj σ0 a b
theorem pq_rj12 {σ0 : wc_S} (h18 : 0 ≤ (σ0 18 3).toInt ∧ (σ0 18 3).toInt ≤ 8) (h22 : 0 ≤ (σ0 22 3).toInt ∧ (σ0 22 3).toInt ≤ 8) (h9 : (σ0 1 10).toInt ≤ 9) {P : wc_S → Prop} {k2 : Int32 → wc_S → Option wc_S} (x1 : Int32) (q1 : 0 ≤ x1.toInt) (q2 : x1.toInt < (σ0 1 10).toInt) (hk : ∀ v τ, v.toInt = x1.toInt + 1 → qI σ0 v.toInt 0 τ → pk (k2 v τ) P) : ∀ (n : Nat) (x2 : Int32) (σ : wc_S), qI σ0 x1.toInt x2.toInt σ → 0 ≤ x2.toInt → x2.toInt ≤ (σ0 1 10).toInt → pk (wf_P_reckonJumps_12 k2 n x1 x2 σ) P := by
  intro n
  induction n with
  | zero => intro x2 σ _ _ _; exact pk_n
  | succ n ih =>
    intro x2 σ hI h0 h1
    show pk (wf_P_reckonJumps_12_b k2 (wf_P_reckonJumps_12 k2 n) x1 x2 σ) P
    unfold wf_P_reckonJumps_12_b
    refine pk_e (fun v3 e3 => ?_)
    rw [hI.1 1 10 (by omega)] at e3
    refine pk_i (fun hc => pk_e (fun v5 e5 => ?_)) (fun hc => ?_)
    · rw [e3, wn_le] at hc
      have e5' : v5.toInt = x1.toInt + 1 := by rw [e5]; exact wn_up q1 (by omega)
      refine hk v5 σ e5' ⟨hI.1, fun a b hb hab => hI.2 a b hb ?_⟩
      omega
    · rw [e3, wn_le] at hc
      have f18 : σ 18 3 = σ0 18 3 := hI.1 18 3 (by omega)
      have f22 : σ 22 3 = σ0 22 3 := hI.1 22 3 (by omega)
      refine pk_g (fun _ => ?_)
      refine pk_b2 (pq_P_reckonJump σ (by rw [f18]; exact h18) (by rw [f22]; exact h22) x1 x2) (fun r8 σ7 hq => ?_)
      obtain ⟨h8, h7⟩ := hq
      have h7 : σ7 = σ := h7
      have h8 : r8 = qj σ0 x1.toInt.toNat x2.toInt.toNat := by
        rw [← qj_eq (σ := σ0) (τ := σ) (fun k i hk => hI.1 k i (by omega))]; exact h8
      refine pk_g (fun _ => pk_e (fun σ10 e10 => pk_e (fun v11 e11 => ?_)))
      have hup : v11.toInt = x2.toInt + 1 := by rw [e11]; exact wn_up h0 (by omega)
      refine ih v11 σ10 ⟨fun k i hk => ?_, fun a b hb hab => ?_⟩ (by omega) (by omega)
      · rw [e10, wu_other (Or.inl (by rw [wn_tn]; omega)), h7]
        exact hI.1 k i hk
      · by_cases hh : a = x1.toInt.toNat ∧ b = x2.toInt.toNat
        · rw [e10, h8, wn_tn, wn_tn, hh.1, hh.2, wu_same]
        · rw [e10, wu_other (by rw [wn_tn, wn_tn]; omega), h7]
          exact hI.2 a b hb (by omega)
theorem pq_rj2 {σ0 : wc_S} (h18 : 0 ≤ (σ0 18 3).toInt ∧ (σ0 18 3).toInt ≤ 8) (h22 : 0 ≤ (σ0 22 3).toInt ∧ (σ0 22 3).toInt ≤ 8) (h9 : (σ0 1 10).toInt ≤ 9) : ∀ (n : Nat) (x1 : Int32) (σ : wc_S), qI σ0 x1.toInt 0 σ → 0 ≤ x1.toInt → x1.toInt ≤ (σ0 1 10).toInt → pk (wf_P_reckonJumps_2 n x1 σ) (qI σ0 (σ0 1 10).toInt 0) := by
  intro n
  induction n with
  | zero => intro x1 σ _ _ _; exact pk_n
  | succ n ih =>
    intro x1 σ hI h0 h1
    show pk (wf_P_reckonJumps_2_b (wf_P_reckonJumps_2 n) x1 σ) _
    unfold wf_P_reckonJumps_2_b
    refine pk_e (fun v1 e1 => ?_)
    rw [hI.1 1 10 (by omega)] at e1
    refine pk_i (fun hc => pk_s ?_) (fun hc => ?_)
    · rw [e1, wn_le] at hc
      rw [show (σ0 1 10).toInt = x1.toInt by omega]
      exact hI
    · rw [e1, wn_le] at hc
      refine pq_rj12 h18 h22 h9 x1 h0 (by omega) (fun v τ hv hτ => ih v τ hτ (by omega) (by omega)) 16 0 σ hI (by rw [wn_0]; omega) (by rw [wn_0]; omega)
/-- all jumps of the class are what its rows and coils say -/
def qP (σ : wc_S) : Prop := ∀ a b : Nat, a ≤ 8 → (a : Int) < (σ 1 10).toInt → (b : Int) < (σ 1 10).toInt → σ (9 + a) b = qj σ a b
theorem pq_reckonJumps {σ : wc_S} (h18 : 0 ≤ (σ 18 3).toInt ∧ (σ 18 3).toInt ≤ 8) (h22 : 0 ≤ (σ 22 3).toInt ∧ (σ 22 3).toInt ≤ 8) (hn : 0 ≤ (σ 1 10).toInt ∧ (σ 1 10).toInt ≤ 9) : pk (wf_P_reckonJumps σ) (fun τ => (∀ k i, k < 9 ∨ 17 < k → τ k i = σ k i) ∧ qP τ) := by
  unfold wf_P_reckonJumps
  refine pk_mono (pq_rj2 h18 h22 hn.2 16 0 σ ⟨fun _ _ _ => rfl, fun a b hb hab => ?_⟩ (by rw [wn_0]; omega) (by rw [wn_0]; omega)) (fun τ hτ => ⟨hτ.1, fun a b _ ha hb => ?_⟩)
  · rw [wn_0] at hab; omega
  · rw [hτ.1 1 10 (by omega)] at ha hb
    rw [hτ.2 a b hb (Or.inl ha)]
    exact (qj_eq (fun k i hk => hτ.1 k i (by omega)) a b).symm
/-! the model's jumps are the class's, where class and model are tied -/
theorem wu_at {σ : wc_S} {k i : Nat} {x : Int32} {k' i' : Nat} : wc_u σ k i x k' i' = if k' = k ∧ i' = i then x else σ k' i' := by
  by_cases h : k' = k ∧ i' = i
  · rw [if_pos h, h.1, h.2]; exact wu_same
  · rw [if_neg h]; exact wu_other (by omega)
theorem e_goes (a1 a2 a3 : Int32) (σ : wc_S) : wf_M_goes a1 a2 a3 σ = if a1 = 0 then some (0, wc_u σ 71 0 1) else if a2 = 0 then some (0, wc_u σ 71 0 2) else if a3 = 0 then some (0, wc_u σ 71 0 3) else some (1, wc_u σ 71 0 0) := by
  unfold wf_M_goes
  rw [e_goes26, e_goes26, e_goes26, e_goes26]
  rfl
def qB (v : Int32) : Int32 := if 0 ≤ v then v else -v
theorem qn_neg {v : Int32} : (-v).toInt = (-v.toInt).bmod 4294967296 := Int32.toInt_neg v
theorem qA_qB (a b : Int32) : qB (b - a) = qA (a - b) := by
  have e : b - a = -(a - b) := (Int32.neg_sub).symm
  rw [e]
  generalize a - b = v
  have e0 : (0 : Int32) - v = -v := Int32.zero_sub v
  have hl := Int32.le_toInt v
  have hu := Int32.toInt_lt v
  have hn := qn_neg (v := v)
  have z : (0 : Int32).toInt = 0 := rfl
  unfold qA qB
  rw [e0, Int32.neg_neg]
  by_cases h1 : 0 ≤ v
  · rw [if_pos h1]
    by_cases h2 : 0 ≤ -v
    · rw [if_pos h2]
      rw [wn_le, z] at h1 h2
      rw [wn_eq]
      have : (-v.toInt).bmod 4294967296 = -v.toInt := Int.bmod_eq_of_le (by omega) (by omega)
      omega
    · rw [if_neg h2]
  · rw [if_neg h1]
    by_cases h2 : 0 ≤ -v
    · rw [if_pos h2]
    · rw [if_neg h2]
      rw [wn_le, z] at h1 h2
      by_cases h3 : v.toInt = -2147483648
      · have : v = -2147483648 := wn_eq.2 h3
        subst this; decide
      · have : (-v.toInt).bmod 4294967296 = -v.toInt := Int.bmod_eq_of_le (by omega) (by omega)
        omega
theorem pq_M_costOf_17 (σ : wc_S) (x1 : Int32) (hx : x1 = 0 ∨ x1 = 1) (x3 : Int32) (h0 : 0 ≤ (σ 78 x1.toInt.toNat).toInt) (h8 : (σ 78 x1.toInt.toNat).toInt ≤ 8) : ∀ (n : Nat) (x4 : Int32), 8 * x1.toInt ≤ x4.toInt → x4.toInt ≤ 8 * x1.toInt + (σ 78 x1.toInt.toNat).toInt → pk (wf_M_costOf_17 n x1 x3 x4 σ) (fun r => r.1 = if σ 78 x1.toInt.toNat = 0 then 0 else qC (σ 79) (σ 80) (σ 81) x3 (8 * x1.toInt + (σ 78 x1.toInt.toNat).toInt - x4.toInt).toNat x4.toInt.toNat) := by
  have hx' : 0 ≤ x1.toInt ∧ x1.toInt ≤ 1 := by rcases hx with rfl | rfl <;> decide
  have h8x := wn_m8 hx'.1 hx'.2
  intro n
  induction n with
  | zero => intro x4 _ _; exact pk_n
  | succ n ih =>
    intro x4 g0 g1
    show pk (wf_M_costOf_17_b (wf_M_costOf_17 n) x1 x3 x4 σ) _
    unfold wf_M_costOf_17_b
    refine pk_e (fun v3 e3 => pk_g (fun _ => pk_e (fun v5 e5 => pk_e (fun v6 e6 => ?_))))
    rw [wn_tn] at e5
    have h6 : v6.toInt = 8 * x1.toInt + (σ 78 x1.toInt.toNat).toInt := by rw [e6, e3, e5, wn_add (by omega) (by omega), h8x]
    refine pk_i (fun hc => ?_) (fun hc => ?_)
    · rw [wn_le] at hc
      rw [show (8 * x1.toInt + (σ 78 x1.toInt.toNat).toInt - x4.toInt).toNat = 0 by omega]
      refine pk_g (fun _ => pk_e (fun v9 e9 => ?_))
      rw [wn_tn] at e9
      subst e9
      refine pk_i (fun hz => ?_) (fun hz => ?_)
      · rw [if_pos hz]; exact pk_s rfl
      · rw [if_neg hz]; exact pk_s rfl
    · rw [wn_le] at hc
      have hz : ¬ σ 78 x1.toInt.toNat = 0 := by
        intro hz
        rw [wn_eq, wn_0] at hz
        omega
      have hup : (x4 + 1).toInt = x4.toInt + 1 := wn_up (by omega) (by omega)
      have hm : (8 * x1.toInt + (σ 78 x1.toInt.toNat).toInt - x4.toInt).toNat = (8 * x1.toInt + (σ 78 x1.toInt.toNat).toInt - (x4 + 1).toInt).toNat + 1 := by omega
      have hr : x4.toInt.toNat + 1 = (x4 + 1).toInt.toNat := by omega
      have key := ih (x4 + 1) (by omega) (by omega)
      rw [if_neg hz] at key ⊢
      rw [hm]
      show pk _ (fun r : Int32 × wc_S => r.1 = if x3 < σ 79 x4.toInt.toNat then qC (σ 79) (σ 80) (σ 81) x3 (8 * x1.toInt + (σ 78 x1.toInt.toNat).toInt - (x4 + 1).toInt).toNat (x4.toInt.toNat + 1) else if σ 80 x4.toInt.toNat < x3 then qC (σ 79) (σ 80) (σ 81) x3 (8 * x1.toInt + (σ 78 x1.toInt.toNat).toInt - (x4 + 1).toInt).toNat (x4.toInt.toNat + 1) else σ 81 x4.toInt.toNat)
      rw [hr]
      refine pk_g (fun _ => pk_e (fun v12 e12 => ?_))
      rw [wn_tn] at e12
      subst e12
      refine pk_i (fun h6 => ?_) (fun h6 => ?_)
      · rw [if_pos h6]; exact key
      · rw [if_neg h6]
        refine pk_g (fun _ => pk_e (fun v10 e10 => ?_))
        rw [wn_tn] at e10
        subst e10
        refine pk_i (fun h10 => ?_) (fun h10 => ?_)
        · rw [if_pos h10]; exact key
        · rw [if_neg h10]
          refine pk_g (fun _ => pk_e (fun v13 e13 => pk_s ?_))
          rw [wn_tn] at e13
          exact e13
theorem pq_M_costOf (σ : wc_S) (x1 : Int32) (hx : x1 = 0 ∨ x1 = 1) (v : Int32) (h0 : 0 ≤ (σ 78 x1.toInt.toNat).toInt) (h8 : (σ 78 x1.toInt.toNat).toInt ≤ 8) : pk (wf_M_costOf x1 v σ) (fun r => r.1 = qK (σ 78 x1.toInt.toNat) (σ 79) (σ 80) (σ 81) (8 * x1.toInt).toNat (qB v) ∧ r.2 = σ) := by
  refine same_q (fun x e => wr_M_costOf x1 v σ x e) (fun _ _ h => h) ?_
  have hx' : 0 ≤ x1.toInt ∧ x1.toInt ≤ 1 := by rcases hx with rfl | rfl <;> decide
  have h8x := wn_m8 hx'.1 hx'.2
  have key : ∀ s, pk (wf_M_costOf_10 x1 s σ) (fun r => r.1 = qK (σ 78 x1.toInt.toNat) (σ 79) (σ 80) (σ 81) (8 * x1.toInt).toNat s) := by
    intro s
    unfold wf_M_costOf_10 qK
    refine pk_e (fun v2 e2 => ?_)
    have e2' : v2.toInt = 8 * x1.toInt := by rw [e2, h8x]
    have := pq_M_costOf_17 σ x1 hx s h0 h8 16 v2 (by omega) (by omega)
    rw [e2', show 8 * x1.toInt + (σ 78 x1.toInt.toNat).toInt - 8 * x1.toInt = (σ 78 x1.toInt.toNat).toInt by omega] at this
    exact this
  unfold wf_M_costOf qB
  refine pk_i (fun hc => ?_) (fun hc => pk_e (fun v20 e20 => ?_))
  · rw [if_pos hc]; exact key v
  · rw [if_neg hc, ← e20]; exact key v20
/-- class and model hold the same coils, rows, groups and rise -/
def qT (σ : wc_S) : Prop := (σ 1 10 = σ 71 1 ∧ σ 1 11 = σ 71 16 ∧ σ 26 3 = σ 71 12 ∧ σ 18 3 = σ 78 0 ∧ σ 22 3 = σ 78 1) ∧ (∀ k i, 2 ≤ k → k ≤ 7 → σ k i = σ (k + 70) i) ∧ (∀ k i, k < 3 → i < 8 → σ (19 + k) i = σ (79 + k) i ∧ σ (23 + k) i = σ (79 + k) (8 + i)) ∧ (∀ i, (0 ≤ (σ 2 i).toInt ∧ (σ 2 i).toInt ≤ 2000) ∧ (0 ≤ (σ 21 i).toInt ∧ (σ 21 i).toInt ≤ 10000) ∧ (0 ≤ (σ 25 i).toInt ∧ (σ 25 i).toInt ≤ 10000)) ∧ qP σ
def qD (k i : Nat) : Prop := (k = 1 ∧ (i = 10 ∨ i = 11)) ∨ (2 ≤ k ∧ k ≤ 7) ∨ (9 ≤ k ∧ k ≤ 26) ∨ (k = 71 ∧ (i = 1 ∨ i = 12 ∨ i = 16)) ∨ (72 ≤ k ∧ k ≤ 81)
theorem qP_keep {σ τ : wc_S} (h : ∀ k i, (k = 1 ∧ i = 10) ∨ k = 3 ∨ k = 4 ∨ (9 ≤ k ∧ k ≤ 25) → τ k i = σ k i) (hP : qP σ) : qP τ := by
  intro a b h8 ha hb
  have h1 := h 1 10 (Or.inl ⟨rfl, rfl⟩)
  rw [h1] at ha hb
  rw [h (9 + a) b (by omega), hP a b h8 ha hb]
  exact (qj_eq (fun k i hk => h k i (by omega)) a b).symm
theorem qT_keep {σ τ : wc_S} (h : ∀ k i, qD k i → τ k i = σ k i) (hT : qT σ) : qT τ := by
  obtain ⟨⟨h1, h2, h3, h4, h5⟩, hc, hr, hb, hP⟩ := hT
  refine ⟨⟨?_, ?_, ?_, ?_, ?_⟩, fun k i k2 k7 => ?_, fun k i k3 i8 => ?_, fun i => ?_, qP_keep (fun k i hk => h k i (by unfold qD; omega)) hP⟩
  · rw [h 1 10 (by unfold qD; omega), h 71 1 (by unfold qD; omega)]; exact h1
  · rw [h 1 11 (by unfold qD; omega), h 71 16 (by unfold qD; omega)]; exact h2
  · rw [h 26 3 (by unfold qD; omega), h 71 12 (by unfold qD; omega)]; exact h3
  · rw [h 18 3 (by unfold qD; omega), h 78 0 (by unfold qD; omega)]; exact h4
  · rw [h 22 3 (by unfold qD; omega), h 78 1 (by unfold qD; omega)]; exact h5
  · rw [h k i (by unfold qD; omega), h (k + 70) i (by unfold qD; omega)]; exact hc k i k2 k7
  · rw [h (19 + k) i (by unfold qD; omega), h (79 + k) i (by unfold qD; omega), h (23 + k) i (by unfold qD; omega), h (79 + k) (8 + i) (by unfold qD; omega)]; exact hr k i k3 i8
  · rw [h 2 i (by unfold qD; omega), h 21 i (by unfold qD; omega), h 25 i (by unfold qD; omega)]; exact hb i
def q78 (σ : wc_S) : Prop := ∀ i, 0 ≤ (σ 78 i).toInt ∧ (σ 78 i).toInt ≤ 8
theorem j78 {c : Nat} {σ : wc_S} (h : wJ c σ) : q78 σ := fun i => i_8 h (by omega)
theorem qK_tied {σ : wc_S} (hJ : q78 σ) (hT : qT σ) (x : Int32) : qK (σ 78 0) (σ 79) (σ 80) (σ 81) 0 x = qK (σ 18 3) (σ 19) (σ 20) (σ 21) 0 x ∧ qK (σ 78 1) (σ 79) (σ 80) (σ 81) 8 x = qK (σ 22 3) (σ 23) (σ 24) (σ 25) 0 x := by
  obtain ⟨⟨h1, h2, h3, h4, h5⟩, hc, hr, hb, hP⟩ := hT
  have b0 := hJ 0
  have b1 := hJ 1
  unfold qK
  rw [h4, h5]
  constructor
  · split
    · rfl
    · refine qC_eq _ _ _ (fun j hj => ?_)
      rw [Nat.zero_add]
      exact ⟨(hr 0 j (by omega) (by omega)).1.symm, (hr 1 j (by omega) (by omega)).1.symm, (hr 2 j (by omega) (by omega)).1.symm⟩
  · split
    · rfl
    · refine qC_eq _ _ _ (fun j hj => ?_)
      rw [Nat.zero_add]
      exact ⟨(hr 0 j (by omega) (by omega)).2.symm, (hr 1 j (by omega) (by omega)).2.symm, (hr 2 j (by omega) (by omega)).2.symm⟩
theorem qK_pos {n : Int32} {f t c : Nat → Int32} {b : Nat} {x : Int32} (hc : ∀ i, 0 ≤ (c i).toInt ∧ (c i).toInt ≤ 10000) : qK n f t c b x = -1 ∨ (0 ≤ (qK n f t c b x).toInt ∧ (qK n f t c b x).toInt ≤ 10000) := by
  unfold qK
  split
  · exact Or.inr (by decide)
  · exact qC_pos _ _ (fun j _ => hc _)
theorem qj_pos {σ : wc_S} (hT : qT σ) (a b : Nat) : qj σ a b = -1 ∨ (0 ≤ (qj σ a b).toInt ∧ (qj σ a b).toInt ≤ 20000) := by
  obtain ⟨-, -, -, hb, -⟩ := hT
  have p1 : qh σ a b = -1 ∨ _ := qK_pos (fun i => (hb i).2.1)
  have p2 : qt σ a b = -1 ∨ _ := qK_pos (fun i => (hb i).2.2)
  unfold qj qJ
  by_cases e1 : qh σ a b = -1
  · rw [if_pos e1]; exact Or.inl rfl
  · rw [if_neg e1]
    by_cases e2 : qt σ a b = -1
    · rw [if_pos e2]; exact Or.inl rfl
    · rw [if_neg e2]
      have q1 : 0 ≤ (qh σ a b).toInt ∧ (qh σ a b).toInt ≤ 10000 := p1.resolve_left e1
      have q2 : 0 ≤ (qt σ a b).toInt ∧ (qt σ a b).toInt ≤ 10000 := p2.resolve_left e2
      rw [wn_add (by omega) (by omega)]
      omega
theorem pq_M_jumpOf {σ : wc_S} (hJ : q78 σ) (hT : qT σ) (a1 a2 : Int32) : pk (wf_M_jumpOf a1 a2 σ) (fun r => r.1 = qj σ a1.toInt.toNat a2.toInt.toNat ∧ r.2 = σ) := by
  refine same_q (fun x e => wr_M_jumpOf a1 a2 σ x e) (fun _ _ h => h) ?_
  have b0 := hJ 0
  have b1 := hJ 1
  have hc := hT.2.1
  have hb := hT.2.2.2.1
  unfold wf_M_jumpOf
  refine pk_g (fun _ => pk_e (fun v2 e2 => pk_g (fun _ => pk_e (fun v4 e4 => pk_e (fun v5 e5 => ?_)))))
  refine pk_b2 (pq_M_costOf σ 0 (Or.inl rfl) v5 b0.1 b0.2) (fun r7 σ6 hq => ?_)
  obtain ⟨h8, h7⟩ := hq
  have h7 : σ6 = σ := h7
  have h8 : r7 = qh σ a1.toInt.toNat a2.toInt.toNat := by
    rw [wn_tn, ← hc 4 _ (by omega) (by omega)] at e2 e4
    refine h8.trans ?_
    rw [e5, e4, e2, qA_qB]
    exact (qK_tied hJ hT _).1
  subst h7
  refine pk_g (fun _ => pk_e (fun v9 e9 => pk_g (fun _ => pk_e (fun v11 e11 => pk_e (fun v12 e12 => ?_)))))
  refine pk_b2 (pq_M_costOf σ6 1 (Or.inr rfl) v12 b1.1 b1.2) (fun r14 σ13 hq => ?_)
  obtain ⟨h14, h13⟩ := hq
  have h14 : r14 = qt σ6 a1.toInt.toNat a2.toInt.toNat := by
    rw [wn_tn, ← hc 3 _ (by omega) (by omega)] at e9 e11
    refine h14.trans ?_
    rw [e12, e11, e9, qA_qB]
    exact (qK_tied hJ hT _).2
  have p1 : r7 = -1 ∨ (0 ≤ r7.toInt ∧ r7.toInt ≤ 10000) := by rw [h8]; exact qK_pos (fun i => (hb i).2.1)
  have p2 : r14 = -1 ∨ (0 ≤ r14.toInt ∧ r14.toInt ≤ 10000) := by rw [h14]; exact qK_pos (fun i => (hb i).2.2)
  unfold qj qJ
  rw [← h8, ← h14]
  refine pk_i (fun hc => ?_) (fun hc => ?_)
  · rw [wn_lt, wn_0] at hc
    rw [if_pos (show r7 = -1 from p1.resolve_right (by omega))]; exact pk_s rfl
  · rw [wn_lt, wn_0] at hc
    rw [if_neg (show ¬ r7 = -1 by intro e; rw [e, wn_m1] at hc; omega)]
    refine pk_i (fun hc2 => ?_) (fun hc2 => ?_)
    · rw [wn_le, wn_0] at hc2
      rw [if_neg (show ¬ r14 = -1 by intro e; rw [e, wn_m1] at hc2; omega)]
      exact pk_e (fun v19 e19 => pk_s e19)
    · rw [wn_le, wn_0] at hc2
      rw [if_pos (show r14 = -1 from p2.resolve_right (by omega))]; exact pk_s rfl
/-! what the telling calls answer and leave, class and model -/
theorem wu_cong {σ τ : wc_S} {k i : Nat} {x : Int32} {k' i' : Nat} (h : τ k' i' = σ k' i') : wc_u τ k i x k' i' = wc_u σ k i x k' i' := by rw [wu_at, wu_at, h]
def uC (a b c d n : Int32) (σ : wc_S) : wc_S := wc_u (wc_u (wc_u (wc_u (wc_u (wc_u (wc_u σ 2 n.toNatClampNeg a) 3 n.toNatClampNeg b) 4 n.toNatClampNeg c) 5 n.toNatClampNeg d) 6 n.toNatClampNeg 8) 7 n.toNatClampNeg (-1)) 1 10 (n + 1)
def uMC (a b c d n : Int32) (σ : wc_S) : wc_S := wc_u (wc_u (wc_u (wc_u (wc_u (wc_u (wc_u σ 72 n.toNatClampNeg a) 73 n.toNatClampNeg b) 74 n.toNatClampNeg c) 75 n.toNatClampNeg d) 76 n.toNatClampNeg 8) 77 n.toNatClampNeg (-1)) 71 1 (n + 1)
def uR (b : Nat) (x y z n : Int32) (σ : wc_S) : wc_S := wc_u (wc_u (wc_u (wc_u σ (b + 1) n.toNatClampNeg x) (b + 2) n.toNatClampNeg y) (b + 3) n.toNatClampNeg z) b 3 (n + 1)
def uMR (k : Nat) (x y z n : Int32) (σ : wc_S) : wc_S := wc_u (wc_u (wc_u (wc_u σ 79 (8 * k + n.toNatClampNeg) x) 80 (8 * k + n.toNatClampNeg) y) 81 (8 * k + n.toNatClampNeg) z) 78 k (n + 1)
def uG (a b c n : Int32) (σ : wc_S) : wc_S := wc_u (wc_u (wc_u (wc_u σ 27 n.toNatClampNeg a) 28 n.toNatClampNeg b) 29 n.toNatClampNeg c) 26 3 (n + 1)
def uMG (a b c n : Int32) (σ : wc_S) : wc_S := wc_u (wc_u (wc_u (wc_u σ 82 n.toNatClampNeg a) 83 n.toNatClampNeg b) 84 n.toNatClampNeg c) 71 12 (n + 1)
theorem uC_cong {a b c d n : Int32} {σ τ : wc_S} {k i : Nat} (h : τ k i = σ k i) : uC a b c d n τ k i = uC a b c d n σ k i := wu_cong (wu_cong (wu_cong (wu_cong (wu_cong (wu_cong (wu_cong h))))))
theorem uR_cong {b : Nat} {x y z n : Int32} {σ τ : wc_S} {k i : Nat} (h : τ k i = σ k i) : uR b x y z n τ k i = uR b x y z n σ k i := wu_cong (wu_cong (wu_cong (wu_cong h)))
theorem uG_cong {a b c n : Int32} {σ τ : wc_S} {k i : Nat} (h : τ k i = σ k i) : uG a b c n τ k i = uG a b c n σ k i := wu_cong (wu_cong (wu_cong (wu_cong h)))
theorem uMC_cong {a b c d n : Int32} {σ τ : wc_S} {k i : Nat} (h : τ k i = σ k i) : uMC a b c d n τ k i = uMC a b c d n σ k i := wu_cong (wu_cong (wu_cong (wu_cong (wu_cong (wu_cong (wu_cong h))))))
theorem uMR_cong {j : Nat} {x y z n : Int32} {σ τ : wc_S} {k i : Nat} (h : τ k i = σ k i) : uMR j x y z n τ k i = uMR j x y z n σ k i := wu_cong (wu_cong (wu_cong (wu_cong h)))
theorem uMG_cong {a b c n : Int32} {σ τ : wc_S} {k i : Nat} (h : τ k i = σ k i) : uMG a b c n τ k i = uMG a b c n σ k i := wu_cong (wu_cong (wu_cong (wu_cong h)))
theorem wn_up1 {x : Int32} (h0 : 0 ≤ x.toInt) (h : x.toInt ≤ 9) : 0 ≤ (x + 1).toInt ∧ (x + 1).toInt = x.toInt + 1 := by
  have := wn_up h0 (by omega)
  omega
theorem wJ_k0 {σ u : wc_S} (hu : ∀ k i, k ≠ 0 → u k i = σ k i) (h : wJ 0 σ) : wJ 0 u := by
  intro k i
  by_cases h0 : k = 0
  · subst h0; exact wJ_o (by decide)
  · rw [hu k i h0]; exact h k i
theorem pq_addCoil {a b c d : Int32} {σ : wc_S} (hJ : wJ 0 σ) (hl : σ 1 10 < 9) : pk (wf_P_addCoil a b c d σ) (fun r => r.1 = σ 1 10 ∧ (∀ k i, k < 9 ∨ 17 < k → r.2 k i = uC a b c d (σ 1 10) σ k i) ∧ qP r.2) := by
  unfold wf_P_addCoil
  refine pk_e (fun v1 e1 => ?_)
  refine pk_g (fun _ => pk_e (fun σ3 e3 => pk_g (fun _ => pk_e (fun σ5 e5 => pk_g (fun _ => pk_e (fun σ7 e7 => pk_g (fun _ => pk_e (fun σ9 e9 => pk_g (fun _ => pk_e (fun σ11 e11 => pk_g (fun _ => pk_e (fun σ13 e13 => ?_))))))))))))
  refine pk_e (fun v14 e14 => pk_e (fun v15 e15 => pk_e (fun σ16 e16 => ?_)))
  have h14 : v14 = σ 1 10 := by
    rw [e14, e13, wu_other (Or.inl (by decide)), e11, wu_other (Or.inl (by decide)), e9, wu_other (Or.inl (by decide)), e7, wu_other (Or.inl (by decide)), e5, wu_other (Or.inl (by decide)), e3, wu_other (Or.inl (by decide))]
  have h16 : σ16 = uC a b c d (σ 1 10) σ := by rw [e16, e15, h14, e13, e11, e9, e7, e5, e3, e1]; rfl
  have hn := i_n hJ
  have h18 := i_r hJ (Or.inl rfl) (b := 18)
  have h22 := i_r hJ (Or.inr rfl) (b := 22)
  have k18 : uC a b c d (σ 1 10) σ 18 3 = σ 18 3 := by simp [uC, wu_at]
  have k22 : uC a b c d (σ 1 10) σ 22 3 = σ 22 3 := by simp [uC, wu_at]
  have k1 : uC a b c d (σ 1 10) σ 1 10 = σ 1 10 + 1 := by simp [uC, wu_at]
  rw [wn_lt, wn_9] at hl
  have hup := wn_up1 hn.1 hn.2.1
  refine pk_b1 (pq_reckonJumps (σ := σ16) (by rw [h16, k18]; omega) (by rw [h16, k22]; omega) (by rw [h16, k1]; omega)) (fun u hu => ?_)
  exact pk_s ⟨e1, fun k i hk => by rw [← h16]; exact hu.1 k i hk, hu.2⟩
theorem pq_addRow {b : Nat} (hb : b = 18 ∨ b = 22) {x y z : Int32} {σ : wc_S} : pk (wf_J_addRow b x y z σ) (fun τ => τ = uR b x y z (σ b 3) σ) := by
  unfold wf_J_addRow
  refine pk_e (fun v1 e1 => pk_g (fun _ => pk_e (fun σ3 e3 => pk_e (fun v4 e4 => pk_g (fun _ => pk_e (fun σ6 e6 => pk_e (fun v7 e7 => pk_g (fun _ => pk_e (fun σ9 e9 => ?_)))))))))
  refine pk_e (fun v10 e10 => pk_e (fun v11 e11 => pk_e (fun σ12 e12 => pk_s ?_)))
  have h4 : v4 = σ b 3 := by rw [e4, e3, wu_other (Or.inl (by omega))]
  have h7 : v7 = σ b 3 := by rw [e7, e6, wu_other (Or.inl (by omega)), e3, wu_other (Or.inl (by omega))]
  have h10 : v10 = σ b 3 := by rw [e10, e9, wu_other (Or.inl (by omega)), e6, wu_other (Or.inl (by omega)), e3, wu_other (Or.inl (by omega))]
  rw [e12, e11, h10, e9, h7, e6, h4, e3, e1]; rfl
theorem pq_addGroup {x y z : Int32} {σ : wc_S} : pk (wf_G_addGroup x y z σ) (fun τ => τ = uG x y z (σ 26 3) σ) := by
  unfold wf_G_addGroup
  refine pk_e (fun v1 e1 => pk_g (fun _ => pk_e (fun σ3 e3 => pk_e (fun v4 e4 => pk_g (fun _ => pk_e (fun σ6 e6 => pk_e (fun v7 e7 => pk_g (fun _ => pk_e (fun σ9 e9 => ?_)))))))))
  refine pk_e (fun v10 e10 => pk_e (fun v11 e11 => pk_e (fun σ12 e12 => pk_s ?_)))
  have h4 : v4 = σ 26 3 := by rw [e4, e3, wu_other (Or.inl (by decide))]
  have h7 : v7 = σ 26 3 := by rw [e7, e6, wu_other (Or.inl (by decide)), e3, wu_other (Or.inl (by decide))]
  have h10 : v10 = σ 26 3 := by rw [e10, e9, wu_other (Or.inl (by decide)), e6, wu_other (Or.inl (by decide)), e3, wu_other (Or.inl (by decide))]
  rw [e12, e11, h10, e9, h7, e6, h4, e3, e1]; rfl
theorem pq_table84 {b : Nat} (hb : b = 18 ∨ b = 22) {x y z : Int32} {σ : wc_S} (hJ : wJ 0 σ) : pk (wf_W_table_84 x y z b σ) (fun q => (∃ r u, q = .inr (r, u) ∧ σ b 3 < 8 ∧ r = σ b 3 + 1 ∧ (∀ k i, 0 < k → k < 9 ∨ 17 < k → u k i = uR b x y z (σ b 3) σ k i) ∧ qP u) ∨ (q = .inl (3, σ) ∧ ¬ σ b 3 < 8)) := by
  unfold wf_W_table_84
  refine pk_e (fun v14 e14 => pk_i (fun hc => ?_) (fun hc => pk_s (Or.inr ⟨rfl, e14 ▸ hc⟩)))
  rw [e14] at hc
  refine pk_b1 pk_forget (fun u hu => ?_)
  refine pk_b1 (pq_addRow hb) (fun u2 hu2 => ?_)
  have hn := i_n hJ
  have h18 := i_r hJ (Or.inl rfl) (b := 18)
  have h22 := i_r hJ (Or.inr rfl) (b := 22)
  have hbb := i_r hJ hb
  have hc' := hc
  rw [wn_lt, wn_8] at hc'
  have hup := wn_up1 hbb.1 (by omega)
  have g : ∀ k i, 0 < k → u2 k i = uR b x y z (σ b 3) σ k i := by
    intro k i hk
    rw [hu2, hu b 3 (by omega)]
    exact uR_cong (hu k i (by omega))
  have k1 : uR b x y z (σ b 3) σ 1 10 = σ 1 10 := by rcases hb with rfl | rfl <;> simp [uR, wu_at]
  have kb : uR b x y z (σ b 3) σ b 3 = σ b 3 + 1 := by simp [uR, wu_at]
  have k18 : 0 ≤ (u2 18 3).toInt ∧ (u2 18 3).toInt ≤ 8 := by
    rw [g 18 3 (by decide)]
    rcases hb with rfl | rfl
    · rw [kb]; omega
    · rw [show uR 22 x y z (σ 22 3) σ 18 3 = σ 18 3 by simp [uR, wu_at]]; omega
  have k22 : 0 ≤ (u2 22 3).toInt ∧ (u2 22 3).toInt ≤ 8 := by
    rw [g 22 3 (by decide)]
    rcases hb with rfl | rfl
    · rw [show uR 18 x y z (σ 18 3) σ 22 3 = σ 22 3 by simp [uR, wu_at]]; omega
    · rw [kb]; omega
  refine pk_b1 (pq_reckonJumps k18 k22 (by rw [g 1 10 (by decide), k1]; omega)) (fun u3 hu3 => ?_)
  refine pk_e (fun v19 e19 => pk_s (Or.inl ⟨v19, u3, rfl, hc, ?_, fun k i h0 hk => ?_, hu3.2⟩))
  · rw [e19, hu3.1 b 3 (by omega), g b 3 (by omega), kb]
  · rw [hu3.1 k i hk, g k i h0]
def wR_coil (a b c d n : Int32) : Int32 := if (¬ a < 1 ∧ a ≤ 2000) ∧ (¬ b < 1 ∧ b ≤ 1000) ∧ (¬ c < 0 ∧ c ≤ 9) ∧ (¬ d < 1 ∧ d ≤ 100) then (if n < 9 then 0 else 2) else 1
theorem pq_Kcoil (a b c d : Int32) (σ : wc_S) (hJ : wJ 0 σ) : pk (wf_K_coil a b c d σ) (fun r => r.1 = wR_coil a b c d (σ 1 10) ∧ (r.1 = 0 → (∀ k i, 0 < k → k < 9 ∨ 17 < k → k < 88 → r.2 k i = uC a b c d (σ 1 10) σ k i) ∧ (qP σ → qP r.2) ∧ r.2 88 0 = σ 1 10) ∧ (r.1 ≠ 0 → r.2 = σ)) := by
  by_cases h0 : ¬ a < 1 ∧ a ≤ 2000
  · skip
    by_cases h1 : ¬ b < 1 ∧ b ≤ 1000
    · skip
      by_cases h2 : ¬ c < 0 ∧ c ≤ 9
      · skip
        by_cases h3 : ¬ d < 1 ∧ d ≤ 100
        · skip
          have e : wR_coil a b c d (σ 1 10) = if σ 1 10 < 9 then 0 else 2 := by unfold wR_coil; rw [if_pos ⟨h0, h1, h2, h3⟩]
          rw [e]
          unfold wf_K_coil wf_W_coil
          rw [ob0 h0, if_pos rfl, ob0 h1, if_pos rfl, ob0 h2, if_pos rfl, ob0 h3, if_pos rfl]
          refine pk_cti (Q := fun q => (∃ r u, q = .inr (r, u) ∧ σ 1 10 < 9 ∧ r = σ 1 10 ∧ (∀ k i, 0 < k → k < 9 ∨ 17 < k → u k i = uC a b c d (σ 1 10) σ k i) ∧ (qP σ → qP u)) ∨ (q = .inl (3, σ) ∧ ¬ σ 1 10 < 9)) ?_ ?_ ?_
          · refine pk_e (fun v13 e13 => pk_i (fun hc => ?_) (fun hc => ?_))
            · rw [e13] at hc
              refine pk_b1 pk_forget (fun u hu => ?_)
              have hu1 : u 1 10 = σ 1 10 := hu 1 10 (by decide)
              refine pk_b2 (pq_addCoil (wJ_k0 hu hJ) (by rw [hu1]; exact hc)) (fun r u2 hu2 => ?_)
              rw [hu1] at hu2
              exact pk_s (Or.inl ⟨r, u2, rfl, hc, hu2.1, fun k i h0 hk => (hu2.2.1 k i hk).trans (uC_cong (hu k i (by omega))), fun _ => hu2.2.2⟩)
            · exact pk_s (Or.inr ⟨rfl, e13 ▸ hc⟩)
          · intro k u hq
            rcases hq with ⟨r, u2, hq, _⟩ | ⟨hq, hn⟩
            · cases hq
            · cases hq
              rw [if_neg hn]
              exact pk_s ⟨rfl, (fun h => absurd (show (2 : Int32) = 0 from h) (by decide)), fun _ => rfl⟩
          · intro r u hq
            rcases hq with ⟨r2, u2, hq, hl, g1, g2, g3⟩ | ⟨hq, hn⟩
            · cases hq
              rw [if_pos hl]
              refine pk_g (fun _ => pk_s ⟨rfl, (fun _ => ⟨fun k i h0 hk h88 => ?_, fun hP => ?_, ?_⟩), fun h => absurd rfl h⟩)
              · exact (wu_other (Or.inl (by omega))).trans (g2 k i h0 hk)
              · exact qP_keep (fun k i hk => wu_other (Or.inl (by omega))) (g3 hP)
              · exact g1
            · cases hq
        · have e : wR_coil a b c d (σ 1 10) = 1 := by unfold wR_coil; rw [if_neg (fun h => h3 h.2.2.2)]
          rw [e]
          unfold wf_K_coil wf_W_coil
          rw [ob0 h0, if_pos rfl, ob0 h1, if_pos rfl, ob0 h2, if_pos rfl, ob1 h3, if_neg (by decide)]
          exact pk_s ⟨rfl, (fun h => absurd (show (1 : Int32) = 0 from h) (by decide)), fun _ => rfl⟩
      · have e : wR_coil a b c d (σ 1 10) = 1 := by unfold wR_coil; rw [if_neg (fun h => h2 h.2.2.1)]
        rw [e]
        unfold wf_K_coil wf_W_coil
        rw [ob0 h0, if_pos rfl, ob0 h1, if_pos rfl, ob1 h2, if_neg (by decide)]
        exact pk_s ⟨rfl, (fun h => absurd (show (1 : Int32) = 0 from h) (by decide)), fun _ => rfl⟩
    · have e : wR_coil a b c d (σ 1 10) = 1 := by unfold wR_coil; rw [if_neg (fun h => h1 h.2.1)]
      rw [e]
      unfold wf_K_coil wf_W_coil
      rw [ob0 h0, if_pos rfl, ob1 h1, if_neg (by decide)]
      exact pk_s ⟨rfl, (fun h => absurd (show (1 : Int32) = 0 from h) (by decide)), fun _ => rfl⟩
  · have e : wR_coil a b c d (σ 1 10) = 1 := by unfold wR_coil; rw [if_neg (fun h => h0 h.1)]
    rw [e]
    unfold wf_K_coil wf_W_coil
    rw [ob1 h0, if_neg (by decide)]
    exact pk_s ⟨rfl, (fun h => absurd (show (1 : Int32) = 0 from h) (by decide)), fun _ => rfl⟩
theorem pq_Mcoil49 (a b c d s : Int32) (hs : s = 0 ∨ s = 1) (σ : wc_S) : pk (wf_M_coil_49 a b c d s σ) (fun r => r.2 71 0 = (if s = 0 then 1 else if σ 71 1 < 9 then 0 else 2) ∧ (r.2 71 0 = 0 → (∀ k i, k ≠ 71 ∨ (i ≠ 0 ∧ i ≠ 20 ∧ i ≠ 22) → r.2 k i = uMC a b c d (σ 71 1) σ k i) ∧ r.1 = σ 71 1 + 1 - 1) ∧ (r.2 71 0 ≠ 0 → ∀ k i, k ≠ 71 ∨ i ≠ 0 → r.2 k i = σ k i)) := by
  unfold wf_M_coil_49
  refine pk_e (fun v4 e4 => pk_i (fun hc => ?_) (fun hc => ?_))
  · have hn : ¬ σ 71 1 < 9 := by
      rw [e4, wn_le] at hc; rw [wn_lt]; omega
    unfold wf_M_coil_63
    rw [e_goes, if_neg hn]
    rcases hs with rfl | rfl
    · rw [if_pos rfl, if_pos rfl]
      exact pk_s ⟨rfl, (fun h => absurd (show (1 : Int32) = 0 from h) (by decide)), fun _ k i hk => wu_other (by omega)⟩
    · rw [if_neg (by decide), if_pos rfl, if_neg (by decide)]
      exact pk_s ⟨rfl, (fun h => absurd (show (2 : Int32) = 0 from h) (by decide)), fun _ k i hk => wu_other (by omega)⟩
  · have hn : σ 71 1 < 9 := by
      rw [e4, wn_le] at hc; rw [wn_lt]; omega
    unfold wf_M_coil_63
    rw [e_goes, if_pos hn]
    rcases hs with rfl | rfl
    · rw [if_pos rfl, if_pos rfl]
      exact pk_s ⟨rfl, (fun h => absurd (show (1 : Int32) = 0 from h) (by decide)), fun _ k i hk => wu_other (by omega)⟩
    · rw [if_neg (by decide), if_neg (by decide), if_neg (by decide), if_neg (by decide), b2s, if_neg (by decide)]
      have z0 : ∀ k i, k ≠ 71 ∨ i ≠ 0 → wc_u σ 71 0 0 k i = σ k i := fun k i h => wu_other (by omega)
      refine pk_e (fun w0 e0 => pk_g (fun _ => pk_e (fun τ0 d0 => ?_)))
      have c0 : w0 = σ 71 1 := by rw [e0, z0 _ _ (by decide)]
      refine pk_e (fun w1 e1 => pk_g (fun _ => pk_e (fun τ1 d1 => ?_)))
      have c1 : w1 = σ 71 1 := by rw [e1, d0, wu_other (Or.inl (by decide)), z0 _ _ (by decide)]
      refine pk_e (fun w2 e2 => pk_g (fun _ => pk_e (fun τ2 d2 => ?_)))
      have c2 : w2 = σ 71 1 := by rw [e2, d1, wu_other (Or.inl (by decide)), d0, wu_other (Or.inl (by decide)), z0 _ _ (by decide)]
      refine pk_e (fun w3 e3 => pk_g (fun _ => pk_e (fun τ3 d3 => ?_)))
      have c3 : w3 = σ 71 1 := by rw [e3, d2, wu_other (Or.inl (by decide)), d1, wu_other (Or.inl (by decide)), d0, wu_other (Or.inl (by decide)), z0 _ _ (by decide)]
      refine pk_e (fun w4 e4 => pk_g (fun _ => pk_e (fun τ4 d4 => ?_)))
      have c4 : w4 = σ 71 1 := by rw [e4, d3, wu_other (Or.inl (by decide)), d2, wu_other (Or.inl (by decide)), d1, wu_other (Or.inl (by decide)), d0, wu_other (Or.inl (by decide)), z0 _ _ (by decide)]
      refine pk_e (fun w5 e5 => pk_g (fun _ => pk_e (fun τ5 d5 => ?_)))
      have c5 : w5 = σ 71 1 := by rw [e5, d4, wu_other (Or.inl (by decide)), d3, wu_other (Or.inl (by decide)), d2, wu_other (Or.inl (by decide)), d1, wu_other (Or.inl (by decide)), d0, wu_other (Or.inl (by decide)), z0 _ _ (by decide)]
      refine pk_e (fun w eW => pk_e (fun w2 eW2 => pk_e (fun τ dT => ?_)))
      have cW : w = σ 71 1 := by rw [eW, d5, wu_other (Or.inl (by decide)), d4, wu_other (Or.inl (by decide)), d3, wu_other (Or.inl (by decide)), d2, wu_other (Or.inl (by decide)), d1, wu_other (Or.inl (by decide)), d0, wu_other (Or.inl (by decide)), z0 _ _ (by decide)]
      refine pk_b1 pk_gone (fun u hu => ?_)
      refine pk_e (fun v31 e31 => pk_e (fun v32 e32 => ?_))
      have hT : τ = uMC a b c d (σ 71 1) (wc_u σ 71 0 0) := by rw [dT, eW2, cW, d5, c5, d4, c4, d3, c3, d2, c2, d1, c1, d0, c0]; rfl
      have cz : u 71 0 = 0 := by rw [hu 71 0 (Or.inr ⟨by decide, by decide⟩), hT]; simp [uMC, wu_at]
      have cu : u 71 1 = σ 71 1 + 1 := by rw [hu 71 1 (Or.inr ⟨by decide, by decide⟩), hT]; simp [uMC, wu_at]
      refine pk_s ⟨cz, (fun _ => ⟨fun k i hk => ?_, by show v32 = _; rw [e32, e31, cu]⟩), fun h => absurd cz h⟩
      refine (hu k i (by omega)).trans ?_
      rw [hT]; exact uMC_cong (z0 k i (by omega))
theorem pq_Mcoil (a b c d : Int32) (σ : wc_S) : pk (wf_M_coil a b c d σ) (fun r => r.2 71 0 = wR_coil a b c d (σ 71 1) ∧ (r.2 71 0 = 0 → (∀ k i, k ≠ 71 ∨ (i ≠ 0 ∧ i ≠ 20 ∧ i ≠ 22) → r.2 k i = uMC a b c d (σ 71 1) σ k i) ∧ r.1 = σ 71 1 + 1 - 1) ∧ (r.2 71 0 ≠ 0 → ∀ k i, k ≠ 71 ∨ i ≠ 0 → r.2 k i = σ k i)) := by
  by_cases h0 : ¬ a < 1 ∧ a ≤ 2000
  · skip
    by_cases h1 : ¬ b < 1 ∧ b ≤ 1000
    · skip
      by_cases h2 : ¬ c < 0 ∧ c ≤ 9
      · skip
        by_cases h3 : ¬ d < 1 ∧ d ≤ 100
        · skip
          have e : wR_coil a b c d (σ 71 1) = if σ 71 1 < 9 then 0 else 2 := by unfold wR_coil; rw [if_pos ⟨h0, h1, h2, h3⟩]
          rw [e]
          unfold wf_M_coil
          rw [mb1 h0, if_neg (by decide), mb1 h1, if_neg (by decide), mb1 h2, if_neg (by decide), mb1 h3, if_neg (by decide)]
          exact pk_mono (pq_Mcoil49 a b c d 1 (Or.inr rfl) σ) (fun r h => by rw [if_neg (by decide)] at h; exact h)
        · have e : wR_coil a b c d (σ 71 1) = 1 := by unfold wR_coil; rw [if_neg (fun h => h3 h.2.2.2)]
          rw [e]
          unfold wf_M_coil
          rw [mb1 h0, if_neg (by decide), mb1 h1, if_neg (by decide), mb1 h2, if_neg (by decide), mb0 h3, if_pos rfl]
          exact pk_mono (pq_Mcoil49 a b c d 0 (Or.inl rfl) σ) (fun r h => by rw [if_pos rfl] at h; exact h)
      · have e : wR_coil a b c d (σ 71 1) = 1 := by unfold wR_coil; rw [if_neg (fun h => h2 h.2.2.1)]
        rw [e]
        unfold wf_M_coil
        rw [mb1 h0, if_neg (by decide), mb1 h1, if_neg (by decide), mb0 h2, if_pos rfl]
        exact pk_mono (pq_Mcoil49 a b c d 0 (Or.inl rfl) σ) (fun r h => by rw [if_pos rfl] at h; exact h)
    · have e : wR_coil a b c d (σ 71 1) = 1 := by unfold wR_coil; rw [if_neg (fun h => h1 h.2.1)]
      rw [e]
      unfold wf_M_coil
      rw [mb1 h0, if_neg (by decide), mb0 h1, if_pos rfl]
      exact pk_mono (pq_Mcoil49 a b c d 0 (Or.inl rfl) σ) (fun r h => by rw [if_pos rfl] at h; exact h)
  · have e : wR_coil a b c d (σ 71 1) = 1 := by unfold wR_coil; rw [if_neg (fun h => h0 h.1)]
    rw [e]
    unfold wf_M_coil
    rw [mb0 h0, if_pos rfl]
    exact pk_mono (pq_Mcoil49 a b c d 0 (Or.inl rfl) σ) (fun r h => by rw [if_pos rfl] at h; exact h)
def wR_group (a b c n : Int32) : Int32 := if (¬ a < 1 ∧ a ≤ 2000) ∧ (¬ b < a ∧ b ≤ 2000) ∧ (¬ c < 1 ∧ c ≤ 1000) then (if n < 4 then 0 else 2) else 1
theorem pq_Kgroup (a b c : Int32) (σ : wc_S) (hJ : wJ 0 σ) : pk (wf_K_group a b c σ) (fun r => r.1 = wR_group a b c (σ 26 3) ∧ (r.1 = 0 → (∀ k i, 0 < k → k < 9 ∨ 17 < k → k < 88 → r.2 k i = uG a b c (σ 26 3) σ k i) ∧ (qP σ → qP r.2) ∧ r.2 88 0 = σ 26 3 + 1) ∧ (r.1 ≠ 0 → r.2 = σ)) := by
  by_cases h0 : ¬ a < 1 ∧ a ≤ 2000
  · skip
    by_cases h1 : ¬ b < a ∧ b ≤ 2000
    · skip
      by_cases h2 : ¬ c < 1 ∧ c ≤ 1000
      · skip
        have e : wR_group a b c (σ 26 3) = if σ 26 3 < 4 then 0 else 2 := by unfold wR_group; rw [if_pos ⟨h0, h1, h2⟩]
        rw [e]
        unfold wf_K_group wf_W_group
        rw [ob0 h0, if_pos rfl, ob0 h1, if_pos rfl, ob0 h2, if_pos rfl]
        refine pk_cti (Q := fun q => (∃ r u, q = .inr (r, u) ∧ σ 26 3 < 4 ∧ r = σ 26 3 + 1 ∧ (∀ k i, 0 < k → k < 9 ∨ 17 < k → u k i = uG a b c (σ 26 3) σ k i) ∧ (qP σ → qP u)) ∨ (q = .inl (3, σ) ∧ ¬ σ 26 3 < 4)) ?_ ?_ ?_
        · refine pk_e (fun v13 e13 => pk_i (fun hc => ?_) (fun hc => ?_))
          · rw [e13] at hc
            refine pk_b1 pk_forget (fun u hu => ?_)
            have hu1 : u 26 3 = σ 26 3 := hu 26 3 (by decide)
            refine pk_b1 pq_addGroup (fun u2 hu2 => pk_e (fun v14 e14 => ?_))
            rw [hu1] at hu2
            refine pk_s (Or.inl ⟨v14, u2, rfl, hc, ?_, fun k i h0 hk => ?_, fun hP => ?_⟩)
            · rw [e14, hu2]; simp [uG, wu_at]
            · rw [hu2]; exact uG_cong (hu k i (by omega))
            · refine qP_keep (σ := σ) (fun k i hk => ?_) hP
              rw [hu2, ← hu k i (by omega)]
              unfold uG
              rw [wu_other (by omega), wu_other (by omega), wu_other (by omega), wu_other (by omega)]
          · exact pk_s (Or.inr ⟨rfl, e13 ▸ hc⟩)
        · intro k u hq
          rcases hq with ⟨r, u2, hq, _⟩ | ⟨hq, hn⟩
          · cases hq
          · cases hq
            rw [if_neg hn]
            exact pk_s ⟨rfl, (fun h => absurd (show (2 : Int32) = 0 from h) (by decide)), fun _ => rfl⟩
        · intro r u hq
          rcases hq with ⟨r2, u2, hq, hl, g1, g2, g3⟩ | ⟨hq, hn⟩
          · cases hq
            rw [if_pos hl]
            refine pk_g (fun _ => pk_s ⟨rfl, (fun _ => ⟨fun k i h0 hk h88 => ?_, fun hP => ?_, ?_⟩), fun h => absurd rfl h⟩)
            · exact (wu_other (Or.inl (by omega))).trans (g2 k i h0 hk)
            · exact qP_keep (fun k i hk => wu_other (Or.inl (by omega))) (g3 hP)
            · exact g1
          · cases hq
      · have e : wR_group a b c (σ 26 3) = 1 := by unfold wR_group; rw [if_neg (fun h => h2 h.2.2)]
        rw [e]
        unfold wf_K_group wf_W_group
        rw [ob0 h0, if_pos rfl, ob0 h1, if_pos rfl, ob1 h2, if_neg (by decide)]
        exact pk_s ⟨rfl, (fun h => absurd (show (1 : Int32) = 0 from h) (by decide)), fun _ => rfl⟩
    · have e : wR_group a b c (σ 26 3) = 1 := by unfold wR_group; rw [if_neg (fun h => h1 h.2.1)]
      rw [e]
      unfold wf_K_group wf_W_group
      rw [ob0 h0, if_pos rfl, ob1 h1, if_neg (by decide)]
      exact pk_s ⟨rfl, (fun h => absurd (show (1 : Int32) = 0 from h) (by decide)), fun _ => rfl⟩
  · have e : wR_group a b c (σ 26 3) = 1 := by unfold wR_group; rw [if_neg (fun h => h0 h.1)]
    rw [e]
    unfold wf_K_group wf_W_group
    rw [ob1 h0, if_neg (by decide)]
    exact pk_s ⟨rfl, (fun h => absurd (show (1 : Int32) = 0 from h) (by decide)), fun _ => rfl⟩
theorem pq_Mgroup39 (a b c s : Int32) (hs : s = 0 ∨ s = 1) (σ : wc_S) : pk (wf_M_group_39 a b c s σ) (fun r => r.2 71 0 = (if s = 0 then 1 else if σ 71 12 < 4 then 0 else 2) ∧ (r.2 71 0 = 0 → (∀ k i, k ≠ 71 ∨ (i ≠ 0 ∧ i ≠ 20 ∧ i ≠ 22) → r.2 k i = uMG a b c (σ 71 12) σ k i) ∧ r.1 = σ 71 12 + 1) ∧ (r.2 71 0 ≠ 0 → ∀ k i, k ≠ 71 ∨ i ≠ 0 → r.2 k i = σ k i)) := by
  unfold wf_M_group_39
  refine pk_e (fun v4 e4 => pk_i (fun hc => ?_) (fun hc => ?_))
  · have hn : ¬ σ 71 12 < 4 := by
      rw [e4, wn_le] at hc; rw [wn_lt]; omega
    unfold wf_M_group_52
    rw [e_goes, if_neg hn]
    rcases hs with rfl | rfl
    · rw [if_pos rfl, if_pos rfl]
      exact pk_s ⟨rfl, (fun h => absurd (show (1 : Int32) = 0 from h) (by decide)), fun _ k i hk => wu_other (by omega)⟩
    · rw [if_neg (by decide), if_pos rfl, if_neg (by decide)]
      exact pk_s ⟨rfl, (fun h => absurd (show (2 : Int32) = 0 from h) (by decide)), fun _ k i hk => wu_other (by omega)⟩
  · have hn : σ 71 12 < 4 := by
      rw [e4, wn_le] at hc; rw [wn_lt]; omega
    unfold wf_M_group_52
    rw [e_goes, if_pos hn]
    rcases hs with rfl | rfl
    · rw [if_pos rfl, if_pos rfl]
      exact pk_s ⟨rfl, (fun h => absurd (show (1 : Int32) = 0 from h) (by decide)), fun _ k i hk => wu_other (by omega)⟩
    · rw [if_neg (by decide), if_neg (by decide), if_neg (by decide), if_neg (by decide), b2s, if_neg (by decide)]
      have z0 : ∀ k i, k ≠ 71 ∨ i ≠ 0 → wc_u σ 71 0 0 k i = σ k i := fun k i h => wu_other (by omega)
      refine pk_e (fun w0 e0 => pk_g (fun _ => pk_e (fun τ0 d0 => ?_)))
      have c0 : w0 = σ 71 12 := by rw [e0, z0 _ _ (by decide)]
      refine pk_e (fun w1 e1 => pk_g (fun _ => pk_e (fun τ1 d1 => ?_)))
      have c1 : w1 = σ 71 12 := by rw [e1, d0, wu_other (Or.inl (by decide)), z0 _ _ (by decide)]
      refine pk_e (fun w2 e2 => pk_g (fun _ => pk_e (fun τ2 d2 => ?_)))
      have c2 : w2 = σ 71 12 := by rw [e2, d1, wu_other (Or.inl (by decide)), d0, wu_other (Or.inl (by decide)), z0 _ _ (by decide)]
      refine pk_e (fun w eW => pk_e (fun w2 eW2 => pk_e (fun τ dT => ?_)))
      have cW : w = σ 71 12 := by rw [eW, d2, wu_other (Or.inl (by decide)), d1, wu_other (Or.inl (by decide)), d0, wu_other (Or.inl (by decide)), z0 _ _ (by decide)]
      refine pk_b1 pk_gone (fun u hu => ?_)
      refine pk_e (fun v31 e31 => ?_)
      have hT : τ = uMG a b c (σ 71 12) (wc_u σ 71 0 0) := by rw [dT, eW2, cW, d2, c2, d1, c1, d0, c0]; rfl
      have cz : u 71 0 = 0 := by rw [hu 71 0 (Or.inr ⟨by decide, by decide⟩), hT]; simp [uMG, wu_at]
      have cu : u 71 12 = σ 71 12 + 1 := by rw [hu 71 12 (Or.inr ⟨by decide, by decide⟩), hT]; simp [uMG, wu_at]
      refine pk_s ⟨cz, (fun _ => ⟨fun k i hk => ?_, by show v31 = _; rw [e31, cu]⟩), fun h => absurd cz h⟩
      refine (hu k i (by omega)).trans ?_
      rw [hT]; exact uMG_cong (z0 k i (by omega))
theorem pq_Mgroup (a b c : Int32) (σ : wc_S) : pk (wf_M_group a b c σ) (fun r => r.2 71 0 = wR_group a b c (σ 71 12) ∧ (r.2 71 0 = 0 → (∀ k i, k ≠ 71 ∨ (i ≠ 0 ∧ i ≠ 20 ∧ i ≠ 22) → r.2 k i = uMG a b c (σ 71 12) σ k i) ∧ r.1 = σ 71 12 + 1) ∧ (r.2 71 0 ≠ 0 → ∀ k i, k ≠ 71 ∨ i ≠ 0 → r.2 k i = σ k i)) := by
  by_cases h0 : ¬ a < 1 ∧ a ≤ 2000
  · skip
    by_cases h1 : ¬ b < a ∧ b ≤ 2000
    · skip
      by_cases h2 : ¬ c < 1 ∧ c ≤ 1000
      · skip
        have e : wR_group a b c (σ 71 12) = if σ 71 12 < 4 then 0 else 2 := by unfold wR_group; rw [if_pos ⟨h0, h1, h2⟩]
        rw [e]
        unfold wf_M_group
        rw [mb1 h0, if_neg (by decide), mb1 h1, if_neg (by decide), mb1 h2, if_neg (by decide)]
        exact pk_mono (pq_Mgroup39 a b c 1 (Or.inr rfl) σ) (fun r h => by rw [if_neg (by decide)] at h; exact h)
      · have e : wR_group a b c (σ 71 12) = 1 := by unfold wR_group; rw [if_neg (fun h => h2 h.2.2)]
        rw [e]
        unfold wf_M_group
        rw [mb1 h0, if_neg (by decide), mb1 h1, if_neg (by decide), mb0 h2, if_pos rfl]
        exact pk_mono (pq_Mgroup39 a b c 0 (Or.inl rfl) σ) (fun r h => by rw [if_pos rfl] at h; exact h)
    · have e : wR_group a b c (σ 71 12) = 1 := by unfold wR_group; rw [if_neg (fun h => h1 h.2.1)]
      rw [e]
      unfold wf_M_group
      rw [mb1 h0, if_neg (by decide), mb0 h1, if_pos rfl]
      exact pk_mono (pq_Mgroup39 a b c 0 (Or.inl rfl) σ) (fun r h => by rw [if_pos rfl] at h; exact h)
  · have e : wR_group a b c (σ 71 12) = 1 := by unfold wR_group; rw [if_neg (fun h => h0 h.1)]
    rw [e]
    unfold wf_M_group
    rw [mb0 h0, if_pos rfl]
    exact pk_mono (pq_Mgroup39 a b c 0 (Or.inl rfl) σ) (fun r h => by rw [if_pos rfl] at h; exact h)
def qb (k : Int32) : Nat := if k = 0 then 18 else 22
def wR_table (k a b c n : Int32) : Int32 := if ¬ k < 0 ∧ k ≤ 1 then (if (¬ a < 0 ∧ a ≤ 1000) ∧ (¬ b < a ∧ b ≤ 1000) ∧ (¬ c < 0 ∧ c ≤ 10000) then (if n < 8 then 0 else 3) else 2) else 1
theorem pq_Ktable (k a b c : Int32) (σ : wc_S) (hJ : wJ 0 σ) : pk (wf_K_table k a b c σ) (fun r => r.1 = wR_table k a b c (σ (qb k) 3) ∧ (r.1 = 0 → (∀ j i, 0 < j → j < 9 ∨ 17 < j → j < 88 → r.2 j i = uR (qb k) a b c (σ (qb k) 3) σ j i) ∧ qP r.2 ∧ r.2 88 0 = σ (qb k) 3 + 1) ∧ (r.1 ≠ 0 → r.2 = σ)) := by
  by_cases hk : ¬ k < 0 ∧ k ≤ 1
  · have key : ∀ bb, bb = 18 ∨ bb = 22 → pk (wc_cti (wf_W_table_84 a b c bb σ) (fun k9 σ3 => if k9 = 0 then some (1, σ3) else if k9 = 2 then some (2, σ3) else if k9 = 3 then some (3, σ3) else none) (fun r2 σ1 => wc_gd (wc_in 0 1) (wc_st (wc_u σ1 88 ((0 : Int32).toNatClampNeg) r2) fun σ5 => some (0, σ5)))) (fun r : Int32 × wc_S => r.1 = (if σ bb 3 < 8 then 0 else 3) ∧ (r.1 = 0 → (∀ j i, 0 < j → j < 9 ∨ 17 < j → j < 88 → r.2 j i = uR bb a b c (σ bb 3) σ j i) ∧ qP r.2 ∧ r.2 88 0 = σ bb 3 + 1) ∧ (r.1 ≠ 0 → r.2 = σ)) := by
      intro bb hbb
      refine pk_cti (pq_table84 hbb hJ) ?_ ?_
      · intro k u hq
        rcases hq with ⟨r, u2, hq, _⟩ | ⟨hq, hn⟩
        · cases hq
        · cases hq
          rw [if_neg hn]
          exact pk_s ⟨rfl, (fun h => absurd (show (3 : Int32) = 0 from h) (by decide)), fun _ => rfl⟩
      · intro r u hq
        rcases hq with ⟨r2, u2, hq, hl, g1, g2, g3⟩ | ⟨hq, hn⟩
        · cases hq
          rw [if_pos hl]
          refine pk_g (fun _ => pk_s ⟨rfl, (fun _ => ⟨fun k i h0 hk h88 => ?_, ?_, ?_⟩), fun h => absurd rfl h⟩)
          · exact (wu_other (Or.inl (by omega))).trans (g2 k i h0 hk)
          · exact qP_keep (fun k i hk => wu_other (Or.inl (by omega))) g3
          · exact g1
        · cases hq
    by_cases h0 : ¬ a < 0 ∧ a ≤ 1000
    · skip
      by_cases h1 : ¬ b < a ∧ b ≤ 1000
      · skip
        by_cases h2 : ¬ c < 0 ∧ c ≤ 10000
        · skip
          have e : wR_table k a b c (σ (qb k) 3) = if σ (qb k) 3 < 8 then 0 else 3 := by unfold wR_table; rw [if_pos hk, if_pos ⟨h0, h1, h2⟩]
          rw [e]
          unfold wf_K_table wf_W_table
          rw [ob0 hk, if_pos rfl, ob0 h0, if_pos rfl, ob0 h1, if_pos rfl, ob0 h2, if_pos rfl]
          by_cases hz : k = 0
          · rw [if_pos hz, show qb k = 18 from if_pos hz]; exact key 18 (Or.inl rfl)
          · rw [if_neg hz, show qb k = 22 from if_neg hz]; exact key 22 (Or.inr rfl)
        · have e : wR_table k a b c (σ (qb k) 3) = 2 := by unfold wR_table; rw [if_pos hk, if_neg (fun h => h2 h.2.2)]
          rw [e]
          unfold wf_K_table wf_W_table
          rw [ob0 hk, if_pos rfl, ob0 h0, if_pos rfl, ob0 h1, if_pos rfl, ob1 h2, if_neg (by decide)]
          exact pk_s ⟨rfl, (fun h => absurd (show (2 : Int32) = 0 from h) (by decide)), fun _ => rfl⟩
      · have e : wR_table k a b c (σ (qb k) 3) = 2 := by unfold wR_table; rw [if_pos hk, if_neg (fun h => h1 h.2.1)]
        rw [e]
        unfold wf_K_table wf_W_table
        rw [ob0 hk, if_pos rfl, ob0 h0, if_pos rfl, ob1 h1, if_neg (by decide)]
        exact pk_s ⟨rfl, (fun h => absurd (show (2 : Int32) = 0 from h) (by decide)), fun _ => rfl⟩
    · have e : wR_table k a b c (σ (qb k) 3) = 2 := by unfold wR_table; rw [if_pos hk, if_neg (fun h => h0 h.1)]
      rw [e]
      unfold wf_K_table wf_W_table
      rw [ob0 hk, if_pos rfl, ob1 h0, if_neg (by decide)]
      exact pk_s ⟨rfl, (fun h => absurd (show (2 : Int32) = 0 from h) (by decide)), fun _ => rfl⟩
  · have e : wR_table k a b c (σ (qb k) 3) = 1 := by unfold wR_table; rw [if_neg hk]
    rw [e]
    unfold wf_K_table wf_W_table
    rw [ob1 hk, if_neg (by decide)]
    exact pk_s ⟨rfl, (fun h => absurd (show (1 : Int32) = 0 from h) (by decide)), fun _ => rfl⟩
theorem pq_Mtable71 (k a b c : Int32) (hk : k = 0 ∨ k = 1) (σ : wc_S) (hJ : wJ 0 σ) (hl : σ 78 k.toInt.toNat < 8) : pk (wf_M_table_71 k a b c 1 1 1 σ) (fun r => r.2 71 0 = 0 ∧ (r.2 71 0 = 0 → (∀ j i, j ≠ 71 ∨ (i ≠ 0 ∧ i ≠ 20 ∧ i ≠ 22) → r.2 j i = uMR k.toInt.toNat a b c (σ 78 k.toInt.toNat) σ j i) ∧ r.1 = σ 78 k.toInt.toNat + 1) ∧ (r.2 71 0 ≠ 0 → ∀ j i, j ≠ 71 ∨ i ≠ 0 → r.2 j i = σ j i)) := by
  have hk' : 0 ≤ k.toInt ∧ k.toInt ≤ 1 := by rcases hk with rfl | rfl <;> decide
  have h8 := wn_m8 hk'.1 hk'.2
  have bn := i_8 hJ (k := 78) (i := k.toInt.toNat) (by omega)
  unfold wf_M_table_71
  rw [e_goes, if_neg (by decide), if_neg (by decide), if_neg (by decide), b2s, if_neg (by decide)]
  have z0 : ∀ j i, j ≠ 71 ∨ i ≠ 0 → wc_u σ 71 0 0 j i = σ j i := fun k i h => wu_other (by omega)
  refine pk_e (fun v10 e10 => pk_g (fun _ => pk_e (fun v12 e12 => pk_e (fun v13 e13 => ?_))))
  have c12 : v12 = σ 78 k.toInt.toNat := by rw [e12, wn_tn, z0 _ _ (by omega)]
  have c13 : v13.toNatClampNeg = 8 * k.toInt.toNat + (σ 78 k.toInt.toNat).toNatClampNeg := by
    rw [wn_tn, wn_tn, e13, c12, e10, wn_add (by omega) (by omega), h8]; omega
  refine pk_g (fun _ => pk_e (fun τ0 d0 => pk_g (fun _ => pk_e (fun τ1 d1 => pk_g (fun _ => pk_e (fun τ2 d2 => ?_))))))
  refine pk_g (fun _ => pk_e (fun v21 e21 => pk_e (fun v22 e22 => pk_g (fun _ => pk_e (fun τ dT => ?_)))))
  have c21 : v21 = σ 78 k.toInt.toNat := by rw [e21, wn_tn, d2, wu_other (Or.inl (by decide)), d1, wu_other (Or.inl (by decide)), d0, wu_other (Or.inl (by decide)), z0 _ _ (by omega)]
  refine pk_b1 pk_gone (fun u hu => pk_g (fun _ => pk_e (fun v27 e27 => ?_)))
  have hT : τ = uMR k.toInt.toNat a b c (σ 78 k.toInt.toNat) (wc_u σ 71 0 0) := by rw [dT, e22, c21, d2, d1, d0, c13]; rfl
  have cz : u 71 0 = 0 := by rw [hu 71 0 (Or.inr ⟨by decide, by decide⟩), hT]; simp [uMR, wu_at]
  refine pk_s ⟨cz, (fun _ => ⟨fun j i hk => ?_, ?_⟩), fun h => absurd cz h⟩
  · refine (hu j i (by omega)).trans ?_
    rw [hT]; exact uMR_cong (z0 j i (by omega))
  · show v27 = _
    rw [e27, wn_tn, hu 78 _ (by omega), hT]; simp [uMR, wu_at]
theorem pq_Mtable50 (k a b c s1 s2 : Int32) (hs1 : s1 = 0 ∨ (s1 = 1 ∧ (k = 0 ∨ k = 1))) (hs2 : s2 = 0 ∨ s2 = 1) (σ : wc_S) (hJ : wJ 0 σ) : pk (wf_M_table_50 k a b c s1 s1 s2 σ) (fun r => r.2 71 0 = (if s1 = 0 then 1 else if s2 = 0 then 2 else if σ 78 k.toInt.toNat < 8 then 0 else 3) ∧ (r.2 71 0 = 0 → (∀ j i, j ≠ 71 ∨ (i ≠ 0 ∧ i ≠ 20 ∧ i ≠ 22) → r.2 j i = uMR k.toInt.toNat a b c (σ 78 k.toInt.toNat) σ j i) ∧ r.1 = σ 78 k.toInt.toNat + 1) ∧ (r.2 71 0 ≠ 0 → ∀ j i, j ≠ 71 ∨ i ≠ 0 → r.2 j i = σ j i)) := by
  unfold wf_M_table_50
  rcases hs1 with rfl | ⟨rfl, hk⟩
  · rw [if_pos rfl, if_pos rfl]
    unfold wf_M_table_70 wf_M_table_71
    rw [e_goes, if_pos rfl]
    exact pk_s ⟨rfl, (fun h => absurd (show (1 : Int32) = 0 from h) (by decide)), fun _ j i hk => wu_other (by omega)⟩
  · rw [if_neg (by decide), if_neg (by decide)]
    refine pk_g (fun _ => pk_e (fun v29 e29 => ?_))
    rw [wn_tn] at e29
    refine pk_i (fun hc => ?_) (fun hc => ?_)
    · have hn : ¬ σ 78 k.toInt.toNat < 8 := by
        rw [e29, wn_le] at hc; rw [wn_lt]; omega
      rw [if_neg hn]
      unfold wf_M_table_70 wf_M_table_71
      rw [e_goes, if_neg (by decide)]
      rcases hs2 with rfl | rfl
      · rw [if_pos rfl, if_pos rfl]
        exact pk_s ⟨rfl, (fun h => absurd (show (2 : Int32) = 0 from h) (by decide)), fun _ j i hk => wu_other (by omega)⟩
      · rw [if_neg (by decide), if_pos rfl, if_neg (by decide)]
        exact pk_s ⟨rfl, (fun h => absurd (show (3 : Int32) = 0 from h) (by decide)), fun _ j i hk => wu_other (by omega)⟩
    · have hn : σ 78 k.toInt.toNat < 8 := by
        rw [e29, wn_le] at hc; rw [wn_lt]; omega
      rw [if_pos hn]
      rcases hs2 with rfl | rfl
      · rw [if_pos rfl]
        unfold wf_M_table_71
        rw [e_goes, if_neg (by decide), if_pos rfl]
        exact pk_s ⟨rfl, (fun h => absurd (show (2 : Int32) = 0 from h) (by decide)), fun _ j i hk => wu_other (by omega)⟩
      · rw [if_neg (by decide)]
        exact pq_Mtable71 k a b c hk σ hJ hn
theorem pq_Mtable (k a b c : Int32) (σ : wc_S) (hJ : wJ 0 σ) : pk (wf_M_table k a b c σ) (fun r => r.2 71 0 = wR_table k a b c (σ 78 k.toInt.toNat) ∧ (r.2 71 0 = 0 → (∀ j i, j ≠ 71 ∨ (i ≠ 0 ∧ i ≠ 20 ∧ i ≠ 22) → r.2 j i = uMR k.toInt.toNat a b c (σ 78 k.toInt.toNat) σ j i) ∧ r.1 = σ 78 k.toInt.toNat + 1) ∧ (r.2 71 0 ≠ 0 → ∀ j i, j ≠ 71 ∨ i ≠ 0 → r.2 j i = σ j i)) := by
  by_cases hk : ¬ k < 0 ∧ k ≤ 1
  · have hk2 : k = 0 ∨ k = 1 := by
      have q := hk
      rw [wn_lt, wn_le, wn_0, wn_1] at q
      rw [wn_eq, wn_eq, wn_0, wn_1]; omega
    by_cases h0 : ¬ a < 0 ∧ a ≤ 1000
    · skip
      by_cases h1 : ¬ b < a ∧ b ≤ 1000
      · skip
        by_cases h2 : ¬ c < 0 ∧ c ≤ 10000
        · skip
          have e : wR_table k a b c (σ 78 k.toInt.toNat) = if σ 78 k.toInt.toNat < 8 then 0 else 3 := by unfold wR_table; rw [if_pos hk, if_pos ⟨h0, h1, h2⟩]
          rw [e]
          unfold wf_M_table
          rw [mb1 hk, mb1 h0, if_neg (by decide), mb1 h1, if_neg (by decide), mb1 h2, if_neg (by decide)]
          exact pk_mono (pq_Mtable50 k a b c 1 1 (Or.inr ⟨rfl, hk2⟩) (Or.inr rfl) σ hJ) (fun r h => by rw [if_neg (by decide), if_neg (by decide)] at h; exact h)
        · have e : wR_table k a b c (σ 78 k.toInt.toNat) = 2 := by unfold wR_table; rw [if_pos hk, if_neg (fun h => h2 h.2.2)]
          rw [e]
          unfold wf_M_table
          rw [mb1 hk, mb1 h0, if_neg (by decide), mb1 h1, if_neg (by decide), mb0 h2, if_pos rfl]
          exact pk_mono (pq_Mtable50 k a b c 1 0 (Or.inr ⟨rfl, hk2⟩) (Or.inl rfl) σ hJ) (fun r h => by rw [if_neg (by decide), if_pos rfl] at h; exact h)
      · have e : wR_table k a b c (σ 78 k.toInt.toNat) = 2 := by unfold wR_table; rw [if_pos hk, if_neg (fun h => h1 h.2.1)]
        rw [e]
        unfold wf_M_table
        rw [mb1 hk, mb1 h0, if_neg (by decide), mb0 h1, if_pos rfl]
        exact pk_mono (pq_Mtable50 k a b c 1 0 (Or.inr ⟨rfl, hk2⟩) (Or.inl rfl) σ hJ) (fun r h => by rw [if_neg (by decide), if_pos rfl] at h; exact h)
    · have e : wR_table k a b c (σ 78 k.toInt.toNat) = 2 := by unfold wR_table; rw [if_pos hk, if_neg (fun h => h0 h.1)]
      rw [e]
      unfold wf_M_table
      rw [mb1 hk, mb0 h0, if_pos rfl]
      exact pk_mono (pq_Mtable50 k a b c 1 0 (Or.inr ⟨rfl, hk2⟩) (Or.inl rfl) σ hJ) (fun r h => by rw [if_neg (by decide), if_pos rfl] at h; exact h)
  · have e : wR_table k a b c (σ 78 k.toInt.toNat) = 1 := by unfold wR_table; rw [if_neg hk]
    rw [e]
    by_cases h0 : ¬ a < 0 ∧ a ≤ 1000
    · skip
      by_cases h1 : ¬ b < a ∧ b ≤ 1000
      · skip
        by_cases h2 : ¬ c < 0 ∧ c ≤ 10000
        · skip
          unfold wf_M_table
          rw [mb0 hk, mb1 h0, if_neg (by decide), mb1 h1, if_neg (by decide), mb1 h2, if_neg (by decide)]
          exact pk_mono (pq_Mtable50 k a b c 0 1 (Or.inl rfl) (Or.inr rfl) σ hJ) (fun r h => by rw [if_pos rfl] at h; exact h)
        · unfold wf_M_table
          rw [mb0 hk, mb1 h0, if_neg (by decide), mb1 h1, if_neg (by decide), mb0 h2, if_pos rfl]
          exact pk_mono (pq_Mtable50 k a b c 0 0 (Or.inl rfl) (Or.inl rfl) σ hJ) (fun r h => by rw [if_pos rfl] at h; exact h)
      · unfold wf_M_table
        rw [mb0 hk, mb1 h0, if_neg (by decide), mb0 h1, if_pos rfl]
        exact pk_mono (pq_Mtable50 k a b c 0 0 (Or.inl rfl) (Or.inl rfl) σ hJ) (fun r h => by rw [if_pos rfl] at h; exact h)
    · unfold wf_M_table
      rw [mb0 hk, mb0 h0, if_pos rfl]
      exact pk_mono (pq_Mtable50 k a b c 0 0 (Or.inl rfl) (Or.inl rfl) σ hJ) (fun r h => by rw [if_pos rfl] at h; exact h)
theorem e_noCoil (a : Int32) (σ : wc_S) : wf_W_isNoCoil a σ = some (if a < 0 ∨ ¬ a < σ 1 10 then 1 else 0, σ) := by
  show (if a < 0 then some ((1 : Int32), σ) else if a < σ 1 10 then some (0, σ) else some (1, σ)) = _
  by_cases h : a < 0
  · rw [if_pos h, if_pos (Or.inl h)]
  · rw [if_neg h]
    by_cases h2 : a < σ 1 10
    · rw [if_pos h2, if_neg (by intro q; rcases q with q | q; exact h q; exact q h2)]
    · rw [if_neg h2, if_pos (Or.inr h2)]
theorem e_isCoil {c : Nat} {a : Int32} {σ : wc_S} (hσ : wJ c σ) : wf_M_isCoil a σ = some (if a < 0 ∨ ¬ a < σ 71 1 then 0 else 1, σ) := by
  have hm := i_m hσ
  have hd : (σ 71 1 - 1).toInt = (σ 71 1).toInt - 1 := wn_dn hm.1 (by omega)
  show (wc_b2 (wf_M_in a 0 (σ 71 1 - 1) σ) fun r4 σ3 => wc_gd (wc_z r4) (some (r4, σ3))) = _
  by_cases h : a < 0 ∨ ¬ a < σ 71 1
  · rw [if_pos h, mb0 (by
      intro q
      rcases h with h | h
      · exact q.1 h
      · have q2 := q.2
        rw [wn_le] at q2; rw [wn_lt] at h
        omega)]
    rfl
  · rw [if_neg h, mb1 (by
      refine ⟨fun q => h (Or.inl q), ?_⟩
      have h2 : a < σ 71 1 := Decidable.byContradiction (fun q => h (Or.inr q))
      rw [wn_lt] at h2; rw [wn_le]
      omega)]
    rfl
def wR_urgent (a b n : Int32) : Int32 := if a < 0 ∨ ¬ a < n then 1 else if ¬ b < 0 ∧ b ≤ 8 then 0 else 2
theorem pq_Kurgent (a b : Int32) (σ : wc_S) : pk (wf_K_urgent a b σ) (fun r => r.1 = wR_urgent a b (σ 1 10) ∧ (r.1 = 0 → ∀ k i, 0 < k → r.2 k i = wc_u σ 6 a.toNatClampNeg b k i) ∧ (r.1 ≠ 0 → r.2 = σ)) := by
  unfold wf_K_urgent wf_W_urgent wR_urgent
  rw [e_noCoil, b2s]
  by_cases h : a < 0 ∨ ¬ a < σ 1 10
  · rw [if_pos h, if_pos h, if_neg (by decide)]
    exact pk_s ⟨rfl, (fun h => absurd (show (1 : Int32) = 0 from h) (by decide)), fun _ => rfl⟩
  · rw [if_neg h, if_neg h, if_pos rfl]
    by_cases hb : ¬ b < 0 ∧ b ≤ 8
    · rw [ob0 hb, if_pos rfl, if_pos hb]
      refine pk_ctv (Q := fun q => ∃ u, q = .inr u ∧ ∀ k i, 0 < k → u k i = wc_u σ 6 a.toNatClampNeg b k i) ?_ (fun k u h => by obtain ⟨_, h, _⟩ := h; cases h) (fun u hu => ?_)
      · exact pk_b1 pk_forget (fun u hu => pk_g (fun _ => pk_e (fun τ eτ => pk_s ⟨τ, rfl, fun k i hk => by rw [eτ]; exact wu_cong (hu k i (by omega))⟩)))
      · obtain ⟨u2, h1, h2⟩ := hu
        cases h1
        exact pk_s ⟨rfl, (fun _ => h2), fun h => absurd rfl h⟩
    · rw [ob1 hb, if_neg (by decide), if_neg hb]
      exact pk_s ⟨rfl, (fun h => absurd (show (2 : Int32) = 0 from h) (by decide)), fun _ => rfl⟩
theorem pq_Murgent (a b : Int32) {σ : wc_S} (hσ : wJ 0 σ) : pk (wf_M_urgent a b σ) (fun τ => τ 71 0 = wR_urgent a b (σ 71 1) ∧ (τ 71 0 = 0 → ∀ k i, k ≠ 71 ∨ (i ≠ 0 ∧ i ≠ 20 ∧ i ≠ 22) → τ k i = wc_u σ 76 a.toNatClampNeg b k i) ∧ (τ 71 0 ≠ 0 → ∀ k i, k ≠ 71 ∨ i ≠ 0 → τ k i = σ k i)) := by
  unfold wf_M_urgent wR_urgent
  rw [e_isCoil hσ, b2s]
  by_cases h : a < 0 ∨ ¬ a < σ 71 1
  · rw [if_pos h, if_pos h]
    by_cases hb : ¬ b < 0 ∧ b ≤ 8
    · rw [mb1 hb, e_goes, if_pos rfl, b2s, if_pos rfl]
      exact pk_s ⟨rfl, (fun h => absurd (show (1 : Int32) = 0 from h) (by decide)), fun _ k i hk => wu_other (by omega)⟩
    · rw [mb0 hb, e_goes, if_pos rfl, b2s, if_pos rfl]
      exact pk_s ⟨rfl, (fun h => absurd (show (1 : Int32) = 0 from h) (by decide)), fun _ k i hk => wu_other (by omega)⟩
  · rw [if_neg h, if_neg h]
    by_cases hb : ¬ b < 0 ∧ b ≤ 8
    · rw [mb1 hb, e_goes, if_neg (by decide), if_neg (by decide), if_neg (by decide), b2s, if_neg (by decide), if_pos hb]
      refine pk_g (fun _ => pk_e (fun σ9 e9 => pk_b1 pk_gone (fun u hu => ?_)))
      have cz : u 71 0 = 0 := by rw [hu 71 0 (Or.inr ⟨by decide, by decide⟩), e9, wu_other (Or.inl (by decide)), wu_same]
      refine pk_s ⟨cz, (fun _ k i hk => ?_), fun h => absurd cz h⟩
      rw [hu k i (by omega), e9]; exact wu_cong (wu_other (by omega))
    · rw [mb0 hb, e_goes, if_neg (by decide), if_pos rfl, b2s, if_pos rfl, if_neg hb]
      exact pk_s ⟨rfl, (fun h => absurd (show (2 : Int32) = 0 from h) (by decide)), fun _ k i hk => wu_other (by omega)⟩
def wR_old (a b n : Int32) : Int32 := if a < 0 ∨ ¬ a < n then 1 else if ¬ b < (-1) ∧ b ≤ 8 then 0 else 2
theorem pq_Kold (a b : Int32) (σ : wc_S) : pk (wf_K_old a b σ) (fun r => r.1 = wR_old a b (σ 1 10) ∧ (r.1 = 0 → ∀ k i, 0 < k → r.2 k i = wc_u σ 7 a.toNatClampNeg b k i) ∧ (r.1 ≠ 0 → r.2 = σ)) := by
  unfold wf_K_old wf_W_old wR_old
  rw [e_noCoil, b2s]
  by_cases h : a < 0 ∨ ¬ a < σ 1 10
  · rw [if_pos h, if_pos h, if_neg (by decide)]
    exact pk_s ⟨rfl, (fun h => absurd (show (1 : Int32) = 0 from h) (by decide)), fun _ => rfl⟩
  · rw [if_neg h, if_neg h, if_pos rfl]
    by_cases hb : ¬ b < (-1) ∧ b ≤ 8
    · rw [ob0 hb, if_pos rfl, if_pos hb]
      refine pk_ctv (Q := fun q => ∃ u, q = .inr u ∧ ∀ k i, 0 < k → u k i = wc_u σ 7 a.toNatClampNeg b k i) ?_ (fun k u h => by obtain ⟨_, h, _⟩ := h; cases h) (fun u hu => ?_)
      · exact pk_b1 pk_forget (fun u hu => pk_g (fun _ => pk_e (fun τ eτ => pk_s ⟨τ, rfl, fun k i hk => by rw [eτ]; exact wu_cong (hu k i (by omega))⟩)))
      · obtain ⟨u2, h1, h2⟩ := hu
        cases h1
        exact pk_s ⟨rfl, (fun _ => h2), fun h => absurd rfl h⟩
    · rw [ob1 hb, if_neg (by decide), if_neg hb]
      exact pk_s ⟨rfl, (fun h => absurd (show (2 : Int32) = 0 from h) (by decide)), fun _ => rfl⟩
theorem pq_Mold (a b : Int32) {σ : wc_S} (hσ : wJ 0 σ) : pk (wf_M_old a b σ) (fun τ => τ 71 0 = wR_old a b (σ 71 1) ∧ (τ 71 0 = 0 → ∀ k i, k ≠ 71 ∨ (i ≠ 0 ∧ i ≠ 20 ∧ i ≠ 22) → τ k i = wc_u σ 77 a.toNatClampNeg b k i) ∧ (τ 71 0 ≠ 0 → ∀ k i, k ≠ 71 ∨ i ≠ 0 → τ k i = σ k i)) := by
  unfold wf_M_old wR_old
  rw [e_isCoil hσ, b2s]
  by_cases h : a < 0 ∨ ¬ a < σ 71 1
  · rw [if_pos h, if_pos h]
    by_cases hb : ¬ b < (-1) ∧ b ≤ 8
    · rw [mb1 hb, e_goes, if_pos rfl, b2s, if_pos rfl]
      exact pk_s ⟨rfl, (fun h => absurd (show (1 : Int32) = 0 from h) (by decide)), fun _ k i hk => wu_other (by omega)⟩
    · rw [mb0 hb, e_goes, if_pos rfl, b2s, if_pos rfl]
      exact pk_s ⟨rfl, (fun h => absurd (show (1 : Int32) = 0 from h) (by decide)), fun _ k i hk => wu_other (by omega)⟩
  · rw [if_neg h, if_neg h]
    by_cases hb : ¬ b < (-1) ∧ b ≤ 8
    · rw [mb1 hb, e_goes, if_neg (by decide), if_neg (by decide), if_neg (by decide), b2s, if_neg (by decide), if_pos hb]
      refine pk_g (fun _ => pk_e (fun σ9 e9 => pk_b1 pk_gone (fun u hu => ?_)))
      have cz : u 71 0 = 0 := by rw [hu 71 0 (Or.inr ⟨by decide, by decide⟩), e9, wu_other (Or.inl (by decide)), wu_same]
      refine pk_s ⟨cz, (fun _ k i hk => ?_), fun h => absurd cz h⟩
      rw [hu k i (by omega), e9]; exact wu_cong (wu_other (by omega))
    · rw [mb0 hb, e_goes, if_neg (by decide), if_pos rfl, b2s, if_pos rfl, if_neg hb]
      exact pk_s ⟨rfl, (fun h => absurd (show (2 : Int32) = 0 from h) (by decide)), fun _ k i hk => wu_other (by omega)⟩
def wR_rules (a b c d : Int32) : Int32 := if (¬ a < 0 ∧ a ≤ 9) ∧ (¬ b < 1 ∧ b ≤ 1000) ∧ (¬ c < 0 ∧ c ≤ 10000) ∧ (¬ d < 0 ∧ d ≤ 10000) then 0 else 1
theorem pq_Krules (a b c d : Int32) (σ : wc_S) : pk (wf_K_rules a b c d σ) (fun r => r.1 = wR_rules a b c d ∧ (r.1 = 0 → ∀ k i, 0 < k → r.2 k i = wc_u (wc_u (wc_u (wc_u σ 1 11 a) 1 12 b) 1 13 c) 1 14 d k i) ∧ (r.1 ≠ 0 → r.2 = σ)) := by
  by_cases h0 : ¬ a < 0 ∧ a ≤ 9
  · skip
    by_cases h1 : ¬ b < 1 ∧ b ≤ 1000
    · skip
      by_cases h2 : ¬ c < 0 ∧ c ≤ 10000
      · skip
        by_cases h3 : ¬ d < 0 ∧ d ≤ 10000
        · skip
          have e : wR_rules a b c d = 0 := by unfold wR_rules; rw [if_pos ⟨h0, h1, h2, h3⟩]
          rw [e]
          unfold wf_K_rules wf_W_rules
          rw [ob0 h0, if_pos rfl, ob0 h1, if_pos rfl, ob0 h2, if_pos rfl, ob0 h3, if_pos rfl]
          refine pk_ctv (Q := fun q => ∃ u, q = .inr u ∧ ∀ k i, 0 < k → u k i = wc_u (wc_u (wc_u (wc_u σ 1 11 a) 1 12 b) 1 13 c) 1 14 d k i) ?_ (fun k u h => by obtain ⟨_, h, _⟩ := h; cases h) (fun u hu => ?_)
          · refine pk_b1 pk_forget (fun u hu => pk_e (fun σ14 e14 => pk_e (fun σ15 e15 => pk_e (fun σ16 e16 => pk_e (fun σ17 e17 => pk_s ⟨σ17, rfl, fun k i hk => ?_⟩)))))
            rw [e17, e16, e15, e14]; exact wu_cong (wu_cong (wu_cong (wu_cong (hu k i (by omega)))))
          · obtain ⟨u2, h1, h2⟩ := hu
            cases h1
            exact pk_s ⟨rfl, (fun _ => h2), fun h => absurd rfl h⟩
        · have e : wR_rules a b c d = 1 := by unfold wR_rules; rw [if_neg (fun h => h3 h.2.2.2)]
          rw [e]
          unfold wf_K_rules wf_W_rules
          rw [ob0 h0, if_pos rfl, ob0 h1, if_pos rfl, ob0 h2, if_pos rfl, ob1 h3, if_neg (by decide)]
          exact pk_s ⟨rfl, (fun h => absurd (show (1 : Int32) = 0 from h) (by decide)), fun _ => rfl⟩
      · have e : wR_rules a b c d = 1 := by unfold wR_rules; rw [if_neg (fun h => h2 h.2.2.1)]
        rw [e]
        unfold wf_K_rules wf_W_rules
        rw [ob0 h0, if_pos rfl, ob0 h1, if_pos rfl, ob1 h2, if_neg (by decide)]
        exact pk_s ⟨rfl, (fun h => absurd (show (1 : Int32) = 0 from h) (by decide)), fun _ => rfl⟩
    · have e : wR_rules a b c d = 1 := by unfold wR_rules; rw [if_neg (fun h => h1 h.2.1)]
      rw [e]
      unfold wf_K_rules wf_W_rules
      rw [ob0 h0, if_pos rfl, ob1 h1, if_neg (by decide)]
      exact pk_s ⟨rfl, (fun h => absurd (show (1 : Int32) = 0 from h) (by decide)), fun _ => rfl⟩
  · have e : wR_rules a b c d = 1 := by unfold wR_rules; rw [if_neg (fun h => h0 h.1)]
    rw [e]
    unfold wf_K_rules wf_W_rules
    rw [ob1 h0, if_neg (by decide)]
    exact pk_s ⟨rfl, (fun h => absurd (show (1 : Int32) = 0 from h) (by decide)), fun _ => rfl⟩
theorem pq_Mrules (a b c d : Int32) (σ : wc_S) : pk (wf_M_rules a b c d σ) (fun τ => τ 71 0 = wR_rules a b c d ∧ (τ 71 0 = 0 → ∀ k i, k ≠ 71 ∨ (i ≠ 0 ∧ i ≠ 20 ∧ i ≠ 22) → τ k i = wc_u (wc_u (wc_u (wc_u σ 71 16 a) 71 17 b) 71 18 c) 71 19 d k i) ∧ (τ 71 0 ≠ 0 → ∀ k i, k ≠ 71 ∨ i ≠ 0 → τ k i = σ k i)) := by
  by_cases h0 : ¬ a < 0 ∧ a ≤ 9
  · skip
    by_cases h1 : ¬ b < 1 ∧ b ≤ 1000
    · skip
      by_cases h2 : ¬ c < 0 ∧ c ≤ 10000
      · skip
        by_cases h3 : ¬ d < 0 ∧ d ≤ 10000
        · skip
          have e : wR_rules a b c d = 0 := by unfold wR_rules; rw [if_pos ⟨h0, h1, h2, h3⟩]
          rw [e]
          unfold wf_M_rules
          rw [mb1 h0, if_neg (by decide), mb1 h1, if_neg (by decide), mb1 h2, if_neg (by decide), mb1 h3, if_neg (by decide)]
          unfold wf_M_rules_50
          rw [e_goes, if_neg (by decide), if_neg (by decide), if_neg (by decide), b2s, if_neg (by decide)]
          refine pk_e (fun σ14 e14 => pk_e (fun σ15 e15 => pk_e (fun σ16 e16 => pk_e (fun σ17 e17 => pk_b1 pk_gone (fun u hu => ?_)))))
          have cz : u 71 0 = 0 := by rw [hu 71 0 (Or.inr ⟨by decide, by decide⟩), e17, e16, e15, e14]; simp [wu_at]
          refine pk_s ⟨cz, (fun _ k i hk => ?_), fun h => absurd cz h⟩
          rw [hu k i (by omega), e17, e16, e15, e14]; exact wu_cong (wu_cong (wu_cong (wu_cong (wu_other (by omega)))))
        · have e : wR_rules a b c d = 1 := by unfold wR_rules; rw [if_neg (fun h => h3 h.2.2.2)]
          rw [e]
          unfold wf_M_rules
          rw [mb1 h0, if_neg (by decide), mb1 h1, if_neg (by decide), mb1 h2, if_neg (by decide), mb0 h3, if_pos rfl]
          unfold wf_M_rules_49 wf_M_rules_50
          rw [e_goes, if_pos rfl, b2s, if_pos rfl]
          exact pk_s ⟨rfl, (fun h => absurd (show (1 : Int32) = 0 from h) (by decide)), fun _ k i hk => wu_other (by omega)⟩
      · have e : wR_rules a b c d = 1 := by unfold wR_rules; rw [if_neg (fun h => h2 h.2.2.1)]
        rw [e]
        unfold wf_M_rules
        rw [mb1 h0, if_neg (by decide), mb1 h1, if_neg (by decide), mb0 h2, if_pos rfl]
        unfold wf_M_rules_49 wf_M_rules_50
        rw [e_goes, if_pos rfl, b2s, if_pos rfl]
        exact pk_s ⟨rfl, (fun h => absurd (show (1 : Int32) = 0 from h) (by decide)), fun _ k i hk => wu_other (by omega)⟩
    · have e : wR_rules a b c d = 1 := by unfold wR_rules; rw [if_neg (fun h => h1 h.2.1)]
      rw [e]
      unfold wf_M_rules
      rw [mb1 h0, if_neg (by decide), mb0 h1, if_pos rfl]
      unfold wf_M_rules_49 wf_M_rules_50
      rw [e_goes, if_pos rfl, b2s, if_pos rfl]
      exact pk_s ⟨rfl, (fun h => absurd (show (1 : Int32) = 0 from h) (by decide)), fun _ k i hk => wu_other (by omega)⟩
  · have e : wR_rules a b c d = 1 := by unfold wR_rules; rw [if_neg (fun h => h0 h.1)]
    rw [e]
    unfold wf_M_rules
    rw [mb0 h0, if_pos rfl]
    unfold wf_M_rules_49 wf_M_rules_50
    rw [e_goes, if_pos rfl, b2s, if_pos rfl]
    exact pk_s ⟨rfl, (fun h => absurd (show (1 : Int32) = 0 from h) (by decide)), fun _ k i hk => wu_other (by omega)⟩
/-! class and model stay tied over every call -/
def wQ (σ : wc_S) : Prop := wJ 0 σ ∧ qT σ
theorem tI_K_run {a1 : Int32} {σ : wc_S} (hσ : wQ σ) : wk (wf_K_run a1 σ) (fun r => wQ r.2) := by
  obtain ⟨x, e, h⟩ := tt_K_run (a1 := a1) hσ.1
  have hw := wr_K_run a1 σ x e
  exact ⟨x, e, h, qT_keep (fun k i hd => hw k i (fun q => by unfold wS_K_run at q; unfold qD at hd; omega)) hσ.2⟩
theorem tI_M_run {a1 : Int32} {σ : wc_S} (hσ : wQ σ) : wk (wf_M_run a1 σ) (fun r => wQ r.2) := by
  obtain ⟨x, e, h⟩ := tt_M_run (a1 := a1) hσ.1
  have hw := wr_M_run a1 σ x e
  exact ⟨x, e, h, qT_keep (fun k i hd => hw k i (fun q => by unfold wS_M_run at q; unfold qD at hd; omega)) hσ.2⟩
theorem tI_K_proved {σ : wc_S} (hσ : wQ σ) : wk (wf_K_proved  σ) (fun r => wQ r.2) := by
  obtain ⟨x, e, h⟩ := tt_K_proved  hσ.1
  have hw := wr_K_proved  σ x e
  exact ⟨x, e, h, qT_keep (fun k i hd => hw k i (fun q => by unfold wS_K_proved at q; unfold qD at hd; omega)) hσ.2⟩
theorem tI_M_proved {σ : wc_S} (hσ : wQ σ) : wk (wf_M_proved  σ) (fun r => wQ r.2) := by
  obtain ⟨x, e, h⟩ := tt_M_proved  hσ.1
  have hw := wr_M_proved  σ x e
  exact ⟨x, e, h, qT_keep (fun k i hd => hw k i (fun q => by unfold wS_M_proved at q; unfold qD at hd; omega)) hσ.2⟩
theorem tI_K_order {a1 : Int32} {σ : wc_S} (hσ : wQ σ) : wk (wf_K_order a1 σ) (fun r => wQ r.2) := by
  obtain ⟨x, e, h⟩ := tt_K_order (a1 := a1) hσ.1
  have hw := wr_K_order a1 σ x e
  exact ⟨x, e, h, qT_keep (fun k i hd => hw k i (fun q => by unfold wS_K_order at q; unfold qD at hd; omega)) hσ.2⟩
theorem tI_M_order {a1 : Int32} {σ : wc_S} (hσ : wQ σ) : wk (wf_M_order a1 σ) (fun r => wQ r.2) := by
  obtain ⟨x, e, h⟩ := tt_M_order (a1 := a1) hσ.1
  have hw := wr_M_order a1 σ x e
  exact ⟨x, e, h, qT_keep (fun k i hd => hw k i (fun q => by unfold wS_M_order at q; unfold qD at hd; omega)) hσ.2⟩
theorem tI_K_told {a1 : Int32} {σ : wc_S} (hσ : wQ σ) : wk (wf_K_told a1 σ) (fun r => wQ r.2) := by
  obtain ⟨x, e, h⟩ := tt_K_told (a1 := a1) hσ.1
  have hw := wr_K_told a1 σ x e
  exact ⟨x, e, h, qT_keep (fun k i hd => hw k i (fun q => by unfold wS_K_told at q; unfold qD at hd; omega)) hσ.2⟩
theorem tI_M_told {a1 : Int32} {σ : wc_S} (hσ : wQ σ) : wk (wf_M_told a1 σ) (fun r => wQ r.2) := by
  obtain ⟨x, e, h⟩ := tt_M_told (a1 := a1) hσ.1
  have hw := wr_M_told a1 σ x e
  exact ⟨x, e, h, qT_keep (fun k i hd => hw k i (fun q => by unfold wS_M_told at q; unfold qD at hd; omega)) hσ.2⟩
theorem tI_K_change {a1 : Int32} {σ : wc_S} (hσ : wQ σ) : wk (wf_K_change a1 σ) (fun r => wQ r.2) := by
  obtain ⟨x, e, h⟩ := tt_K_change (a1 := a1) hσ.1
  have hw := wr_K_change a1 σ x e
  exact ⟨x, e, h, qT_keep (fun k i hd => hw k i (fun q => by unfold wS_K_change at q; unfold qD at hd; omega)) hσ.2⟩
theorem tI_M_change {a1 : Int32} {σ : wc_S} (hσ : wQ σ) : wk (wf_M_change a1 σ) (fun r => wQ r.2) := by
  obtain ⟨x, e, h⟩ := tt_M_change (a1 := a1) hσ.1
  have hw := wr_M_change a1 σ x e
  exact ⟨x, e, h, qT_keep (fun k i hd => hw k i (fun q => by unfold wS_M_change at q; unfold qD at hd; omega)) hσ.2⟩
theorem tI_K_jump {a1 a2 : Int32} {σ : wc_S} (hσ : wQ σ) : wk (wf_K_jump a1 a2 σ) (fun r => wQ r.2) := by
  obtain ⟨x, e, h⟩ := tt_K_jump (a1 := a1) (a2 := a2) hσ.1
  have hw := wr_K_jump a1 a2 σ x e
  exact ⟨x, e, h, qT_keep (fun k i hd => hw k i (fun q => by unfold wS_K_jump at q; unfold qD at hd; omega)) hσ.2⟩
theorem tI_M_jump {a1 a2 : Int32} {σ : wc_S} (hσ : wQ σ) : wk (wf_M_jump a1 a2 σ) (fun r => wQ r.2) := by
  obtain ⟨x, e, h⟩ := tt_M_jump (a1 := a1) (a2 := a2) hσ.1
  have hw := wr_M_jump a1 a2 σ x e
  exact ⟨x, e, h, qT_keep (fun k i hd => hw k i (fun q => by unfold wS_M_jump at q; unfold qD at hd; omega)) hσ.2⟩
theorem tI_K_tell {a1 : Int64} {σ : wc_S} (hσ : wQ σ) : wk (wf_K_tell a1 σ) (fun r => wQ r.2) := by
  obtain ⟨x, e, h⟩ := tt_K_tell (a1 := a1) hσ.1
  have hw := wr_K_tell a1 σ x e
  exact ⟨x, e, h, qT_keep (fun k i hd => hw k i (fun q => by unfold wS_K_tell at q; unfold qD at hd; omega)) hσ.2⟩
theorem tI_M_tell {a1 : Int64} {σ : wc_S} (hσ : wQ σ) : wk (wf_M_tell a1 σ) (wQ) := by
  obtain ⟨x, e, h⟩ := tt_M_tell (a1 := a1) hσ.1
  have hw := wr_M_tell a1 σ x e
  exact ⟨x, e, h, qT_keep (fun k i hd => hw k i (fun q => by unfold wS_M_tell at q; unfold qD at hd; omega)) hσ.2⟩
theorem tI_K_improve {a1 : Int32} {σ : wc_S} (hσ : wQ σ) : wk (wf_K_improve a1 σ) (fun r => wQ r.2) := by
  obtain ⟨x, e, h⟩ := tt_K_improve (a1 := a1) hσ.1
  have hw := wr_K_improve a1 σ x e
  exact ⟨x, e, h, qT_keep (fun k i hd => hw k i (fun q => by unfold wS_K_improve at q; unfold qD at hd; omega)) hσ.2⟩
theorem tI_M_improve {a1 : Int32} {σ : wc_S} (hσ : wQ σ) : wk (wf_M_improve a1 σ) (fun r => wQ r.2) := by
  obtain ⟨x, e, h⟩ := tt_M_improve (a1 := a1) hσ.1
  have hw := wr_M_improve a1 σ x e
  exact ⟨x, e, h, qT_keep (fun k i hd => hw k i (fun q => by unfold wS_M_improve at q; unfold qD at hd; omega)) hσ.2⟩
theorem tI_W_bound {σ : wc_S} (hσ : wQ σ) : wk (wf_W_bound σ) (fun r => wQ r.2) := by
  obtain ⟨x, e, h⟩ := tt_W_bound hσ.1
  have hw := wr_W_bound σ x e
  exact ⟨x, e, h, qT_keep (fun k i hd => hw k i (fun q => by unfold wS_W_bound at q; unfold qD at hd; omega)) hσ.2⟩
theorem tI_M_bound {σ : wc_S} (hσ : wQ σ) : wk (wf_M_bound σ) (fun r => wQ r.2) := by
  obtain ⟨x, e, h⟩ := tt_M_bound hσ.1
  have hw := wr_M_bound σ x e
  exact ⟨x, e, h, qT_keep (fun k i hd => hw k i (fun q => by unfold wS_M_bound at q; unfold qD at hd; omega)) hσ.2⟩
theorem qT_coil {σ y : wc_S} {a b c d : Int32} (hT : qT σ) (ha : ¬ a < 1 ∧ a ≤ 2000) (hK : ∀ k i, 0 < k → k < 9 ∨ 17 < k → k < 71 → y k i = uC a b c d (σ 1 10) σ k i) (hM : ∀ k i, (72 ≤ k ∧ k < 88) ∨ (k = 71 ∧ (i = 1 ∨ i = 12 ∨ i = 16)) → y k i = uMC a b c d (σ 71 1) σ k i) (hP : qP y) : qT y := by
  obtain ⟨⟨h1, h2, h3, h4, h5⟩, hc, hr, hb, -⟩ := hT
  refine ⟨⟨?_, ?_, ?_, ?_, ?_⟩, fun k i k2 k7 => ?_, fun k i k3 i8 => ?_, fun i => ?_, hP⟩
  · rw [hK 1 10 (by decide) (by decide) (by decide), hM 71 1 (by decide)]; simp [uC, uMC, wu_at, h1]
  · rw [hK 1 11 (by decide) (by decide) (by decide), hM 71 16 (by decide)]; simp [uC, uMC, wu_at, h2]
  · rw [hK 26 3 (by decide) (by decide) (by decide), hM 71 12 (by decide)]; simp [uC, uMC, wu_at, h3]
  · rw [hK 18 3 (by decide) (by decide) (by decide), hM 78 0 (by decide)]; simp [uC, uMC, wu_at, h4]
  · rw [hK 22 3 (by decide) (by decide) (by decide), hM 78 1 (by decide)]; simp [uC, uMC, wu_at, h5]
  · rw [hK k i (by omega) (by omega) (by omega), hM (k + 70) i (by omega)]
    have e := hc k i k2 k7
    have kk : k = 2 ∨ k = 3 ∨ k = 4 ∨ k = 5 ∨ k = 6 ∨ k = 7 := by omega
    rcases kk with rfl | rfl | rfl | rfl | rfl | rfl <;> (simp [uC, uMC, wu_at, h1] at e ⊢; try rw [e])
  · rw [hK (19 + k) i (by omega) (by omega) (by omega), hM (79 + k) i (by omega), hK (23 + k) i (by omega) (by omega) (by omega), hM (79 + k) (8 + i) (by omega)]
    have e := hr k i k3 i8
    have kk : k = 0 ∨ k = 1 ∨ k = 2 := by omega
    rcases kk with rfl | rfl | rfl <;> (simp [uC, uMC, wu_at] at e ⊢; exact e)
  · rw [hK 2 i (by omega) (by omega) (by omega), hK 21 i (by omega) (by omega) (by omega), hK 25 i (by omega) (by omega) (by omega)]
    have e := hb i
    have ha2 : 0 ≤ a.toInt ∧ a.toInt ≤ 2000 := by
      have q := ha
      rw [wn_lt, wn_le, wn_1, show (2000 : Int32).toInt = 2000 from rfl] at q; omega
    simp [uC, wu_at]
    refine ⟨?_, e.2⟩
    split
    · exact ha2
    · exact e.1
theorem qT_group {σ y : wc_S} {a b c : Int32} (hT : qT σ)  (hK : ∀ k i, 0 < k → k < 9 ∨ 17 < k → k < 71 → y k i = uG a b c (σ 26 3) σ k i) (hM : ∀ k i, (72 ≤ k ∧ k < 88) ∨ (k = 71 ∧ (i = 1 ∨ i = 12 ∨ i = 16)) → y k i = uMG a b c (σ 71 12) σ k i) (hP : qP y) : qT y := by
  obtain ⟨⟨h1, h2, h3, h4, h5⟩, hc, hr, hb, -⟩ := hT
  refine ⟨⟨?_, ?_, ?_, ?_, ?_⟩, fun k i k2 k7 => ?_, fun k i k3 i8 => ?_, fun i => ?_, hP⟩
  · rw [hK 1 10 (by decide) (by decide) (by decide), hM 71 1 (by decide)]; simp [uG, uMG, wu_at, h1]
  · rw [hK 1 11 (by decide) (by decide) (by decide), hM 71 16 (by decide)]; simp [uG, uMG, wu_at, h2]
  · rw [hK 26 3 (by decide) (by decide) (by decide), hM 71 12 (by decide)]; simp [uG, uMG, wu_at, h3]
  · rw [hK 18 3 (by decide) (by decide) (by decide), hM 78 0 (by decide)]; simp [uG, uMG, wu_at, h4]
  · rw [hK 22 3 (by decide) (by decide) (by decide), hM 78 1 (by decide)]; simp [uG, uMG, wu_at, h5]
  · rw [hK k i (by omega) (by omega) (by omega), hM (k + 70) i (by omega)]
    have e := hc k i k2 k7
    have kk : k = 2 ∨ k = 3 ∨ k = 4 ∨ k = 5 ∨ k = 6 ∨ k = 7 := by omega
    rcases kk with rfl | rfl | rfl | rfl | rfl | rfl <;> (simp [uG, uMG, wu_at] at e ⊢; exact e)
  · rw [hK (19 + k) i (by omega) (by omega) (by omega), hM (79 + k) i (by omega), hK (23 + k) i (by omega) (by omega) (by omega), hM (79 + k) (8 + i) (by omega)]
    have e := hr k i k3 i8
    have kk : k = 0 ∨ k = 1 ∨ k = 2 := by omega
    rcases kk with rfl | rfl | rfl <;> (simp [uG, uMG, wu_at] at e ⊢; exact e)
  · rw [hK 2 i (by omega) (by omega) (by omega), hK 21 i (by omega) (by omega) (by omega), hK 25 i (by omega) (by omega) (by omega)]
    have e := hb i
    simp [uG, wu_at]; exact e
theorem qT_urgent {σ y : wc_S} {a b : Int32} (hT : qT σ)  (hK : ∀ k i, 0 < k → k < 9 ∨ 17 < k → k < 71 → y k i = wc_u σ 6 a.toNatClampNeg b k i) (hM : ∀ k i, (72 ≤ k ∧ k < 88) ∨ (k = 71 ∧ (i = 1 ∨ i = 12 ∨ i = 16)) → y k i = wc_u σ 76 a.toNatClampNeg b k i) (hP : qP y) : qT y := by
  obtain ⟨⟨h1, h2, h3, h4, h5⟩, hc, hr, hb, -⟩ := hT
  refine ⟨⟨?_, ?_, ?_, ?_, ?_⟩, fun k i k2 k7 => ?_, fun k i k3 i8 => ?_, fun i => ?_, hP⟩
  · rw [hK 1 10 (by decide) (by decide) (by decide), hM 71 1 (by decide)]; simp [wu_at, h1]
  · rw [hK 1 11 (by decide) (by decide) (by decide), hM 71 16 (by decide)]; simp [wu_at, h2]
  · rw [hK 26 3 (by decide) (by decide) (by decide), hM 71 12 (by decide)]; simp [wu_at, h3]
  · rw [hK 18 3 (by decide) (by decide) (by decide), hM 78 0 (by decide)]; simp [wu_at, h4]
  · rw [hK 22 3 (by decide) (by decide) (by decide), hM 78 1 (by decide)]; simp [wu_at, h5]
  · rw [hK k i (by omega) (by omega) (by omega), hM (k + 70) i (by omega)]
    have e := hc k i k2 k7
    have kk : k = 2 ∨ k = 3 ∨ k = 4 ∨ k = 5 ∨ k = 6 ∨ k = 7 := by omega
    rcases kk with rfl | rfl | rfl | rfl | rfl | rfl <;> (simp [wu_at] at e ⊢; try rw [e])
  · rw [hK (19 + k) i (by omega) (by omega) (by omega), hM (79 + k) i (by omega), hK (23 + k) i (by omega) (by omega) (by omega), hM (79 + k) (8 + i) (by omega)]
    have e := hr k i k3 i8
    have kk : k = 0 ∨ k = 1 ∨ k = 2 := by omega
    rcases kk with rfl | rfl | rfl <;> (simp [wu_at] at e ⊢; exact e)
  · rw [hK 2 i (by omega) (by omega) (by omega), hK 21 i (by omega) (by omega) (by omega), hK 25 i (by omega) (by omega) (by omega)]
    have e := hb i
    simp [wu_at]; exact e
theorem qT_old {σ y : wc_S} {a b : Int32} (hT : qT σ)  (hK : ∀ k i, 0 < k → k < 9 ∨ 17 < k → k < 71 → y k i = wc_u σ 7 a.toNatClampNeg b k i) (hM : ∀ k i, (72 ≤ k ∧ k < 88) ∨ (k = 71 ∧ (i = 1 ∨ i = 12 ∨ i = 16)) → y k i = wc_u σ 77 a.toNatClampNeg b k i) (hP : qP y) : qT y := by
  obtain ⟨⟨h1, h2, h3, h4, h5⟩, hc, hr, hb, -⟩ := hT
  refine ⟨⟨?_, ?_, ?_, ?_, ?_⟩, fun k i k2 k7 => ?_, fun k i k3 i8 => ?_, fun i => ?_, hP⟩
  · rw [hK 1 10 (by decide) (by decide) (by decide), hM 71 1 (by decide)]; simp [wu_at, h1]
  · rw [hK 1 11 (by decide) (by decide) (by decide), hM 71 16 (by decide)]; simp [wu_at, h2]
  · rw [hK 26 3 (by decide) (by decide) (by decide), hM 71 12 (by decide)]; simp [wu_at, h3]
  · rw [hK 18 3 (by decide) (by decide) (by decide), hM 78 0 (by decide)]; simp [wu_at, h4]
  · rw [hK 22 3 (by decide) (by decide) (by decide), hM 78 1 (by decide)]; simp [wu_at, h5]
  · rw [hK k i (by omega) (by omega) (by omega), hM (k + 70) i (by omega)]
    have e := hc k i k2 k7
    have kk : k = 2 ∨ k = 3 ∨ k = 4 ∨ k = 5 ∨ k = 6 ∨ k = 7 := by omega
    rcases kk with rfl | rfl | rfl | rfl | rfl | rfl <;> (simp [wu_at] at e ⊢; try rw [e])
  · rw [hK (19 + k) i (by omega) (by omega) (by omega), hM (79 + k) i (by omega), hK (23 + k) i (by omega) (by omega) (by omega), hM (79 + k) (8 + i) (by omega)]
    have e := hr k i k3 i8
    have kk : k = 0 ∨ k = 1 ∨ k = 2 := by omega
    rcases kk with rfl | rfl | rfl <;> (simp [wu_at] at e ⊢; exact e)
  · rw [hK 2 i (by omega) (by omega) (by omega), hK 21 i (by omega) (by omega) (by omega), hK 25 i (by omega) (by omega) (by omega)]
    have e := hb i
    simp [wu_at]; exact e
theorem qT_rules {σ y : wc_S} {a b c d : Int32} (hT : qT σ)  (hK : ∀ k i, 0 < k → k < 9 ∨ 17 < k → k < 71 → y k i = wc_u (wc_u (wc_u (wc_u σ 1 11 a) 1 12 b) 1 13 c) 1 14 d k i) (hM : ∀ k i, (72 ≤ k ∧ k < 88) ∨ (k = 71 ∧ (i = 1 ∨ i = 12 ∨ i = 16)) → y k i = wc_u (wc_u (wc_u (wc_u σ 71 16 a) 71 17 b) 71 18 c) 71 19 d k i) (hP : qP y) : qT y := by
  obtain ⟨⟨h1, h2, h3, h4, h5⟩, hc, hr, hb, -⟩ := hT
  refine ⟨⟨?_, ?_, ?_, ?_, ?_⟩, fun k i k2 k7 => ?_, fun k i k3 i8 => ?_, fun i => ?_, hP⟩
  · rw [hK 1 10 (by decide) (by decide) (by decide), hM 71 1 (by decide)]; simp [wu_at, h1]
  · rw [hK 1 11 (by decide) (by decide) (by decide), hM 71 16 (by decide)]; simp [wu_at, h2]
  · rw [hK 26 3 (by decide) (by decide) (by decide), hM 71 12 (by decide)]; simp [wu_at, h3]
  · rw [hK 18 3 (by decide) (by decide) (by decide), hM 78 0 (by decide)]; simp [wu_at, h4]
  · rw [hK 22 3 (by decide) (by decide) (by decide), hM 78 1 (by decide)]; simp [wu_at, h5]
  · rw [hK k i (by omega) (by omega) (by omega), hM (k + 70) i (by omega)]
    have e := hc k i k2 k7
    have kk : k = 2 ∨ k = 3 ∨ k = 4 ∨ k = 5 ∨ k = 6 ∨ k = 7 := by omega
    rcases kk with rfl | rfl | rfl | rfl | rfl | rfl <;> (simp [wu_at] at e ⊢; exact e)
  · rw [hK (19 + k) i (by omega) (by omega) (by omega), hM (79 + k) i (by omega), hK (23 + k) i (by omega) (by omega) (by omega), hM (79 + k) (8 + i) (by omega)]
    have e := hr k i k3 i8
    have kk : k = 0 ∨ k = 1 ∨ k = 2 := by omega
    rcases kk with rfl | rfl | rfl <;> (simp [wu_at] at e ⊢; exact e)
  · rw [hK 2 i (by omega) (by omega) (by omega), hK 21 i (by omega) (by omega) (by omega), hK 25 i (by omega) (by omega) (by omega)]
    have e := hb i
    simp [wu_at]; exact e
theorem qT_table0 {σ y : wc_S} {a b c : Int32} (hT : qT σ) (hJ : wJ 0 σ) (hl : σ 18 3 < 8) (ha : ¬ c < 0 ∧ c ≤ 10000) (hK : ∀ k i, 0 < k → k < 9 ∨ 17 < k → k < 71 → y k i = uR 18 a b c (σ 18 3) σ k i) (hM : ∀ k i, (72 ≤ k ∧ k < 88) ∨ (k = 71 ∧ (i = 1 ∨ i = 12 ∨ i = 16)) → y k i = uMR 0 a b c (σ 78 0) σ k i) (hP : qP y) : qT y := by
  obtain ⟨⟨h1, h2, h3, h4, h5⟩, hc, hr, hb, -⟩ := hT
  have hn := i_8 hJ (k := 78) (i := 0) (by omega)
  have hl2 : (σ 78 0).toInt < 8 := by rw [← h4]; rw [wn_lt, wn_8] at hl; exact hl
  have en : (σ 78 0).toNatClampNeg < 8 := by rw [wn_tn]; omega
  have enk : (σ 18 3) = σ 78 0 := h4
  refine ⟨⟨?_, ?_, ?_, ?_, ?_⟩, fun k i k2 k7 => ?_, fun k i k3 i8 => ?_, fun i => ?_, hP⟩
  · rw [hK 1 10 (by decide) (by decide) (by decide), hM 71 1 (by decide)]; simp [uR, uMR, wu_at, h1]
  · rw [hK 1 11 (by decide) (by decide) (by decide), hM 71 16 (by decide)]; simp [uR, uMR, wu_at, h2]
  · rw [hK 26 3 (by decide) (by decide) (by decide), hM 71 12 (by decide)]; simp [uR, uMR, wu_at, h3]
  · rw [hK 18 3 (by decide) (by decide) (by decide), hM 78 0 (by decide)]; simp [uR, uMR, wu_at, h4]
  · rw [hK 22 3 (by decide) (by decide) (by decide), hM 78 1 (by decide)]; simp [uR, uMR, wu_at, h5]
  · rw [hK k i (by omega) (by omega) (by omega), hM (k + 70) i (by omega)]
    have e := hc k i k2 k7
    have kk : k = 2 ∨ k = 3 ∨ k = 4 ∨ k = 5 ∨ k = 6 ∨ k = 7 := by omega
    rcases kk with rfl | rfl | rfl | rfl | rfl | rfl <;> (simp [uR, uMR, wu_at] at e ⊢; exact e)
  · rw [hK (19 + k) i (by omega) (by omega) (by omega), hM (79 + k) i (by omega), hK (23 + k) i (by omega) (by omega) (by omega), hM (79 + k) (8 + i) (by omega)]
    have e := hr k i k3 i8
    have kk : k = 0 ∨ k = 1 ∨ k = 2 := by omega
    rcases kk with rfl | rfl | rfl <;> (simp only [uR, uMR, wu_at, h4]; simp; exact ⟨by split <;> first | rfl | (simp at e; exact e.1), by rw [if_neg (by omega)]; simp at e; exact e.2⟩)
  · rw [hK 2 i (by omega) (by omega) (by omega), hK 21 i (by omega) (by omega) (by omega), hK 25 i (by omega) (by omega) (by omega)]
    have e := hb i
    have ha2 : 0 ≤ c.toInt ∧ c.toInt ≤ 10000 := by
      have q := ha
      rw [wn_lt, wn_le, wn_0, show (10000 : Int32).toInt = 10000 from rfl] at q; omega
    simp [uR, wu_at]
    refine ⟨e.1, ?_, ?_⟩
    · split
      · exact ha2
      · exact e.2.1
    · exact e.2.2
theorem qT_table1 {σ y : wc_S} {a b c : Int32} (hT : qT σ) (hJ : wJ 0 σ) (hl : σ 22 3 < 8) (ha : ¬ c < 0 ∧ c ≤ 10000) (hK : ∀ k i, 0 < k → k < 9 ∨ 17 < k → k < 71 → y k i = uR 22 a b c (σ 22 3) σ k i) (hM : ∀ k i, (72 ≤ k ∧ k < 88) ∨ (k = 71 ∧ (i = 1 ∨ i = 12 ∨ i = 16)) → y k i = uMR 1 a b c (σ 78 1) σ k i) (hP : qP y) : qT y := by
  obtain ⟨⟨h1, h2, h3, h4, h5⟩, hc, hr, hb, -⟩ := hT
  have hn := i_8 hJ (k := 78) (i := 1) (by omega)
  have hl2 : (σ 78 1).toInt < 8 := by rw [← h5]; rw [wn_lt, wn_8] at hl; exact hl
  have en : (σ 78 1).toNatClampNeg < 8 := by rw [wn_tn]; omega
  have enk : (σ 22 3) = σ 78 1 := h5
  refine ⟨⟨?_, ?_, ?_, ?_, ?_⟩, fun k i k2 k7 => ?_, fun k i k3 i8 => ?_, fun i => ?_, hP⟩
  · rw [hK 1 10 (by decide) (by decide) (by decide), hM 71 1 (by decide)]; simp [uR, uMR, wu_at, h1]
  · rw [hK 1 11 (by decide) (by decide) (by decide), hM 71 16 (by decide)]; simp [uR, uMR, wu_at, h2]
  · rw [hK 26 3 (by decide) (by decide) (by decide), hM 71 12 (by decide)]; simp [uR, uMR, wu_at, h3]
  · rw [hK 18 3 (by decide) (by decide) (by decide), hM 78 0 (by decide)]; simp [uR, uMR, wu_at, h4]
  · rw [hK 22 3 (by decide) (by decide) (by decide), hM 78 1 (by decide)]; simp [uR, uMR, wu_at, h5]
  · rw [hK k i (by omega) (by omega) (by omega), hM (k + 70) i (by omega)]
    have e := hc k i k2 k7
    have kk : k = 2 ∨ k = 3 ∨ k = 4 ∨ k = 5 ∨ k = 6 ∨ k = 7 := by omega
    rcases kk with rfl | rfl | rfl | rfl | rfl | rfl <;> (simp [uR, uMR, wu_at] at e ⊢; exact e)
  · rw [hK (19 + k) i (by omega) (by omega) (by omega), hM (79 + k) i (by omega), hK (23 + k) i (by omega) (by omega) (by omega), hM (79 + k) (8 + i) (by omega)]
    have e := hr k i k3 i8
    have kk : k = 0 ∨ k = 1 ∨ k = 2 := by omega
    rcases kk with rfl | rfl | rfl <;> (simp only [uR, uMR, wu_at, h5]; simp; exact ⟨by rw [if_neg (by omega)]; simp at e; exact e.1, by split <;> first | rfl | (simp at e; exact e.2)⟩)
  · rw [hK 2 i (by omega) (by omega) (by omega), hK 21 i (by omega) (by omega) (by omega), hK 25 i (by omega) (by omega) (by omega)]
    have e := hb i
    have ha2 : 0 ≤ c.toInt ∧ c.toInt ≤ 10000 := by
      have q := ha
      rw [wn_lt, wn_le, wn_0, show (10000 : Int32).toInt = 10000 from rfl] at q; omega
    simp [uR, wu_at]
    refine ⟨e.1, ?_, ?_⟩
    · exact e.2.1
    · split
      · exact ha2
      · exact e.2.2
theorem tQ_coil {a b c d : Int32} {σ : wc_S} (hσ : wQ σ) : wk (wf_K_coil a b c d σ) (fun r => wJ 0 r.2 ∧ wk (wf_M_coil a b c d r.2) (fun s => wQ s.2 ∧ s.2 71 0 = r.1 ∧ (r.1 = 0 → s.2 88 0 = s.1))) := by
  obtain ⟨hJ, hT⟩ := hσ
  obtain ⟨x, e, h, hx⟩ := wk_pk (tt_K_coil (a1 := a) (a2 := b) (a3 := c) (a4 := d) hJ) (pq_Kcoil a b c d σ hJ)
  have hw := wr_K_coil a b c d σ x e
  have mm : ∀ k i, 71 ≤ k → k < 88 → x.2 k i = σ k i := fun k i h1 h2 => hw k i (fun q => by unfold wS_K_coil at q; omega)
  refine ⟨x, e, h, ?_⟩
  obtain ⟨y, e2, h2, hy⟩ := wk_pk (tt_M_coil (a1 := a) (a2 := b) (a3 := c) (a4 := d) h) (pq_Mcoil a b c d x.2)
  have hw2 := wr_M_coil a b c d x.2 y e2
  have cl : ∀ k i, k < 71 ∨ k = 88 → y.2 k i = x.2 k i := fun k i h1 => hw2 k i (fun q => by unfold wS_M_coil at q; omega)
  have T := hT
  obtain ⟨⟨h1, h2', h3, h4, h5⟩, -, -, -, hP⟩ := hT
  have hr : y.2 71 0 = x.1 := by rw [hy.1, hx.1, mm 71 1 (by decide) (by decide), h1]
  by_cases h0 : x.1 = 0
  · obtain ⟨hK, hKP, hK8⟩ := hx.2.1 h0
    obtain ⟨hM, hMr⟩ := hy.2.1 (hr.trans h0)
    have ha : ¬ a < 1 ∧ a ≤ 2000 := by
      have q := hx.1.symm.trans h0
      unfold wR_coil at q
      by_cases hh : ¬ a < 1 ∧ a ≤ 2000
      · exact hh
      · rw [if_neg (fun z => hh z.1)] at q; exact absurd q (by decide)
    have T2 : qT y.2 := by
      refine qT_coil (a := a) (b := b) (c := c) (d := d) T ha (fun k i g0 g1 g2 => ?_) (fun k i g => ?_) (qP_keep (fun k i g => cl k i (by omega)) (hKP hP))
      · rw [cl k i (by omega)]; exact hK k i g0 g1 (by omega)
      · rw [hM k i (by omega), mm 71 1 (by decide) (by decide)]; exact uMC_cong (mm k i (by omega) (by omega))
    refine ⟨y, e2, ⟨h2, T2⟩, hr, fun _ => ?_⟩
    rw [cl 88 0 (by decide), hK8, hMr, mm 71 1 (by decide) (by decide), h1]
    exact (Int32.add_sub_cancel _ _).symm
  · have ex : x.2 = σ := hx.2.2 h0
    have ky := hy.2.2 (by rw [hr]; exact h0)
    have T2 : qT y.2 := qT_keep (fun k i hd => by rw [ky k i (by unfold qD at hd; omega), ex]) T
    exact ⟨y, e2, ⟨h2, T2⟩, hr, fun q => absurd q h0⟩
theorem tQ_group {a b c : Int32} {σ : wc_S} (hσ : wQ σ) : wk (wf_K_group a b c σ) (fun r => wJ 0 r.2 ∧ wk (wf_M_group a b c r.2) (fun s => wQ s.2 ∧ s.2 71 0 = r.1 ∧ (r.1 = 0 → s.2 88 0 = s.1))) := by
  obtain ⟨hJ, hT⟩ := hσ
  obtain ⟨x, e, h, hx⟩ := wk_pk (tt_K_group (a1 := a) (a2 := b) (a3 := c) hJ) (pq_Kgroup a b c σ hJ)
  have hw := wr_K_group a b c σ x e
  have mm : ∀ k i, 71 ≤ k → k < 88 → x.2 k i = σ k i := fun k i h1 h2 => hw k i (fun q => by unfold wS_K_group at q; omega)
  refine ⟨x, e, h, ?_⟩
  obtain ⟨y, e2, h2, hy⟩ := wk_pk (tt_M_group (a1 := a) (a2 := b) (a3 := c) h) (pq_Mgroup a b c x.2)
  have hw2 := wr_M_group a b c x.2 y e2
  have cl : ∀ k i, k < 71 ∨ k = 88 → y.2 k i = x.2 k i := fun k i h1 => hw2 k i (fun q => by unfold wS_M_group at q; omega)
  have T := hT
  obtain ⟨⟨h1, h2', h3, h4, h5⟩, -, -, -, hP⟩ := hT
  have hr : y.2 71 0 = x.1 := by rw [hy.1, hx.1, mm 71 12 (by decide) (by decide), h3]
  by_cases h0 : x.1 = 0
  · obtain ⟨hK, hKP, hK8⟩ := hx.2.1 h0
    obtain ⟨hM, hMr⟩ := hy.2.1 (hr.trans h0)
    have T2 : qT y.2 := by
      refine qT_group (a := a) (b := b) (c := c) T (fun k i g0 g1 g2 => ?_) (fun k i g => ?_) (qP_keep (fun k i g => cl k i (by omega)) (hKP hP))
      · rw [cl k i (by omega)]; exact hK k i g0 g1 (by omega)
      · rw [hM k i (by omega), mm 71 12 (by decide) (by decide)]; exact uMG_cong (mm k i (by omega) (by omega))
    refine ⟨y, e2, ⟨h2, T2⟩, hr, fun _ => ?_⟩
    rw [cl 88 0 (by decide), hK8, hMr, mm 71 12 (by decide) (by decide), h3]
  · have ex : x.2 = σ := hx.2.2 h0
    have ky := hy.2.2 (by rw [hr]; exact h0)
    have T2 : qT y.2 := qT_keep (fun k i hd => by rw [ky k i (by unfold qD at hd; omega), ex]) T
    exact ⟨y, e2, ⟨h2, T2⟩, hr, fun q => absurd q h0⟩
theorem tQ_table {k a b c : Int32} {σ : wc_S} (hσ : wQ σ) : wk (wf_K_table k a b c σ) (fun r => wJ 0 r.2 ∧ wk (wf_M_table k a b c r.2) (fun s => wQ s.2 ∧ s.2 71 0 = r.1 ∧ (r.1 = 0 → s.2 88 0 = s.1))) := by
  obtain ⟨hJ, hT⟩ := hσ
  obtain ⟨x, e, h, hx⟩ := wk_pk (tt_K_table (a1 := k) (a2 := a) (a3 := b) (a4 := c) hJ) (pq_Ktable k a b c σ hJ)
  have hw := wr_K_table k a b c σ x e
  have mm : ∀ k i, 71 ≤ k → k < 88 → x.2 k i = σ k i := fun k i h1 h2 => hw k i (fun q => by unfold wS_K_table at q; omega)
  refine ⟨x, e, h, ?_⟩
  obtain ⟨y, e2, h2, hy⟩ := wk_pk (tt_M_table (a1 := k) (a2 := a) (a3 := b) (a4 := c) h) (pq_Mtable k a b c x.2 h)
  have hw2 := wr_M_table k a b c x.2 y e2
  have cl : ∀ k i, k < 71 ∨ k = 88 → y.2 k i = x.2 k i := fun k i h1 => hw2 k i (fun q => by unfold wS_M_table at q; omega)
  have T := hT
  obtain ⟨⟨h1, h2', h3, h4, h5⟩, -, -, -, hP⟩ := hT
  have hb : ∀ kk : k = 0 ∨ k = 1, σ (qb k) 3 = σ 78 k.toInt.toNat := by
    intro kk
    rcases kk with rfl | rfl
    · exact h4
    · exact h5
  have kn : x.2 78 k.toInt.toNat = σ 78 k.toInt.toNat := mm 78 _ (by decide) (by decide)
  have hk01 : ∀ {n : Int32}, wR_table k a b c n ≠ 1 → k = 0 ∨ k = 1 := by
    intro n q
    unfold wR_table at q
    by_cases hk : ¬ k < 0 ∧ k ≤ 1
    · have q := hk
      rw [wn_lt, wn_le, wn_0, wn_1] at q
      rw [wn_eq, wn_eq, wn_0, wn_1]; omega
    · rw [if_neg hk] at q; exact absurd rfl q
  have hR : wR_table k a b c (σ (qb k) 3) = wR_table k a b c (σ 78 k.toInt.toNat) := by
    by_cases hk : ¬ k < 0 ∧ k ≤ 1
    · rw [hb (by
        have q := hk
        rw [wn_lt, wn_le, wn_0, wn_1] at q
        rw [wn_eq, wn_eq, wn_0, wn_1]; omega)]
    · unfold wR_table; rw [if_neg hk, if_neg hk]
  have hr : y.2 71 0 = x.1 := by rw [hy.1, hx.1, kn, hR]
  by_cases h0 : x.1 = 0
  · obtain ⟨hK, hKP, hK8⟩ := hx.2.1 h0
    obtain ⟨hM, hMr⟩ := hy.2.1 (hr.trans h0)
    have q0 := hx.1.symm.trans h0
    have kk : k = 0 ∨ k = 1 := hk01 (by rw [q0]; decide)
    have hl : σ (qb k) 3 < 8 ∧ (¬ c < 0 ∧ c ≤ 10000) := by
      unfold wR_table at q0
      split at q0
      · split at q0
        · rename_i hc
          split at q0
          · rename_i hl
            exact ⟨hl, hc.2.2⟩
          · exact absurd q0 (by decide)
        · exact absurd q0 (by decide)
      · exact absurd q0 (by decide)
    have T2 : qT y.2 := by
      have P2 : qP y.2 := qP_keep (fun k i g => cl k i (by omega)) hKP
      have gK : ∀ j i, 0 < j → j < 9 ∨ 17 < j → j < 71 → y.2 j i = uR (qb k) a b c (σ (qb k) 3) σ j i := fun j i g0 g1 g2 => by
        rw [cl j i (by omega)]; exact hK j i g0 g1 (by omega)
      have gM : ∀ j i, (72 ≤ j ∧ j < 88) ∨ (j = 71 ∧ (i = 1 ∨ i = 12 ∨ i = 16)) → y.2 j i = uMR k.toInt.toNat a b c (σ 78 k.toInt.toNat) σ j i := fun j i g => by
        rw [hM j i (by omega), kn]; exact uMR_cong (mm j i (by omega) (by omega))
      rcases kk with rfl | rfl
      · exact qT_table0 T hJ hl.1 hl.2 gK gM P2
      · exact qT_table1 T hJ hl.1 hl.2 gK gM P2
    refine ⟨y, e2, ⟨h2, T2⟩, hr, fun _ => ?_⟩
    rw [cl 88 0 (by decide), hK8, hMr, kn, hb kk]
  · have ex : x.2 = σ := hx.2.2 h0
    have ky := hy.2.2 (by rw [hr]; exact h0)
    have T2 : qT y.2 := qT_keep (fun k i hd => by rw [ky k i (by unfold qD at hd; omega), ex]) T
    exact ⟨y, e2, ⟨h2, T2⟩, hr, fun q => absurd q h0⟩
theorem tQ_urgent {a b : Int32} {σ : wc_S} (hσ : wQ σ) : wk (wf_K_urgent a b σ) (fun r => wJ 0 r.2 ∧ wk (wf_M_urgent a b r.2) (fun τ => wQ τ ∧ τ 71 0 = r.1)) := by
  obtain ⟨hJ, hT⟩ := hσ
  obtain ⟨x, e, h, hx⟩ := wk_pk (tt_K_urgent (a1 := a) (a2 := b) hJ) (pq_Kurgent a b σ)
  have hw := wr_K_urgent a b σ x e
  have mm : ∀ k i, 71 ≤ k → k < 88 → x.2 k i = σ k i := fun k i h1 h2 => hw k i (fun q => by unfold wS_K_urgent at q; omega)
  refine ⟨x, e, h, ?_⟩
  obtain ⟨y, e2, h2, hy⟩ := wk_pk (tt_M_urgent (a1 := a) (a2 := b) h) (pq_Murgent a b h)
  have hw2 := wr_M_urgent a b x.2 y e2
  have cl : ∀ k i, k < 71 ∨ k = 88 → y k i = x.2 k i := fun k i h1 => hw2 k i (fun q => by unfold wS_M_urgent at q; omega)
  have T := hT
  obtain ⟨⟨h1, h2', h3, h4, h5⟩, -, -, -, hP⟩ := hT
  have hr : y 71 0 = x.1 := by rw [hy.1, hx.1, mm 71 1 (by decide) (by decide), h1]
  by_cases h0 : x.1 = 0
  · have hK := hx.2.1 h0
    have hM := hy.2.1 (hr.trans h0)
    have T2 : qT y := by
      refine qT_urgent (a := a) (b := b) T (fun k i g0 g1 g2 => ?_) (fun k i g => ?_) (qP_keep (fun k i g => ?_) hP)
      · rw [cl k i (by omega)]; exact hK k i g0
      · rw [hM k i (by omega)]; exact wu_cong (mm k i (by omega) (by omega))
      · rw [cl k i (by omega), hK k i (by omega)]; exact wu_other (by omega)
    exact ⟨y, e2, ⟨h2, T2⟩, hr⟩
  · have ex : x.2 = σ := hx.2.2 h0
    have ky := hy.2.2 (by rw [hr]; exact h0)
    have T2 : qT y := qT_keep (fun k i hd => by rw [ky k i (by unfold qD at hd; omega), ex]) T
    exact ⟨y, e2, ⟨h2, T2⟩, hr⟩
theorem tQ_old {a b : Int32} {σ : wc_S} (hσ : wQ σ) : wk (wf_K_old a b σ) (fun r => wJ 0 r.2 ∧ wk (wf_M_old a b r.2) (fun τ => wQ τ ∧ τ 71 0 = r.1)) := by
  obtain ⟨hJ, hT⟩ := hσ
  obtain ⟨x, e, h, hx⟩ := wk_pk (tt_K_old (a1 := a) (a2 := b) hJ) (pq_Kold a b σ)
  have hw := wr_K_old a b σ x e
  have mm : ∀ k i, 71 ≤ k → k < 88 → x.2 k i = σ k i := fun k i h1 h2 => hw k i (fun q => by unfold wS_K_old at q; omega)
  refine ⟨x, e, h, ?_⟩
  obtain ⟨y, e2, h2, hy⟩ := wk_pk (tt_M_old (a1 := a) (a2 := b) h) (pq_Mold a b h)
  have hw2 := wr_M_old a b x.2 y e2
  have cl : ∀ k i, k < 71 ∨ k = 88 → y k i = x.2 k i := fun k i h1 => hw2 k i (fun q => by unfold wS_M_old at q; omega)
  have T := hT
  obtain ⟨⟨h1, h2', h3, h4, h5⟩, -, -, -, hP⟩ := hT
  have hr : y 71 0 = x.1 := by rw [hy.1, hx.1, mm 71 1 (by decide) (by decide), h1]
  by_cases h0 : x.1 = 0
  · have hK := hx.2.1 h0
    have hM := hy.2.1 (hr.trans h0)
    have T2 : qT y := by
      refine qT_old (a := a) (b := b) T (fun k i g0 g1 g2 => ?_) (fun k i g => ?_) (qP_keep (fun k i g => ?_) hP)
      · rw [cl k i (by omega)]; exact hK k i g0
      · rw [hM k i (by omega)]; exact wu_cong (mm k i (by omega) (by omega))
      · rw [cl k i (by omega), hK k i (by omega)]; exact wu_other (by omega)
    exact ⟨y, e2, ⟨h2, T2⟩, hr⟩
  · have ex : x.2 = σ := hx.2.2 h0
    have ky := hy.2.2 (by rw [hr]; exact h0)
    have T2 : qT y := qT_keep (fun k i hd => by rw [ky k i (by unfold qD at hd; omega), ex]) T
    exact ⟨y, e2, ⟨h2, T2⟩, hr⟩
theorem tQ_rules {a b c d : Int32} {σ : wc_S} (hσ : wQ σ) : wk (wf_K_rules a b c d σ) (fun r => wJ 0 r.2 ∧ wk (wf_M_rules a b c d r.2) (fun τ => wQ τ ∧ τ 71 0 = r.1)) := by
  obtain ⟨hJ, hT⟩ := hσ
  obtain ⟨x, e, h, hx⟩ := wk_pk (tt_K_rules (a1 := a) (a2 := b) (a3 := c) (a4 := d) hJ) (pq_Krules a b c d σ)
  have hw := wr_K_rules a b c d σ x e
  have mm : ∀ k i, 71 ≤ k → k < 88 → x.2 k i = σ k i := fun k i h1 h2 => hw k i (fun q => by unfold wS_K_rules at q; omega)
  refine ⟨x, e, h, ?_⟩
  obtain ⟨y, e2, h2, hy⟩ := wk_pk (tt_M_rules (a1 := a) (a2 := b) (a3 := c) (a4 := d) h) (pq_Mrules a b c d x.2)
  have hw2 := wr_M_rules a b c d x.2 y e2
  have cl : ∀ k i, k < 71 ∨ k = 88 → y k i = x.2 k i := fun k i h1 => hw2 k i (fun q => by unfold wS_M_rules at q; omega)
  have T := hT
  obtain ⟨⟨h1, h2', h3, h4, h5⟩, -, -, -, hP⟩ := hT
  have hr : y 71 0 = x.1 := by rw [hy.1, hx.1]
  by_cases h0 : x.1 = 0
  · have hK := hx.2.1 h0
    have hM := hy.2.1 (hr.trans h0)
    have T2 : qT y := by
      refine qT_rules (a := a) (b := b) (c := c) (d := d) T (fun k i g0 g1 g2 => ?_) (fun k i g => ?_) (qP_keep (fun k i g => ?_) hP)
      · rw [cl k i (by omega)]; exact hK k i g0
      · rw [hM k i (by omega)]; exact wu_cong (wu_cong (wu_cong (wu_cong (mm k i (by omega) (by omega)))))
      · rw [cl k i (by omega), hK k i (by omega)]; rw [wu_other (by omega), wu_other (by omega), wu_other (by omega), wu_other (by omega)]
    exact ⟨y, e2, ⟨h2, T2⟩, hr⟩
  · have ex : x.2 = σ := hx.2.2 h0
    have ky := hy.2.2 (by rw [hr]; exact h0)
    have T2 : qT y := qT_keep (fun k i hd => by rw [ky k i (by unfold qD at hd; omega), ex]) T
    exact ⟨y, e2, ⟨h2, T2⟩, hr⟩
theorem wQ_start : qT wc_0 := by
  refine ⟨⟨rfl, rfl, rfl, rfl, rfl⟩, fun k i k2 k7 => ?_, fun k i k3 i8 => ?_, fun i => ⟨?_, ?_, ?_⟩, fun a b _ ha hb => ?_⟩
  · have kk : k = 2 ∨ k = 3 ∨ k = 4 ∨ k = 5 ∨ k = 6 ∨ k = 7 := by omega
    rcases kk with rfl | rfl | rfl | rfl | rfl | rfl <;> rfl
  · have kk : k = 0 ∨ k = 1 ∨ k = 2 := by omega
    rcases kk with rfl | rfl | rfl <;> exact ⟨rfl, rfl⟩
  · show 0 ≤ (0 : Int32).toInt ∧ (0 : Int32).toInt ≤ 2000; decide
  · show 0 ≤ (0 : Int32).toInt ∧ (0 : Int32).toInt ≤ 10000; decide
  · show 0 ≤ (0 : Int32).toInt ∧ (0 : Int32).toInt ≤ 10000; decide
  · have : (wc_0 1 10).toInt = 0 := rfl
    omega
