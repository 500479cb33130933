/-! what holds of a value, if one comes -/
def pk {α : Type} (o : Option α) (P : α → Prop) : Prop := ∀ x, o = some x → P x
theorem pk_s {α : Type} {x : α} {P : α → Prop} (h : P x) : pk (some x) P := fun y e => by cases e; exact h
theorem pk_n {α : Type} {P : α → Prop} : pk (none : Option α) P := fun y e => by cases e
theorem pk_e {α γ : Type} {x : γ} {f : γ → Option α} {P : α → Prop} (h : ∀ v, v = x → pk (f v) P) : pk (wc_st x f) P := h x rfl
theorem pk_g {α : Type} {c : Bool} {k : Option α} {P : α → Prop} (h : c = true → pk k P) : pk (wc_gd c k) P := by
  cases c with
  | false => exact fun y e => by cases e
  | true => exact h rfl
theorem pk_i {α : Type} {c : Prop} {i : Decidable c} {a b : Option α} {P : α → Prop} (h1 : c → pk a P) (h2 : ¬ c → pk b P) : pk (@ite _ c i a b) P := by
  by_cases h : c
  · rw [if_pos h]; exact h1 h
  · rw [if_neg h]; exact h2 h
theorem pk_b1 {β : Type} {o : Option wc_S} {f : wc_S → Option β} {P : β → Prop} {Q : wc_S → Prop} (h : pk o Q) (h2 : ∀ u, Q u → pk (f u) P) : pk (wc_b1 o f) P := by
  cases o with
  | none => exact fun y e => by cases e
  | some x => exact h2 x (h x rfl)
theorem pk_b2 {β : Type} {o : Option (Int32 × wc_S)} {f : Int32 → wc_S → Option β} {P : β → Prop} {Q : Int32 × wc_S → Prop} (h : pk o Q) (h2 : ∀ r u, Q (r, u) → pk (f r u) P) : pk (wc_b2 o f) P := by
  cases o with
  | none => exact fun y e => by cases e
  | some x => exact h2 x.1 x.2 (h x rfl)
theorem pk_cti {β : Type} {o : Option (wc_X (Int32 × wc_S))} {x : Nat → wc_S → Option β} {f : Int32 → wc_S → Option β} {P : β → Prop} {Q : wc_X (Int32 × wc_S) → Prop} (h : pk o Q) (hl : ∀ k u, Q (.inl (k, u)) → pk (x k u) P) (hr : ∀ r u, Q (.inr (r, u)) → pk (f r u) P) : pk (wc_cti o x f) P := by
  cases o with
  | none => exact fun y e => by cases e
  | some q => cases q with
    | inl u => exact hl u.1 u.2 (h _ rfl)
    | inr u => exact hr u.1 u.2 (h _ rfl)
theorem pk_ctv {β : Type} {o : Option (wc_X wc_S)} {x : Nat → wc_S → Option β} {f : wc_S → Option β} {P : β → Prop} {Q : wc_X wc_S → Prop} (h : pk o Q) (hl : ∀ k u, Q (.inl (k, u)) → pk (x k u) P) (hr : ∀ u, Q (.inr u) → pk (f u) P) : pk (wc_ctv o x f) P := by
  cases o with
  | none => exact fun y e => by cases e
  | some q => cases q with
    | inl u => exact hl u.1 u.2 (h _ rfl)
    | inr u => exact hr u (h _ rfl)
theorem wk_pk {α : Type} {o : Option α} {P Q : α → Prop} (h : wk o P) (h2 : pk o Q) : wk o (fun x => P x ∧ Q x) := by
  obtain ⟨x, e, hp⟩ := h
  exact ⟨x, e, hp, h2 x e⟩
theorem pk_mono {α : Type} {o : Option α} {P Q : α → Prop} (h : pk o P) (h2 : ∀ x, P x → Q x) : pk o Q := fun x e => h2 x (h x e)
/-! counts of class and model, as the calls that change them leave them -/
theorem pk_reckonJumps {σ : wc_S} : pk (wf_P_reckonJumps σ) (fun τ => ∀ k i, k < 9 ∨ 17 < k → τ k i = σ k i) := fun x e k i hk => wr_P_reckonJumps σ x e k i (fun q => by unfold wS_P_reckonJumps at q; omega)
theorem pk_forget {σ : wc_S} : pk (wf_W_forgetOrder σ) (fun τ => ∀ k i, k ≠ 0 → τ k i = σ k i) := fun x e k i hk => wr_W_forgetOrder σ x e k i (fun q => by unfold wS_W_forgetOrder at q; omega)
theorem pk_gone {σ : wc_S} : pk (wf_M_gone σ) (fun τ => ∀ k i, k ≠ 71 ∨ (i ≠ 20 ∧ i ≠ 22) → τ k i = σ k i) := fun x e k i hk => wr_M_gone σ x e k i (fun q => by unfold wS_M_gone at q; omega)
theorem pk_addCoil {a1 a2 a3 a4 : Int32} {σ : wc_S} : pk (wf_P_addCoil a1 a2 a3 a4 σ) (fun r => r.1 = σ 1 10 ∧ r.2 1 10 = σ 1 10 + 1) := by
  unfold wf_P_addCoil
  refine pk_e (fun v1 e1 => ?_)
  refine pk_g (fun _ => pk_e (fun σ3 e3 => pk_g (fun _ => pk_e (fun σ5 e5 => pk_g (fun _ => pk_e (fun σ7 e7 => pk_g (fun _ => pk_e (fun σ9 e9 => pk_g (fun _ => pk_e (fun σ11 e11 => pk_g (fun _ => pk_e (fun σ13 e13 => ?_))))))))))))
  refine pk_e (fun v14 e14 => ?_)
  refine pk_e (fun v15 e15 => ?_)
  refine pk_e (fun σ16 e16 => ?_)
  refine pk_b1 pk_reckonJumps (fun u hu => ?_)
  refine pk_s ⟨e1, ?_⟩
  show u 1 10 = _
  rw [hu 1 10 (by omega), e16, wu_same, e15, e14, e13, wu_other (Or.inl (by decide)), e11, wu_other (Or.inl (by decide)), e9, wu_other (Or.inl (by decide)), e7, wu_other (Or.inl (by decide)), e5, wu_other (Or.inl (by decide)), e3, wu_other (Or.inl (by decide))]
theorem b2s {β : Type} {r : Int32} {σ : wc_S} {f : Int32 → wc_S → Option β} : wc_b2 (some (r, σ)) f = f r σ := rfl
theorem b1s {β : Type} {σ : wc_S} {f : wc_S → Option β} : wc_b1 (some σ) f = f σ := rfl
