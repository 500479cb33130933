/-! a value that comes, with what holds of it -/
def wk {α : Type} (o : Option α) (P : α → Prop) : Prop := ∃ x, o = some x ∧ P x
theorem wk_some {α : Type} {x : α} {P : α → Prop} : wk (some x) P ↔ P x := ⟨fun ⟨y, h, hp⟩ => by cases h; exact hp, fun h => ⟨x, rfl, h⟩⟩
theorem wk_st {α β : Type} {x : α} {f : α → Option β} {P : β → Prop} : wk (wc_st x f) P ↔ wk (f x) P := Iff.rfl
theorem wk_gd {β : Type} {c : Bool} {k : Option β} {P : β → Prop} : wk (wc_gd c k) P ↔ c = true ∧ wk k P := by
  cases c with
  | false => exact ⟨fun ⟨_, h, _⟩ => (by cases h), fun h => (by cases h.1)⟩
  | true => exact ⟨fun h => ⟨rfl, h⟩, fun h => h.2⟩
theorem wk_ite {β : Type} {c : Prop} {i : Decidable c} {a b : Option β} {P : β → Prop} : wk (@ite _ c i a b) P ↔ (c → wk a P) ∧ (¬ c → wk b P) := by
  by_cases h : c
  · rw [if_pos h]; exact ⟨fun k => ⟨fun _ => k, fun n => absurd h n⟩, fun k => k.1 h⟩
  · rw [if_neg h]; exact ⟨fun k => ⟨fun n => absurd n h, fun _ => k⟩, fun k => k.2 h⟩
theorem wk_mono {α : Type} {o : Option α} {P Q : α → Prop} (h : wk o P) (hpq : ∀ x, P x → Q x) : wk o Q := by
  obtain ⟨x, h1, h2⟩ := h
  exact ⟨x, h1, hpq x h2⟩
theorem wk_b1 {β : Type} {o : Option wc_S} {f : wc_S → Option β} {P : β → Prop} {Q : wc_S → Prop} (h : wk o Q) (h2 : ∀ u, Q u → wk (f u) P) : wk (wc_b1 o f) P := by
  obtain ⟨x, rfl, hq⟩ := h
  exact h2 x hq
theorem wk_b2 {β : Type} {o : Option (Int32 × wc_S)} {f : Int32 → wc_S → Option β} {P : β → Prop} {Q : Int32 × wc_S → Prop} (h : wk o Q) (h2 : ∀ r u, Q (r, u) → wk (f r u) P) : wk (wc_b2 o f) P := by
  obtain ⟨x, rfl, hq⟩ := h
  exact h2 x.1 x.2 hq
theorem wk_bx {β : Type} {o : Option (wc_X wc_S)} {f : wc_S → Option (wc_X β)} {P : wc_X β → Prop} {Q : wc_X wc_S → Prop} (h : wk o Q) (hl : ∀ u, Q (.inl u) → P (.inl u)) (hr : ∀ u, Q (.inr u) → wk (f u) P) : wk (wc_bx o f) P := by
  obtain ⟨x, rfl, hq⟩ := h
  cases x with
  | inl u => exact ⟨_, rfl, hl u hq⟩
  | inr u => exact hr u hq
theorem wk_cti {β : Type} {o : Option (wc_X (Int32 × wc_S))} {x : Nat → wc_S → Option β} {f : Int32 → wc_S → Option β} {P : β → Prop} {Q : wc_X (Int32 × wc_S) → Prop} (h : wk o Q) (hl : ∀ k u, Q (.inl (k, u)) → wk (x k u) P) (hr : ∀ r u, Q (.inr (r, u)) → wk (f r u) P) : wk (wc_cti o x f) P := by
  obtain ⟨y, rfl, hq⟩ := h
  cases y with
  | inl u => exact hl u.1 u.2 hq
  | inr u => exact hr u.1 u.2 hq
theorem wk_ctv {β : Type} {o : Option (wc_X wc_S)} {x : Nat → wc_S → Option β} {f : wc_S → Option β} {P : β → Prop} {Q : wc_X wc_S → Prop} (h : wk o Q) (hl : ∀ k u, Q (.inl (k, u)) → wk (x k u) P) (hr : ∀ u, Q (.inr u) → wk (f u) P) : wk (wc_ctv o x f) P := by
  obtain ⟨y, rfl, hq⟩ := h
  cases y with
  | inl u => exact hl u.1 u.2 hq
  | inr u => exact hr u hq
/-! numbers -/
theorem wn_lt {x y : Int32} : x < y ↔ x.toInt < y.toInt := Int32.lt_iff_toInt_lt
theorem wn_le {x y : Int32} : x ≤ y ↔ x.toInt ≤ y.toInt := Int32.le_iff_toInt_le
theorem wn_eq {x y : Int32} : x = y ↔ x.toInt = y.toInt := Int32.toInt_inj.symm
theorem wn_add {x y : Int32} (h1 : -2147483648 ≤ x.toInt + y.toInt) (h2 : x.toInt + y.toInt < 2147483648) : (x + y).toInt = x.toInt + y.toInt := by
  rw [Int32.toInt_add]
  exact Int.bmod_eq_of_le (by omega) (by omega)
theorem wn_sub {x y : Int32} (h1 : -2147483648 ≤ x.toInt - y.toInt) (h2 : x.toInt - y.toInt < 2147483648) : (x - y).toInt = x.toInt - y.toInt := by
  rw [Int32.toInt_sub]
  exact Int.bmod_eq_of_le (by omega) (by omega)
theorem wn_tn {x : Int32} : x.toNatClampNeg = x.toInt.toNat := rfl
theorem wn_in {x : Int32} {n : Nat} (h1 : 0 ≤ x.toInt) (h2 : x.toInt < n) : wc_in x n = true := by
  have e : ¬ x < 0 := by rw [wn_lt]; show ¬ x.toInt < 0; omega
  have e2 : ¬ n ≤ x.toNatClampNeg := by rw [wn_tn]; omega
  simp [wc_in, e, e2]
theorem wn_le9 {x : Int32} {n : Nat} (h1 : 0 ≤ x.toInt) (h2 : x.toInt ≤ n) : wc_le x n = true := by
  have e : ¬ x < 0 := by rw [wn_lt]; show ¬ x.toInt < 0; omega
  have e2 : x.toNatClampNeg ≤ n := by rw [wn_tn]; omega
  simp [wc_le, e, e2]
