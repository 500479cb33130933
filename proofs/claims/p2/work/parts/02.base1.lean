/-! a method as a value: what it answers and what the state is then; none where it would leave its road -/
abbrev wc_S : Type := Nat → Nat → Int32
abbrev wc_X (α : Type) : Type := (Nat × wc_S) ⊕ α
def wc_st {α β : Type} (x : α) (f : α → Option β) : Option β := f x
theorem wc_st_e {α β : Type} {x v : α} {f : α → Option β} {y : β} (e : v = x) (h : wc_st x f = some y) : f v = some y := by subst e; exact h
def wc_gd {β : Type} (c : Bool) (k : Option β) : Option β := match c with
  | true => k
  | false => none
theorem wc_gd_e {β : Type} {c : Bool} {k : Option β} {y : β} (h : wc_gd c k = some y) : c = true ∧ k = some y := by
  cases c with
  | false => cases h
  | true => exact ⟨rfl, h⟩
def wc_b1 {β : Type} (o : Option wc_S) (f : wc_S → Option β) : Option β := match o with
  | none => none
  | some u => f u
theorem wc_b1_e {β : Type} {o : Option wc_S} {f : wc_S → Option β} {y : β} (h : wc_b1 o f = some y) : ∃ x, o = some x ∧ f x = some y := by
  cases o with
  | none => cases h
  | some x => exact ⟨x, rfl, h⟩
def wc_b2 {β : Type} (o : Option (Int32 × wc_S)) (f : Int32 → wc_S → Option β) : Option β := match o with
  | none => none
  | some q => f q.1 q.2
theorem wc_b2_e {β : Type} {o : Option (Int32 × wc_S)} {f : Int32 → wc_S → Option β} {y : β} (h : wc_b2 o f = some y) : ∃ a b, o = some (a, b) ∧ f a b = some y := by
  cases o with
  | none => cases h
  | some x => exact ⟨x.1, x.2, rfl, h⟩
/-- a callee that may throw, not caught here -/
def wc_bxk {β : Type} (q : wc_X wc_S) (f : wc_S → Option (wc_X β)) : Option (wc_X β) := match q with
  | .inl e => some (.inl e)
  | .inr a => f a
def wc_bx {β : Type} (o : Option (wc_X wc_S)) (f : wc_S → Option (wc_X β)) : Option (wc_X β) := match o with
  | none => none
  | some q => wc_bxk q f
theorem wc_bx_e {β : Type} {o : Option (wc_X wc_S)} {f : wc_S → Option (wc_X β)} {y : wc_X β} (h : wc_bx o f = some y) : ∃ q, o = some q ∧ wc_bxk q f = some y := by
  cases o with
  | none => cases h
  | some x => exact ⟨x, rfl, h⟩
theorem wc_bx_l {β : Type} {u : Nat × wc_S} {f : wc_S → Option (wc_X β)} {y : wc_X β} (h : wc_bxk (.inl u) f = some y) : (Sum.inl u : wc_X β) = y := Option.some.inj h
theorem wc_bx_r {β : Type} {u : wc_S} {f : wc_S → Option (wc_X β)} {y : wc_X β} (h : wc_bxk (.inr u) f = some y) : f u = some y := h
/-- a callee that may throw, caught here -/
def wc_ctik {β : Type} (q : wc_X (Int32 × wc_S)) (x : Nat → wc_S → Option β) (f : Int32 → wc_S → Option β) : Option β := match q with
  | .inl e => x e.1 e.2
  | .inr a => f a.1 a.2
def wc_cti {β : Type} (o : Option (wc_X (Int32 × wc_S))) (x : Nat → wc_S → Option β) (f : Int32 → wc_S → Option β) : Option β := match o with
  | none => none
  | some q => wc_ctik q x f
theorem wc_cti_e {β : Type} {o : Option (wc_X (Int32 × wc_S))} {x : Nat → wc_S → Option β} {f : Int32 → wc_S → Option β} {y : β} (h : wc_cti o x f = some y) : ∃ q, o = some q ∧ wc_ctik q x f = some y := by
  cases o with
  | none => cases h
  | some q => exact ⟨q, rfl, h⟩
theorem wc_cti_l {β : Type} {k : Nat} {u : wc_S} {x : Nat → wc_S → Option β} {f : Int32 → wc_S → Option β} {y : β} (h : wc_ctik (.inl (k, u)) x f = some y) : x k u = some y := h
theorem wc_cti_r {β : Type} {r : Int32} {u : wc_S} {x : Nat → wc_S → Option β} {f : Int32 → wc_S → Option β} {y : β} (h : wc_ctik (.inr (r, u)) x f = some y) : f r u = some y := h
def wc_ctvk {β : Type} (q : wc_X wc_S) (x : Nat → wc_S → Option β) (f : wc_S → Option β) : Option β := match q with
  | .inl e => x e.1 e.2
  | .inr a => f a
def wc_ctv {β : Type} (o : Option (wc_X wc_S)) (x : Nat → wc_S → Option β) (f : wc_S → Option β) : Option β := match o with
  | none => none
  | some q => wc_ctvk q x f
theorem wc_ctv_e {β : Type} {o : Option (wc_X wc_S)} {x : Nat → wc_S → Option β} {f : wc_S → Option β} {y : β} (h : wc_ctv o x f = some y) : ∃ q, o = some q ∧ wc_ctvk q x f = some y := by
  cases o with
  | none => cases h
  | some q => exact ⟨q, rfl, h⟩
theorem wc_ctv_l {β : Type} {k : Nat} {u : wc_S} {x : Nat → wc_S → Option β} {f : wc_S → Option β} {y : β} (h : wc_ctvk (.inl (k, u)) x f = some y) : x k u = some y := h
theorem wc_ctv_r {β : Type} {u : wc_S} {x : Nat → wc_S → Option β} {f : wc_S → Option β} {y : β} (h : wc_ctvk (.inr u) x f = some y) : f u = some y := h
theorem wc_t {β : Type} {c : Prop} {i : Decidable c} {a b : Option β} {y : β} (h : c) (hf : @ite _ c i a b = some y) : a = some y := by rw [if_pos h] at hf; exact hf
theorem wc_f {β : Type} {c : Prop} {i : Decidable c} {a b : Option β} {y : β} (h : ¬ c) (hf : @ite _ c i a b = some y) : b = some y := by rw [if_neg h] at hf; exact hf
def wc_in (i : Int32) (n : Nat) : Bool := !(decide (i < 0) || decide (n ≤ i.toNatClampNeg))
theorem wc_in_e {i : Int32} {n : Nat} (h : wc_in i n = true) : vp_in i n := by
  intro q
  simp only [wc_in, Bool.not_eq_true', Bool.or_eq_false_iff, decide_eq_false_iff_not] at h
  rcases q with q | q
  · exact h.1 q
  · exact h.2 q
theorem wc_in_lt {i : Int32} {n : Nat} (h : wc_in i n = true) : i.toNatClampNeg < n := Nat.not_le.mp fun q => wc_in_e h (Or.inr q)
/-- from 0 on as many as i: within n -/
def wc_le (i : Int32) (n : Nat) : Bool := !(decide (i < 0)) && decide (i.toNatClampNeg ≤ n)
theorem wc_le_e {i : Int32} {n : Nat} (h : wc_le i n = true) : ¬ i < 0 ∧ i.toNatClampNeg ≤ n := by
  simpa only [wc_le, Bool.and_eq_true, Bool.not_eq_true', decide_eq_false_iff_not, decide_eq_true_eq] using h
/-- a truth value as the machine has it -/
def wc_z (v : Int32) : Bool := decide (v = 0) || decide (v = 1)
theorem wc_z_e {v : Int32} (h : wc_z v = true) : narrow .boolean (.int v) = .int v := by
  simp only [wc_z, Bool.or_eq_true, decide_eq_true_eq] at h
  rcases h with rfl | rfl
  · exact narrow_b0
  · exact narrow_b1
theorem wc_z_f {v : Int32} (h : wc_z v = true) : fits .boolean (.int v) = true := by
  simp only [wc_z, Bool.or_eq_true, decide_eq_true_eq] at h
  rcases h with rfl | rfl <;> rfl
/-- a state with another content of cell k -/
def wc_uA (σ : wc_S) (k : Nat) (f : Nat → Int32) : wc_S := fun k' => if k' = k then f else σ k'
def wc_u (σ : wc_S) (k i : Nat) (x : Int32) : wc_S := wc_uA σ k (upd (σ k) i x)
/-- the world: N cells, cell k at ad k, made of the k-th content -/
def wc_W (N : Nat) (ad : Nat → Nat) (mk : Nat → (Nat → Int32) → va_E) (σ : wc_S) : va_W := (List.range N).map (fun k => (ad k, mk k (σ k)))
theorem wc_at {N : Nat} {ad : Nat → Nat} {mk : Nat → (Nat → Int32) → va_E} {σ : wc_S} (k : Nat) {E : va_E} (hk : k < N) (hm : mk k (σ k) = E) : (wc_W N ad mk σ)[k]? = some (ad k, E) := by
  subst hm
  simp [wc_W, List.getElem?_map, List.getElem?_range hk]
theorem wc_set {N : Nat} {ad : Nat → Nat} {mk : Nat → (Nat → Int32) → va_E} {σ : wc_S} {k : Nat} {f : Nat → Int32} {E : va_E} (hm : mk k f = E) : (wc_W N ad mk σ).set k (ad k, E) = wc_W N ad mk (wc_uA σ k f) := by
  subst hm
  apply List.ext_getElem?
  intro j
  rw [List.getElem?_set]
  by_cases hj : j < N
  · by_cases hkj : k = j
    · subst hkj
      simp [wc_W, List.getElem?_range hj, hj, wc_uA]
    · rw [if_neg hkj]
      have h2 : ¬ j = k := fun h => hkj h.symm
      simp [wc_W, List.getElem?_range hj, wc_uA, h2]
  · have h1 : (wc_W N ad mk (wc_uA σ k f))[j]? = none := by simp [wc_W]; omega
    have h2 : (wc_W N ad mk σ)[j]? = none := by simp [wc_W]; omega
    rw [h1, h2]
    have h3 : ¬ j < (wc_W N ad mk σ).length := by simp [wc_W]; omega
    by_cases hkj : k = j
    · rw [if_pos hkj, if_neg (by rw [hkj]; exact h3)]
    · rw [if_neg hkj]
/-- whether the addresses are apart depends on the addresses alone -/
theorem wc_D {N : Nat} {ad : Nat → Nat} {mk : Nat → (Nat → Int32) → va_E} {σ τ : wc_S} {A : Nat → Prop} (h : va_D A (wc_W N ad mk σ)) : va_D A (wc_W N ad mk τ) := by
  have key : ∀ (k : Nat) (q : Nat × va_E), (wc_W N ad mk τ)[k]? = some q → (wc_W N ad mk σ)[k]? = some (q.1, mk k (σ k)) := by
    intro k q hk
    have hl : k < N := by
      have := (List.getElem?_eq_some_iff.mp hk).1
      simpa [wc_W] using this
    have e1 := wc_at (ad := ad) (mk := mk) (σ := τ) k hl rfl
    rw [e1] at hk
    cases hk
    exact wc_at k hl rfl
  exact ⟨fun i j x y hi hj hxy => h.1 i j _ _ (key i x hi) (key j y hj) hxy, fun k q hk => h.2 k (q.1, mk k (σ k)) (key k q hk)⟩
theorem wc_VA {N : Nat} {ad : Nat → Nat} {mk : Nat → (Nat → Int32) → va_E} {σ τ : wc_S} {sz q : Nat} (h : va_A (wc_W N ad mk σ) sz q) : va_A (wc_W N ad mk τ) sz q := by
  rcases h with ⟨k, e, h⟩ | h
  · have hl : k < N := by
      have := (List.getElem?_eq_some_iff.mp h).1
      simpa [wc_W] using this
    have e1 := wc_at (ad := ad) (mk := mk) (σ := σ) k hl rfl
    rw [e1] at h
    cases h
    exact Or.inl ⟨k, _, wc_at k hl rfl⟩
  · exact Or.inr h
theorem wc_inr {α : Type} {x y : α} (h : some x = some y) : some (Sum.inr x : wc_X α) = some (Sum.inr y) := by rw [Option.some.inj h]
def wc_big : Nat := 100000000000
theorem wc_st_n {α β : Type} {x : α} {f : α → Option β} {y : β} (h : wc_st x f = some y) : ∃ v, v = x ∧ f v = some y := ⟨x, rfl, h⟩
/-! what is written: outside S nothing -/
def wr_q (S : Nat → Nat → Prop) (σ τ : wc_S) : Prop := ∀ k i, ¬ S k i → τ k i = σ k i
def wr_sv (q : wc_X wc_S) : wc_S := match q with
  | .inl u => u.2
  | .inr u => u
def wr_si (q : wc_X (Int32 × wc_S)) : wc_S := match q with
  | .inl u => u.2
  | .inr u => u.2
theorem wr_0 {S : Nat → Nat → Prop} {σ : wc_S} : wr_q S σ σ := fun _ _ _ => rfl
theorem wr_u {S : Nat → Nat → Prop} {σ τ υ : wc_S} {k j : Nat} {x : Int32} (h : wr_q S σ τ) (e : υ = wc_u τ k j x) (hs : S k j) : wr_q S σ υ := by
  intro k' i' hn
  subst e
  rw [← h k' i' hn]
  by_cases hk : k' = k
  · subst hk
    by_cases hi : i' = j
    · subst hi; exact absurd hs hn
    · simp [wc_u, wc_uA, upd, hi]
  · simp [wc_u, wc_uA, hk]
theorem wr_A {S : Nat → Nat → Prop} {σ τ υ : wc_S} {k : Nat} {f : Nat → Int32} (h : wr_q S σ τ) (e : υ = wc_uA τ k f) (hs : ∀ i, S k i) : wr_q S σ υ := by
  intro k' i' hn
  subst e
  rw [← h k' i' hn]
  by_cases hk : k' = k
  · subst hk; exact absurd (hs i') hn
  · simp [wc_uA, hk]
theorem wr_x {S S' : Nat → Nat → Prop} {σ τ υ : wc_S} (h : wr_q S σ τ) (h2 : wr_q S' τ υ) (hs : ∀ k i, S' k i → S k i) : wr_q S σ υ := fun k i hn => (h2 k i (fun q => hn (hs k i q))).trans (h k i hn)
theorem wr_j {S : Nat → Nat → Prop} {σ τ υ : wc_S} (h : wr_q S σ τ) (h2 : wr_q S τ υ) : wr_q S σ υ := fun k i hn => (h2 k i hn).trans (h k i hn)
theorem wr_e {α : Type} {g : α → wc_S} {S : Nat → Nat → Prop} {σ : wc_S} {x res : α} (hm : wr_q S σ (g x)) (hf : some x = some res) : wr_q S σ (g res) := by
  rw [← Option.some.inj hf]; exact hm
