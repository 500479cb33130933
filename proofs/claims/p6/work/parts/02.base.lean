/-! a method as a value: what it answers and what the state is then; none where it would leave its road -/
abbrev wc_S : Type := Nat → Nat → Int32
abbrev wc_X (α : Type) : Type := (Nat × wc_S) ⊕ α
def wc_st {α β : Type} (x : α) (f : α → Option β) : Option β := f x
theorem wc_st_e {α β : Type} {x v : α} {f : α → Option β} {y : β} (e : v = x) (h : wc_st x f = some y) : f v = some y := by subst e; exact h
def wc_gd {β : Type} (c : Bool) (k : Option β) : Option β := match c with
  | true => k
  | false => none
theorem wc_gd_e {β : Type} {c : Bool} {k : Option β} {y : β} (h : wc_gd c k = some y) : c = true ∧ k = some y := by
  cases c with
  | false => cases h
  | true => exact ⟨rfl, h⟩
def wc_b1 {β : Type} (o : Option wc_S) (f : wc_S → Option β) : Option β := match o with
  | none => none
  | some u => f u
theorem wc_b1_e {β : Type} {o : Option wc_S} {f : wc_S → Option β} {y : β} (h : wc_b1 o f = some y) : ∃ x, o = some x ∧ f x = some y := by
  cases o with
  | none => cases h
  | some x => exact ⟨x, rfl, h⟩
def wc_b2 {β : Type} (o : Option (Int32 × wc_S)) (f : Int32 → wc_S → Option β) : Option β := match o with
  | none => none
  | some q => f q.1 q.2
theorem wc_b2_e {β : Type} {o : Option (Int32 × wc_S)} {f : Int32 → wc_S → Option β} {y : β} (h : wc_b2 o f = some y) : ∃ a b, o = some (a, b) ∧ f a b = some y := by
  cases o with
  | none => cases h
  | some x => exact ⟨x.1, x.2, rfl, h⟩
/-- a callee that may throw, not caught here -/
def wc_bxk {β : Type} (q : wc_X wc_S) (f : wc_S → Option (wc_X β)) : Option (wc_X β) := match q with
  | .inl e => some (.inl e)
  | .inr a => f a
def wc_bx {β : Type} (o : Option (wc_X wc_S)) (f : wc_S → Option (wc_X β)) : Option (wc_X β) := match o with
  | none => none
  | some q => wc_bxk q f
theorem wc_bx_e {β : Type} {o : Option (wc_X wc_S)} {f : wc_S → Option (wc_X β)} {y : wc_X β} (h : wc_bx o f = some y) : ∃ q, o = some q ∧ wc_bxk q f = some y := by
  cases o with
  | none => cases h
  | some x => exact ⟨x, rfl, h⟩
theorem wc_bx_l {β : Type} {u : Nat × wc_S} {f : wc_S → Option (wc_X β)} {y : wc_X β} (h : wc_bxk (.inl u) f = some y) : (Sum.inl u : wc_X β) = y := Option.some.inj h
theorem wc_bx_r {β : Type} {u : wc_S} {f : wc_S → Option (wc_X β)} {y : wc_X β} (h : wc_bxk (.inr u) f = some y) : f u = some y := h
/-- a callee that may throw, caught here -/
def wc_ctik {β : Type} (q : wc_X (Int32 × wc_S)) (x : Nat → wc_S → Option β) (f : Int32 → wc_S → Option β) : Option β := match q with
  | .inl e => x e.1 e.2
  | .inr a => f a.1 a.2
def wc_cti {β : Type} (o : Option (wc_X (Int32 × wc_S))) (x : Nat → wc_S → Option β) (f : Int32 → wc_S → Option β) : Option β := match o with
  | none => none
  | some q => wc_ctik q x f
theorem wc_cti_e {β : Type} {o : Option (wc_X (Int32 × wc_S))} {x : Nat → wc_S → Option β} {f : Int32 → wc_S → Option β} {y : β} (h : wc_cti o x f = some y) : ∃ q, o = some q ∧ wc_ctik q x f = some y := by
  cases o with
  | none => cases h
  | some q => exact ⟨q, rfl, h⟩
theorem wc_cti_l {β : Type} {k : Nat} {u : wc_S} {x : Nat → wc_S → Option β} {f : Int32 → wc_S → Option β} {y : β} (h : wc_ctik (.inl (k, u)) x f = some y) : x k u = some y := h
theorem wc_cti_r {β : Type} {r : Int32} {u : wc_S} {x : Nat → wc_S → Option β} {f : Int32 → wc_S → Option β} {y : β} (h : wc_ctik (.inr (r, u)) x f = some y) : f r u = some y := h
def wc_ctvk {β : Type} (q : wc_X wc_S) (x : Nat → wc_S → Option β) (f : wc_S → Option β) : Option β := match q with
  | .inl e => x e.1 e.2
  | .inr a => f a
def wc_ctv {β : Type} (o : Option (wc_X wc_S)) (x : Nat → wc_S → Option β) (f : wc_S → Option β) : Option β := match o with
  | none => none
  | some q => wc_ctvk q x f
theorem wc_ctv_e {β : Type} {o : Option (wc_X wc_S)} {x : Nat → wc_S → Option β} {f : wc_S → Option β} {y : β} (h : wc_ctv o x f = some y) : ∃ q, o = some q ∧ wc_ctvk q x f = some y := by
  cases o with
  | none => cases h
  | some q => exact ⟨q, rfl, h⟩
theorem wc_ctv_l {β : Type} {k : Nat} {u : wc_S} {x : Nat → wc_S → Option β} {f : wc_S → Option β} {y : β} (h : wc_ctvk (.inl (k, u)) x f = some y) : x k u = some y := h
theorem wc_ctv_r {β : Type} {u : wc_S} {x : Nat → wc_S → Option β} {f : wc_S → Option β} {y : β} (h : wc_ctvk (.inr u) x f = some y) : f u = some y := h
theorem wc_t {β : Type} {c : Prop} {i : Decidable c} {a b : Option β} {y : β} (h : c) (hf : @ite _ c i a b = some y) : a = some y := by rw [if_pos h] at hf; exact hf
theorem wc_f {β : Type} {c : Prop} {i : Decidable c} {a b : Option β} {y : β} (h : ¬ c) (hf : @ite _ c i a b = some y) : b = some y := by rw [if_neg h] at hf; exact hf
def wc_in (i : Int32) (n : Nat) : Bool := !(decide (i < 0) || decide (n ≤ i.toNatClampNeg))
theorem wc_in_e {i : Int32} {n : Nat} (h : wc_in i n = true) : vp_in i n := by
  intro q
  simp only [wc_in, Bool.not_eq_true', Bool.or_eq_false_iff, decide_eq_false_iff_not] at h
  rcases q with q | q
  · exact h.1 q
  · exact h.2 q
theorem wc_in_lt {i : Int32} {n : Nat} (h : wc_in i n = true) : i.toNatClampNeg < n := Nat.not_le.mp fun q => wc_in_e h (Or.inr q)
/-- from 0 on as many as i: within n -/
def wc_le (i : Int32) (n : Nat) : Bool := !(decide (i < 0)) && decide (i.toNatClampNeg ≤ n)
theorem wc_le_e {i : Int32} {n : Nat} (h : wc_le i n = true) : ¬ i < 0 ∧ i.toNatClampNeg ≤ n := by
  simpa only [wc_le, Bool.and_eq_true, Bool.not_eq_true', decide_eq_false_iff_not, decide_eq_true_eq] using h
/-- a truth value as the machine has it -/
def wc_z (v : Int32) : Bool := decide (v = 0) || decide (v = 1)
theorem wc_z_e {v : Int32} (h : wc_z v = true) : narrow .boolean (.int v) = .int v := by
  simp only [wc_z, Bool.or_eq_true, decide_eq_true_eq] at h
  rcases h with rfl | rfl
  · exact narrow_b0
  · exact narrow_b1
theorem wc_z_f {v : Int32} (h : wc_z v = true) : fits .boolean (.int v) = true := by
  simp only [wc_z, Bool.or_eq_true, decide_eq_true_eq] at h
  rcases h with rfl | rfl <;> rfl
/-- a state with another content of cell k -/
def wc_uA (σ : wc_S) (k : Nat) (f : Nat → Int32) : wc_S := fun k' => if k' = k then f else σ k'
def wc_u (σ : wc_S) (k i : Nat) (x : Int32) : wc_S := wc_uA σ k (upd (σ k) i x)
/-- the world: N cells, cell k at ad k, made of the k-th content -/
def wc_W (N : Nat) (ad : Nat → Nat) (mk : Nat → (Nat → Int32) → va_E) (σ : wc_S) : va_W := (List.range N).map (fun k => (ad k, mk k (σ k)))
theorem wc_at {N : Nat} {ad : Nat → Nat} {mk : Nat → (Nat → Int32) → va_E} {σ : wc_S} (k : Nat) {E : va_E} (hk : k < N) (hm : mk k (σ k) = E) : (wc_W N ad mk σ)[k]? = some (ad k, E) := by
  subst hm
  simp [wc_W, List.getElem?_map, List.getElem?_range hk]
theorem wc_set {N : Nat} {ad : Nat → Nat} {mk : Nat → (Nat → Int32) → va_E} {σ : wc_S} {k : Nat} {f : Nat → Int32} {E : va_E} (hm : mk k f = E) : (wc_W N ad mk σ).set k (ad k, E) = wc_W N ad mk (wc_uA σ k f) := by
  subst hm
  apply List.ext_getElem?
  intro j
  rw [List.getElem?_set]
  by_cases hj : j < N
  · by_cases hkj : k = j
    · subst hkj
      simp [wc_W, List.getElem?_range hj, hj, wc_uA]
    · rw [if_neg hkj]
      have h2 : ¬ j = k := fun h => hkj h.symm
      simp [wc_W, List.getElem?_range hj, wc_uA, h2]
  · have h1 : (wc_W N ad mk (wc_uA σ k f))[j]? = none := by simp [wc_W]; omega
    have h2 : (wc_W N ad mk σ)[j]? = none := by simp [wc_W]; omega
    rw [h1, h2]
    have h3 : ¬ j < (wc_W N ad mk σ).length := by simp [wc_W]; omega
    by_cases hkj : k = j
    · rw [if_pos hkj, if_neg (by rw [hkj]; exact h3)]
    · rw [if_neg hkj]
/-- whether the addresses are apart depends on the addresses alone -/
theorem wc_D {N : Nat} {ad : Nat → Nat} {mk : Nat → (Nat → Int32) → va_E} {σ τ : wc_S} {A : Nat → Prop} (h : va_D A (wc_W N ad mk σ)) : va_D A (wc_W N ad mk τ) := by
  have key : ∀ (k : Nat) (q : Nat × va_E), (wc_W N ad mk τ)[k]? = some q → (wc_W N ad mk σ)[k]? = some (q.1, mk k (σ k)) := by
    intro k q hk
    have hl : k < N := by
      have := (List.getElem?_eq_some_iff.mp hk).1
      simpa [wc_W] using this
    have e1 := wc_at (ad := ad) (mk := mk) (σ := τ) k hl rfl
    rw [e1] at hk
    cases hk
    exact wc_at k hl rfl
  exact ⟨fun i j x y hi hj hxy => h.1 i j _ _ (key i x hi) (key j y hj) hxy, fun k q hk => h.2 k (q.1, mk k (σ k)) (key k q hk)⟩
theorem wc_VA {N : Nat} {ad : Nat → Nat} {mk : Nat → (Nat → Int32) → va_E} {σ τ : wc_S} {sz q : Nat} (h : va_A (wc_W N ad mk σ) sz q) : va_A (wc_W N ad mk τ) sz q := by
  rcases h with ⟨k, e, h⟩ | h
  · have hl : k < N := by
      have := (List.getElem?_eq_some_iff.mp h).1
      simpa [wc_W] using this
    have e1 := wc_at (ad := ad) (mk := mk) (σ := σ) k hl rfl
    rw [e1] at h
    cases h
    exact Or.inl ⟨k, _, wc_at k hl rfl⟩
  · exact Or.inr h
theorem wc_inr {α : Type} {x y : α} (h : some x = some y) : some (Sum.inr x : wc_X α) = some (Sum.inr y) := by rw [Option.some.inj h]
def wc_big : Nat := 100000000000
theorem wc_st_n {α β : Type} {x : α} {f : α → Option β} {y : β} (h : wc_st x f = some y) : ∃ v, v = x ∧ f v = some y := ⟨x, rfl, h⟩
/-! what is written: outside S nothing -/
def wr_q (S : Nat → Nat → Prop) (σ τ : wc_S) : Prop := ∀ k i, ¬ S k i → τ k i = σ k i
def wr_sv (q : wc_X wc_S) : wc_S := match q with
  | .inl u => u.2
  | .inr u => u
def wr_si (q : wc_X (Int32 × wc_S)) : wc_S := match q with
  | .inl u => u.2
  | .inr u => u.2
theorem wr_0 {S : Nat → Nat → Prop} {σ : wc_S} : wr_q S σ σ := fun _ _ _ => rfl
theorem wr_u {S : Nat → Nat → Prop} {σ τ υ : wc_S} {k j : Nat} {x : Int32} (h : wr_q S σ τ) (e : υ = wc_u τ k j x) (hs : S k j) : wr_q S σ υ := by
  intro k' i' hn
  subst e
  rw [← h k' i' hn]
  by_cases hk : k' = k
  · subst hk
    by_cases hi : i' = j
    · subst hi; exact absurd hs hn
    · simp [wc_u, wc_uA, upd, hi]
  · simp [wc_u, wc_uA, hk]
theorem wr_A {S : Nat → Nat → Prop} {σ τ υ : wc_S} {k : Nat} {f : Nat → Int32} (h : wr_q S σ τ) (e : υ = wc_uA τ k f) (hs : ∀ i, S k i) : wr_q S σ υ := by
  intro k' i' hn
  subst e
  rw [← h k' i' hn]
  by_cases hk : k' = k
  · subst hk; exact absurd (hs i') hn
  · simp [wc_uA, hk]
theorem wr_x {S S' : Nat → Nat → Prop} {σ τ υ : wc_S} (h : wr_q S σ τ) (h2 : wr_q S' τ υ) (hs : ∀ k i, S' k i → S k i) : wr_q S σ υ := fun k i hn => (h2 k i (fun q => hn (hs k i q))).trans (h k i hn)
theorem wr_j {S : Nat → Nat → Prop} {σ τ υ : wc_S} (h : wr_q S σ τ) (h2 : wr_q S τ υ) : wr_q S σ υ := fun k i hn => (h2 k i hn).trans (h k i hn)
theorem wr_e {α : Type} {g : α → wc_S} {S : Nat → Nat → Prop} {σ : wc_S} {x res : α} (hm : wr_q S σ (g x)) (hf : some x = some res) : wr_q S σ (g res) := by
  rw [← Option.some.inj hf]; exact hm
/-! classes, their fields, the words of the tables; printed by a program of mine -/
def wx_TW : u_T := fun k => match k with
  | 0 => ("WidthCampaigns", "plant", "LWidthCampaigns$Plant;", true)
  | 1 => ("WidthCampaigns", "trial", "LWidthCampaigns$Line;", true)
  | 2 => ("WidthCampaigns", "standing", "LWidthCampaigns$Line;", true)
  | 3 => ("WidthCampaigns", "search", "LWidthCampaigns$Search;", true)
  | 4 => ("WidthCampaigns", "scratch", "[I", true)
  | 5 => ("WidthCampaigns", "ordered", "Z", false)
  | _ => ("WidthCampaigns", "searched", "Z", false)
def wx_tW : Nat → FieldType := fun k => match k with
  | 0 => (.object "WidthCampaigns$Plant")
  | 1 => (.object "WidthCampaigns$Line")
  | 2 => (.object "WidthCampaigns$Line")
  | 3 => (.object "WidthCampaigns$Search")
  | 4 => (.array .int)
  | 5 => .boolean
  | _ => .boolean
theorem wx_nW : ∀ a, a < 7 → ∀ b, b < 7 → a ≠ b → (wx_TW a).2.1 ≠ (wx_TW b).2.1 := by decide +kernel
theorem wx_toW : ∀ k, k < 7 → parseFieldDescriptor (wx_TW k).2.2.1 = some (wx_tW k) := by decide +kernel
def wx_TP : u_T := fun k => match k with
  | 0 => ("WidthCampaigns$Plant", "width", "[I", true)
  | 1 => ("WidthCampaigns$Plant", "thick", "[I", true)
  | 2 => ("WidthCampaigns$Plant", "hard", "[I", true)
  | 3 => ("WidthCampaigns$Plant", "kilometres", "[I", true)
  | 4 => ("WidthCampaigns$Plant", "last", "[I", true)
  | 5 => ("WidthCampaigns$Plant", "oldPlace", "[I", true)
  | 6 => ("WidthCampaigns$Plant", "jumpCost", "[[I", true)
  | 7 => ("WidthCampaigns$Plant", "hardJumps", "LWidthCampaigns$JumpTable;", true)
  | 8 => ("WidthCampaigns$Plant", "thickJumps", "LWidthCampaigns$JumpTable;", true)
  | 9 => ("WidthCampaigns$Plant", "groups", "LWidthCampaigns$WidthGroups;", true)
  | 10 => ("WidthCampaigns$Plant", "count", "I", false)
  | 11 => ("WidthCampaigns$Plant", "rise", "I", false)
  | 12 => ("WidthCampaigns$Plant", "wear", "I", false)
  | 13 => ("WidthCampaigns$Plant", "changeCents", "I", false)
  | _ => ("WidthCampaigns$Plant", "movedCents", "I", false)
def wx_tP : Nat → FieldType := fun k => match k with
  | 0 => (.array .int)
  | 1 => (.array .int)
  | 2 => (.array .int)
  | 3 => (.array .int)
  | 4 => (.array .int)
  | 5 => (.array .int)
  | 6 => (.array (.array .int))
  | 7 => (.object "WidthCampaigns$JumpTable")
  | 8 => (.object "WidthCampaigns$JumpTable")
  | 9 => (.object "WidthCampaigns$WidthGroups")
  | 10 => .int
  | 11 => .int
  | 12 => .int
  | 13 => .int
  | _ => .int
theorem wx_nP : ∀ a, a < 15 → ∀ b, b < 15 → a ≠ b → (wx_TP a).2.1 ≠ (wx_TP b).2.1 := by decide +kernel
theorem wx_toP : ∀ k, k < 15 → parseFieldDescriptor (wx_TP k).2.2.1 = some (wx_tP k) := by decide +kernel
def wx_TJ : u_T := fun k => match k with
  | 0 => ("WidthCampaigns$JumpTable", "from", "[I", true)
  | 1 => ("WidthCampaigns$JumpTable", "to", "[I", true)
  | 2 => ("WidthCampaigns$JumpTable", "cost", "[I", true)
  | _ => ("WidthCampaigns$JumpTable", "rows", "I", false)
def wx_tJ : Nat → FieldType := fun k => match k with
  | 0 => (.array .int)
  | 1 => (.array .int)
  | 2 => (.array .int)
  | _ => .int
theorem wx_nJ : ∀ a, a < 4 → ∀ b, b < 4 → a ≠ b → (wx_TJ a).2.1 ≠ (wx_TJ b).2.1 := by decide +kernel
theorem wx_toJ : ∀ k, k < 4 → parseFieldDescriptor (wx_TJ k).2.2.1 = some (wx_tJ k) := by decide +kernel
def wx_TG : u_T := fun k => match k with
  | 0 => ("WidthCampaigns$WidthGroups", "from", "[I", true)
  | 1 => ("WidthCampaigns$WidthGroups", "to", "[I", true)
  | 2 => ("WidthCampaigns$WidthGroups", "most", "[I", true)
  | _ => ("WidthCampaigns$WidthGroups", "count", "I", false)
def wx_tG : Nat → FieldType := fun k => match k with
  | 0 => (.array .int)
  | 1 => (.array .int)
  | 2 => (.array .int)
  | _ => .int
theorem wx_nG : ∀ a, a < 4 → ∀ b, b < 4 → a ≠ b → (wx_TG a).2.1 ≠ (wx_TG b).2.1 := by decide +kernel
theorem wx_toG : ∀ k, k < 4 → parseFieldDescriptor (wx_TG k).2.2.1 = some (wx_tG k) := by decide +kernel
def wx_TL : u_T := fun k => match k with
  | 0 => ("WidthCampaigns$Line", "plant", "LWidthCampaigns$Plant;", true)
  | 1 => ("WidthCampaigns$Line", "coils", "[I", true)
  | 2 => ("WidthCampaigns$Line", "stands", "[Z", true)
  | 3 => ("WidthCampaigns$Line", "changeAhead", "[Z", true)
  | 4 => ("WidthCampaigns$Line", "penalty", "[I", true)
  | 5 => ("WidthCampaigns$Line", "changes", "[I", true)
  | 6 => ("WidthCampaigns$Line", "moved", "[I", true)
  | 7 => ("WidthCampaigns$Line", "rolled", "[I", true)
  | 8 => ("WidthCampaigns$Line", "rolledInGroup", "[[I", true)
  | _ => ("WidthCampaigns$Line", "length", "I", false)
def wx_tL : Nat → FieldType := fun k => match k with
  | 0 => (.object "WidthCampaigns$Plant")
  | 1 => (.array .int)
  | 2 => (.array .boolean)
  | 3 => (.array .boolean)
  | 4 => (.array .int)
  | 5 => (.array .int)
  | 6 => (.array .int)
  | 7 => (.array .int)
  | 8 => (.array (.array .int))
  | _ => .int
theorem wx_nL : ∀ a, a < 10 → ∀ b, b < 10 → a ≠ b → (wx_TL a).2.1 ≠ (wx_TL b).2.1 := by decide +kernel
theorem wx_toL : ∀ k, k < 10 → parseFieldDescriptor (wx_TL k).2.2.1 = some (wx_tL k) := by decide +kernel
def wx_TS : u_T := fun k => match k with
  | 0 => ("WidthCampaigns$Search", "plant", "LWidthCampaigns$Plant;", true)
  | 1 => ("WidthCampaigns$Search", "line", "LWidthCampaigns$Line;", true)
  | 2 => ("WidthCampaigns$Search", "best", "[I", true)
  | 3 => ("WidthCampaigns$Search", "bestPenalty", "I", false)
  | 4 => ("WidthCampaigns$Search", "nodesLeft", "I", false)
  | 5 => ("WidthCampaigns$Search", "found", "Z", false)
  | _ => ("WidthCampaigns$Search", "leftOut", "Z", false)
def wx_tS : Nat → FieldType := fun k => match k with
  | 0 => (.object "WidthCampaigns$Plant")
  | 1 => (.object "WidthCampaigns$Line")
  | 2 => (.array .int)
  | 3 => .int
  | 4 => .int
  | 5 => .boolean
  | _ => .boolean
theorem wx_nS : ∀ a, a < 7 → ∀ b, b < 7 → a ≠ b → (wx_TS a).2.1 ≠ (wx_TS b).2.1 := by decide +kernel
theorem wx_toS : ∀ k, k < 7 → parseFieldDescriptor (wx_TS k).2.2.1 = some (wx_tS k) := by decide +kernel
def wx_TM : u_T := fun k => match k with
  | 0 => ("WidthCampaignsModel", "thrown", "I", false)
  | 1 => ("WidthCampaignsModel", "coils", "I", false)
  | 2 => ("WidthCampaignsModel", "width", "[I", true)
  | 3 => ("WidthCampaignsModel", "thick", "[I", true)
  | 4 => ("WidthCampaignsModel", "hard", "[I", true)
  | 5 => ("WidthCampaignsModel", "kilometres", "[I", true)
  | 6 => ("WidthCampaignsModel", "last", "[I", true)
  | 7 => ("WidthCampaignsModel", "old", "[I", true)
  | 8 => ("WidthCampaignsModel", "rows", "[I", true)
  | 9 => ("WidthCampaignsModel", "rowFrom", "[I", true)
  | 10 => ("WidthCampaignsModel", "rowTo", "[I", true)
  | 11 => ("WidthCampaignsModel", "rowCost", "[I", true)
  | 12 => ("WidthCampaignsModel", "groups", "I", false)
  | 13 => ("WidthCampaignsModel", "groupFrom", "[I", true)
  | 14 => ("WidthCampaignsModel", "groupTo", "[I", true)
  | 15 => ("WidthCampaignsModel", "groupMost", "[I", true)
  | 16 => ("WidthCampaignsModel", "rise", "I", false)
  | 17 => ("WidthCampaignsModel", "wear", "I", false)
  | 18 => ("WidthCampaignsModel", "changeCost", "I", false)
  | 19 => ("WidthCampaignsModel", "movedCost", "I", false)
  | 20 => ("WidthCampaignsModel", "searched", "Z", false)
  | 21 => ("WidthCampaignsModel", "proved", "Z", false)
  | 22 => ("WidthCampaignsModel", "ordered", "Z", false)
  | 23 => ("WidthCampaignsModel", "order", "[I", true)
  | 24 => ("WidthCampaignsModel", "tried", "[I", true)
  | 25 => ("WidthCampaignsModel", "penalty", "I", false)
  | 26 => ("WidthCampaignsModel", "changes", "I", false)
  | 27 => ("WidthCampaignsModel", "moved", "I", false)
  | _ => ("WidthCampaignsModel", "changed", "[Z", true)
def wx_tM : Nat → FieldType := fun k => match k with
  | 0 => .int
  | 1 => .int
  | 2 => (.array .int)
  | 3 => (.array .int)
  | 4 => (.array .int)
  | 5 => (.array .int)
  | 6 => (.array .int)
  | 7 => (.array .int)
  | 8 => (.array .int)
  | 9 => (.array .int)
  | 10 => (.array .int)
  | 11 => (.array .int)
  | 12 => .int
  | 13 => (.array .int)
  | 14 => (.array .int)
  | 15 => (.array .int)
  | 16 => .int
  | 17 => .int
  | 18 => .int
  | 19 => .int
  | 20 => .boolean
  | 21 => .boolean
  | 22 => .boolean
  | 23 => (.array .int)
  | 24 => (.array .int)
  | 25 => .int
  | 26 => .int
  | 27 => .int
  | _ => (.array .boolean)
theorem wx_nM : ∀ a, a < 29 → ∀ b, b < 29 → a ≠ b → (wx_TM a).2.1 ≠ (wx_TM b).2.1 := by decide +kernel
theorem wx_toM : ∀ k, k < 29 → parseFieldDescriptor (wx_TM k).2.2.1 = some (wx_tM k) := by decide +kernel
abbrev wx_cl : List vw_C := [("WidthCampaigns", wx_TW, 7), ("WidthCampaigns$Plant", wx_TP, 15), ("WidthCampaigns$JumpTable", wx_TJ, 4), ("WidthCampaigns$WidthGroups", wx_TG, 4), ("WidthCampaigns$Line", wx_TL, 10), ("WidthCampaigns$Search", wx_TS, 7), ("WidthCampaignsModel", wx_TM, 29)]
def wx_all : List Cond := lw_tbl.filter goodWord
theorem wx_mem {w : Cond} (i : Nat) (h : lw_tbl[i]? = some w) (hg : goodWord w = true) : w ∈ wx_all := List.mem_filter.mpr ⟨List.mem_of_getElem? h, hg⟩
theorem wx_hw {c0 w : Cond} {args : Array Value} {s : State} (hts : ∀ w ∈ c0 :: wx_all, w.before args s = true) (h : w ∈ wx_all) : w.before args s = true := hts w (List.mem_cons_of_mem _ h)
theorem wx_good {c0 c1 : Cond} (h : c1 ∈ wx_all) : GoodIn (c0 :: wx_all) (c1 :: wx_all) := by
  intro w hw
  have hm : w ∈ wx_all := by
    rcases List.mem_cons.mp hw with rfl | h1
    · exact h
    · exact h1
  exact ⟨List.mem_cons_of_mem _ hm, good_of_word (List.mem_filter.mp hm).2⟩
theorem wj_W : ∀ w ∈ u_ws "WidthCampaigns" wx_TW 7, w ∈ lw_tbl := by decide +kernel
theorem wj2_W : ∀ w ∈ u_ws "WidthCampaigns" wx_TW 7, goodWord w = true := by decide +kernel
theorem wi_W : ∀ w ∈ u_ws "WidthCampaigns" wx_TW 7, w ∈ wx_all := fun w h => List.mem_filter.mpr ⟨wj_W w h, wj2_W w h⟩
theorem wj_P : ∀ w ∈ u_ws "WidthCampaigns$Plant" wx_TP 15, w ∈ lw_tbl := by decide +kernel
theorem wj2_P : ∀ w ∈ u_ws "WidthCampaigns$Plant" wx_TP 15, goodWord w = true := by decide +kernel
theorem wi_P : ∀ w ∈ u_ws "WidthCampaigns$Plant" wx_TP 15, w ∈ wx_all := fun w h => List.mem_filter.mpr ⟨wj_P w h, wj2_P w h⟩
theorem wj_J : ∀ w ∈ u_ws "WidthCampaigns$JumpTable" wx_TJ 4, w ∈ lw_tbl := by decide +kernel
theorem wj2_J : ∀ w ∈ u_ws "WidthCampaigns$JumpTable" wx_TJ 4, goodWord w = true := by decide +kernel
theorem wi_J : ∀ w ∈ u_ws "WidthCampaigns$JumpTable" wx_TJ 4, w ∈ wx_all := fun w h => List.mem_filter.mpr ⟨wj_J w h, wj2_J w h⟩
theorem wj_G : ∀ w ∈ u_ws "WidthCampaigns$WidthGroups" wx_TG 4, w ∈ lw_tbl := by decide +kernel
theorem wj2_G : ∀ w ∈ u_ws "WidthCampaigns$WidthGroups" wx_TG 4, goodWord w = true := by decide +kernel
theorem wi_G : ∀ w ∈ u_ws "WidthCampaigns$WidthGroups" wx_TG 4, w ∈ wx_all := fun w h => List.mem_filter.mpr ⟨wj_G w h, wj2_G w h⟩
theorem wj_L : ∀ w ∈ u_ws "WidthCampaigns$Line" wx_TL 10, w ∈ lw_tbl := by decide +kernel
theorem wj2_L : ∀ w ∈ u_ws "WidthCampaigns$Line" wx_TL 10, goodWord w = true := by decide +kernel
theorem wi_L : ∀ w ∈ u_ws "WidthCampaigns$Line" wx_TL 10, w ∈ wx_all := fun w h => List.mem_filter.mpr ⟨wj_L w h, wj2_L w h⟩
theorem wj_S : ∀ w ∈ u_ws "WidthCampaigns$Search" wx_TS 7, w ∈ lw_tbl := by decide +kernel
theorem wj2_S : ∀ w ∈ u_ws "WidthCampaigns$Search" wx_TS 7, goodWord w = true := by decide +kernel
theorem wi_S : ∀ w ∈ u_ws "WidthCampaigns$Search" wx_TS 7, w ∈ wx_all := fun w h => List.mem_filter.mpr ⟨wj_S w h, wj2_S w h⟩
theorem wj_M : ∀ w ∈ u_ws "WidthCampaignsModel" wx_TM 29, w ∈ lw_tbl := by decide +kernel
theorem wj2_M : ∀ w ∈ u_ws "WidthCampaignsModel" wx_TM 29, goodWord w = true := by decide +kernel
theorem wi_M : ∀ w ∈ u_ws "WidthCampaignsModel" wx_TM 29, w ∈ wx_all := fun w h => List.mem_filter.mpr ⟨wj_M w h, wj2_M w h⟩
