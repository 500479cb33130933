/-! a value that comes, with what holds of it -/
def wk {α : Type} (o : Option α) (P : α → Prop) : Prop := ∃ x, o = some x ∧ P x
theorem wk_some {α : Type} {x : α} {P : α → Prop} : wk (some x) P ↔ P x := ⟨fun ⟨y, h, hp⟩ => by cases h; exact hp, fun h => ⟨x, rfl, h⟩⟩
theorem wk_st {α β : Type} {x : α} {f : α → Option β} {P : β → Prop} : wk (wc_st x f) P ↔ wk (f x) P := Iff.rfl
theorem wk_gd {β : Type} {c : Bool} {k : Option β} {P : β → Prop} : wk (wc_gd c k) P ↔ c = true ∧ wk k P := by
  cases c with
  | false => exact ⟨fun ⟨_, h, _⟩ => (by cases h), fun h => (by cases h.1)⟩
  | true => exact ⟨fun h => ⟨rfl, h⟩, fun h => h.2⟩
theorem wk_ite {β : Type} {c : Prop} {i : Decidable c} {a b : Option β} {P : β → Prop} : wk (@ite _ c i a b) P ↔ (c → wk a P) ∧ (¬ c → wk b P) := by
  by_cases h : c
  · rw [if_pos h]; exact ⟨fun k => ⟨fun _ => k, fun n => absurd h n⟩, fun k => k.1 h⟩
  · rw [if_neg h]; exact ⟨fun k => ⟨fun n => absurd n h, fun _ => k⟩, fun k => k.2 h⟩
theorem wk_mono {α : Type} {o : Option α} {P Q : α → Prop} (h : wk o P) (hpq : ∀ x, P x → Q x) : wk o Q := by
  obtain ⟨x, h1, h2⟩ := h
  exact ⟨x, h1, hpq x h2⟩
theorem wk_b1 {β : Type} {o : Option wc_S} {f : wc_S → Option β} {P : β → Prop} {Q : wc_S → Prop} (h : wk o Q) (h2 : ∀ u, Q u → wk (f u) P) : wk (wc_b1 o f) P := by
  obtain ⟨x, rfl, hq⟩ := h
  exact h2 x hq
theorem wk_b2 {β : Type} {o : Option (Int32 × wc_S)} {f : Int32 → wc_S → Option β} {P : β → Prop} {Q : Int32 × wc_S → Prop} (h : wk o Q) (h2 : ∀ r u, Q (r, u) → wk (f r u) P) : wk (wc_b2 o f) P := by
  obtain ⟨x, rfl, hq⟩ := h
  exact h2 x.1 x.2 hq
theorem wk_bx {β : Type} {o : Option (wc_X wc_S)} {f : wc_S → Option (wc_X β)} {P : wc_X β → Prop} {Q : wc_X wc_S → Prop} (h : wk o Q) (hl : ∀ u, Q (.inl u) → P (.inl u)) (hr : ∀ u, Q (.inr u) → wk (f u) P) : wk (wc_bx o f) P := by
  obtain ⟨x, rfl, hq⟩ := h
  cases x with
  | inl u => exact ⟨_, rfl, hl u hq⟩
  | inr u => exact hr u hq
theorem wk_cti {β : Type} {o : Option (wc_X (Int32 × wc_S))} {x : Nat → wc_S → Option β} {f : Int32 → wc_S → Option β} {P : β → Prop} {Q : wc_X (Int32 × wc_S) → Prop} (h : wk o Q) (hl : ∀ k u, Q (.inl (k, u)) → wk (x k u) P) (hr : ∀ r u, Q (.inr (r, u)) → wk (f r u) P) : wk (wc_cti o x f) P := by
  obtain ⟨y, rfl, hq⟩ := h
  cases y with
  | inl u => exact hl u.1 u.2 hq
  | inr u => exact hr u.1 u.2 hq
theorem wk_ctv {β : Type} {o : Option (wc_X wc_S)} {x : Nat → wc_S → Option β} {f : wc_S → Option β} {P : β → Prop} {Q : wc_X wc_S → Prop} (h : wk o Q) (hl : ∀ k u, Q (.inl (k, u)) → wk (x k u) P) (hr : ∀ u, Q (.inr u) → wk (f u) P) : wk (wc_ctv o x f) P := by
  obtain ⟨y, rfl, hq⟩ := h
  cases y with
  | inl u => exact hl u.1 u.2 hq
  | inr u => exact hr u hq
/-! numbers -/
theorem wn_lt {x y : Int32} : x < y ↔ x.toInt < y.toInt := Int32.lt_iff_toInt_lt
theorem wn_le {x y : Int32} : x ≤ y ↔ x.toInt ≤ y.toInt := Int32.le_iff_toInt_le
theorem wn_eq {x y : Int32} : x = y ↔ x.toInt = y.toInt := Int32.toInt_inj.symm
theorem wn_add {x y : Int32} (h1 : -2147483648 ≤ x.toInt + y.toInt) (h2 : x.toInt + y.toInt < 2147483648) : (x + y).toInt = x.toInt + y.toInt := by
  rw [Int32.toInt_add]
  exact Int.bmod_eq_of_le (by omega) (by omega)
theorem wn_sub {x y : Int32} (h1 : -2147483648 ≤ x.toInt - y.toInt) (h2 : x.toInt - y.toInt < 2147483648) : (x - y).toInt = x.toInt - y.toInt := by
  rw [Int32.toInt_sub]
  exact Int.bmod_eq_of_le (by omega) (by omega)
theorem wn_tn {x : Int32} : x.toNatClampNeg = x.toInt.toNat := rfl
theorem wn_in {x : Int32} {n : Nat} (h1 : 0 ≤ x.toInt) (h2 : x.toInt < n) : wc_in x n = true := by
  have e : ¬ x < 0 := by rw [wn_lt]; show ¬ x.toInt < 0; omega
  have e2 : ¬ n ≤ x.toNatClampNeg := by rw [wn_tn]; omega
  simp [wc_in, e, e2]
theorem wn_le9 {x : Int32} {n : Nat} (h1 : 0 ≤ x.toInt) (h2 : x.toInt ≤ n) : wc_le x n = true := by
  have e : ¬ x < 0 := by rw [wn_lt]; show ¬ x.toInt < 0; omega
  have e2 : x.toNatClampNeg ≤ n := by rw [wn_tn]; omega
  simp [wc_le, e, e2]
/-! the class's methods come to an end, within these bounds -/
theorem wr_same {S : Nat → Nat → Prop} {σ τ : wc_S} (h : wr_q S σ τ) (hs : ∀ k i, ¬ S k i) : τ = σ := funext fun k => funext fun i => h k i (hs k i)
/-- a method that writes nothing: what comes has the same state -/
theorem wk_keep {o : Option (Int32 × wc_S)} {σ : wc_S} {P : Int32 × wc_S → Prop} (h : wk o P) (hs : ∀ res, o = some res → res.2 = σ) : wk o (fun r => P r ∧ r.2 = σ) := by
  obtain ⟨x, h1, h2⟩ := h
  exact ⟨x, h1, h2, hs x h1⟩
def wv_P (σ : wc_S) : Prop := (0 ≤ (σ 1 10).toInt ∧ (σ 1 10).toInt ≤ 9) ∧ (0 ≤ (σ 18 3).toInt ∧ (σ 18 3).toInt ≤ 8) ∧ (0 ≤ (σ 22 3).toInt ∧ (σ 22 3).toInt ≤ 8) ∧ (0 ≤ (σ 26 3).toInt ∧ (σ 26 3).toInt ≤ 4)
def wv_9 (σ : wc_S) (k : Nat) : Prop := ∀ i, i < 9 → 0 ≤ (σ k i).toInt ∧ (σ k i).toInt < 9
def wv_L (σ : wc_S) (b : Nat) : Prop := (0 ≤ (σ b 9).toInt ∧ (σ b 9).toInt ≤ 9) ∧ wv_9 σ (b + 1)
theorem wn_0 : (0 : Int32).toInt = 0 := rfl
theorem wn_1 : (1 : Int32).toInt = 1 := rfl
theorem wn_m1 : (-1 : Int32).toInt = -1 := rfl
theorem wn_9 : (9 : Int32).toInt = 9 := rfl
theorem wn_up {x : Int32} (h1 : 0 ≤ x.toInt) (h2 : x.toInt < 1000000) : (x + 1).toInt = x.toInt + 1 := by
  rw [wn_add (by rw [wn_1]; omega) (by rw [wn_1]; omega), wn_1]
theorem wn_dn {x : Int32} (h1 : 0 ≤ x.toInt) (h2 : x.toInt < 1000000) : (x - 1).toInt = x.toInt - 1 := by
  rw [wn_sub (by rw [wn_1]; omega) (by rw [wn_1]; omega), wn_1]
theorem wt_J_costOf_11 (b : Nat) (σ : wc_S) (h8 : (σ b 3).toInt ≤ 8) (x1 : Int32) : ∀ (n : Nat) (x2 : Int32), 0 ≤ x2.toInt → x2.toInt ≤ 8 → 8 < x2.toInt + n → wk (wf_J_costOf_11 b n x1 x2 σ) (fun _ => True) := by
  intro n
  induction n with
  | zero => intro x2 h1 h2 h3; omega
  | succ n ih =>
    intro x2 h1 h2 h3
    show wk (wf_J_costOf_11_b b (wf_J_costOf_11 b n) x1 x2 σ) _
    unfold wf_J_costOf_11_b
    simp only [wk_st, wk_ite, wk_gd, wk_some, wf_J_costOf_46, wn_le, wn_lt]
    refine ⟨fun _ => trivial, fun hc => ?_⟩
    have hi : wc_in x2 8 = true := wn_in h1 (by omega)
    have hn := wn_up h1 (by omega)
    have key := ih (x2 + 1) (by omega) (by omega) (by omega)
    simp only [hi, key, true_and, and_true, implies_true]
theorem wt_J_costOf (b : Nat) (σ : wc_S) (h8 : (σ b 3).toInt ≤ 8) (x1 : Int32) : wk (wf_J_costOf b x1 σ) (fun r => r.2 = σ) := by
  have h : wk (wf_J_costOf b x1 σ) (fun _ => True) := by
    unfold wf_J_costOf
    simp only [wk_st, wk_ite, wk_some]
    exact ⟨fun _ => trivial, fun _ => wt_J_costOf_11 b σ h8 x1 16 0 (by rw [wn_0]; omega) (by rw [wn_0]; omega) (by rw [wn_0]; omega)⟩
  exact wk_mono (wk_keep h (fun res hr => wr_same (wr_J_costOf b x1 σ res hr) (fun _ _ h => h))) (fun _ q => q.2)
theorem wt_P_reckonJump (σ : wc_S) (hP : wv_P σ) (a1 a2 : Int32) (h1 : 0 ≤ a1.toInt ∧ a1.toInt < 9) (h2 : 0 ≤ a2.toInt ∧ a2.toInt < 9) : wk (wf_P_reckonJump a1 a2 σ) (fun r => r.2 = σ) := by
  obtain ⟨-, hh, ht, -⟩ := hP
  have i1 : wc_in a1 9 = true := wn_in h1.1 h1.2
  have i2 : wc_in a2 9 = true := wn_in h2.1 h2.2
  have h : wk (wf_P_reckonJump a1 a2 σ) (fun _ => True) := by
    unfold wf_P_reckonJump
    simp only [wk_st, wk_gd, i1, i2, true_and]
    refine wk_b2 (wt_J_costOf 18 σ hh.2 _) (fun r u hu => ?_)
    have hu : u = σ := hu
    subst hu
    simp only [wk_st, wk_gd, true_and]
    refine wk_b2 (wt_J_costOf 22 u ht.2 _) (fun r2 u2 hu2 => ?_)
    simp only [wk_st, wk_ite, wk_some, implies_true, and_self]
  exact wk_mono (wk_keep h (fun res hr => wr_same (wr_P_reckonJump a1 a2 σ res hr) (fun _ _ h => h))) (fun _ q => q.2)
/-! range questions, seen through what follows them -/
theorem ob0 {β : Type} {v a b : Int32} {σ : wc_S} {f : Int32 → wc_S → Option β} (h : ¬ v < a ∧ v ≤ b) : wc_b2 (wf_W_isOutside v a b σ) f = f 0 σ := by
  have e : wf_W_isOutside v a b σ = some (0, σ) := by unfold wf_W_isOutside; rw [if_neg h.1, if_pos h.2]
  rw [e]; rfl
theorem ob1 {β : Type} {v a b : Int32} {σ : wc_S} {f : Int32 → wc_S → Option β} (h : ¬ (¬ v < a ∧ v ≤ b)) : wc_b2 (wf_W_isOutside v a b σ) f = f 1 σ := by
  have e : wf_W_isOutside v a b σ = some (1, σ) := by
    unfold wf_W_isOutside
    by_cases h1 : v < a
    · rw [if_pos h1]
    · rw [if_neg h1, if_neg (fun h2 => h ⟨h1, h2⟩)]
  rw [e]; rfl
theorem mb1 {β : Type} {v a b : Int32} {σ : wc_S} {f : Int32 → wc_S → Option β} (h : ¬ v < a ∧ v ≤ b) : wc_b2 (wf_M_in v a b σ) f = f 1 σ := by
  have h2 : ¬ b < v := by have := wn_le.1 h.2; rw [wn_lt]; omega
  have e : wf_M_in v a b σ = some (1, σ) := by unfold wf_M_in; rw [if_neg h.1, if_neg h2]
  rw [e]; rfl
theorem mb0 {β : Type} {v a b : Int32} {σ : wc_S} {f : Int32 → wc_S → Option β} (h : ¬ (¬ v < a ∧ v ≤ b)) : wc_b2 (wf_M_in v a b σ) f = f 0 σ := by
  have e : wf_M_in v a b σ = some (0, σ) := by
    unfold wf_M_in
    by_cases h1 : v < a
    · rw [if_pos h1]
    · rw [if_neg h1, if_pos]
      have h3 : ¬ v ≤ b := fun h2 => h ⟨h1, h2⟩
      rw [wn_le] at h3; rw [wn_lt]; omega
  rw [e]; rfl
/-! each cell within its bounds: what every call keeps; c names the count that is below its bound -/
def wI (c k i : Nat) (x : Int32) : Prop :=
  (k = 1 ∧ i = 10 → 0 ≤ x.toInt ∧ x.toInt ≤ 9 ∧ (1 = c → x.toInt ≤ 8)) ∧
  ((k = 18 ∨ k = 22) ∧ i = 3 → 0 ≤ x.toInt ∧ x.toInt ≤ 8 ∧ (k = c → x.toInt ≤ 7)) ∧
  (k = 26 ∧ i = 3 → 0 ≤ x.toInt ∧ x.toInt ≤ 4 ∧ (26 = c → x.toInt ≤ 3)) ∧
  ((k = 30 ∨ k = 49) ∧ i = 9 → 0 ≤ x.toInt ∧ x.toInt ≤ 9 ∧ (k = c → x.toInt ≤ 8)) ∧
  ((k = 31 ∨ k = 50 ∨ k = 69 ∨ k = 70 ∨ k = 85 ∨ k = 78 ∨ k = 6) → 0 ≤ x.toInt ∧ x.toInt ≤ 8) ∧
  ((k = 33 ∨ k = 52 ∨ k = 87) → 0 ≤ x.toInt ∧ x.toInt ≤ 1) ∧
  (k = 68 ∧ i = 5 → 0 ≤ x.toInt ∧ x.toInt ≤ 1) ∧
  (k = 71 ∧ i = 1 → 0 ≤ x.toInt ∧ x.toInt ≤ 9 ∧ (71 = c → x.toInt ≤ 8)) ∧
  (k = 71 ∧ i = 12 → 0 ≤ x.toInt ∧ x.toInt ≤ 4 ∧ (72 = c → x.toInt ≤ 3))
def wJ (c : Nat) (σ : wc_S) : Prop := ∀ k i, wI c k i (σ k i)
theorem wJ_u {c : Nat} {σ : wc_S} {k i : Nat} {x : Int32} (h : wJ c σ) (hx : wI c k i x) : wJ c (wc_u σ k i x) := by
  intro k' i'
  by_cases e : k' = k
  · subst e
    by_cases e2 : i' = i
    · subst e2
      have : wc_u σ k' i' x k' i' = x := by simp [wc_u, wc_uA, upd]
      rw [this]; exact hx
    · have : wc_u σ k' i x k' i' = σ k' i' := by simp [wc_u, wc_uA, upd, e2]
      rw [this]; exact h k' i'
  · have : wc_u σ k i x k' i' = σ k' i' := by simp [wc_u, wc_uA, e]
    rw [this]; exact h k' i'
theorem wJ_o {c : Nat} {k i : Nat} {x : Int32} (h : ¬ (k = 1 ∨ k = 18 ∨ k = 22 ∨ k = 26 ∨ k = 30 ∨ k = 49 ∨ k = 31 ∨ k = 50 ∨ k = 69 ∨ k = 70 ∨ k = 85 ∨ k = 78 ∨ k = 6 ∨ k = 33 ∨ k = 52 ∨ k = 87 ∨ k = 68 ∨ k = 71)) : wI c k i x := by
  unfold wI
  refine ⟨?_, ?_, ?_, ?_, ?_, ?_, ?_, ?_, ?_⟩ <;> (intro e; exact absurd e (by omega))
theorem i_n {c : Nat} {σ : wc_S} (h : wJ c σ) : 0 ≤ (σ 1 10).toInt ∧ (σ 1 10).toInt ≤ 9 ∧ (1 = c → (σ 1 10).toInt ≤ 8) := (h 1 10).1 ⟨rfl, rfl⟩
theorem i_r {c : Nat} {σ : wc_S} {b : Nat} (h : wJ c σ) (hb : b = 18 ∨ b = 22) : 0 ≤ (σ b 3).toInt ∧ (σ b 3).toInt ≤ 8 ∧ (b = c → (σ b 3).toInt ≤ 7) := (h b 3).2.1 ⟨hb, rfl⟩
theorem i_g {c : Nat} {σ : wc_S} (h : wJ c σ) : 0 ≤ (σ 26 3).toInt ∧ (σ 26 3).toInt ≤ 4 ∧ (26 = c → (σ 26 3).toInt ≤ 3) := (h 26 3).2.2.1 ⟨rfl, rfl⟩
theorem i_l {c : Nat} {σ : wc_S} {b : Nat} (h : wJ c σ) (hb : b = 30 ∨ b = 49) : 0 ≤ (σ b 9).toInt ∧ (σ b 9).toInt ≤ 9 ∧ (b = c → (σ b 9).toInt ≤ 8) := (h b 9).2.2.2.1 ⟨hb, rfl⟩
theorem i_8 {c : Nat} {σ : wc_S} {k i : Nat} (h : wJ c σ) (hk : k = 31 ∨ k = 50 ∨ k = 69 ∨ k = 70 ∨ k = 85 ∨ k = 78 ∨ k = 6) : 0 ≤ (σ k i).toInt ∧ (σ k i).toInt ≤ 8 := (h k i).2.2.2.2.1 hk
theorem i_b {c : Nat} {σ : wc_S} {k i : Nat} (h : wJ c σ) (hk : k = 33 ∨ k = 52 ∨ k = 87) : 0 ≤ (σ k i).toInt ∧ (σ k i).toInt ≤ 1 := (h k i).2.2.2.2.2.1 hk
theorem i_f {c : Nat} {σ : wc_S} (h : wJ c σ) : 0 ≤ (σ 68 5).toInt ∧ (σ 68 5).toInt ≤ 1 := (h 68 5).2.2.2.2.2.2.1 ⟨rfl, rfl⟩
theorem i_m {c : Nat} {σ : wc_S} (h : wJ c σ) : 0 ≤ (σ 71 1).toInt ∧ (σ 71 1).toInt ≤ 9 ∧ (71 = c → (σ 71 1).toInt ≤ 8) := (h 71 1).2.2.2.2.2.2.2.1 ⟨rfl, rfl⟩
theorem i_k {c : Nat} {σ : wc_S} (h : wJ c σ) : 0 ≤ (σ 71 12).toInt ∧ (σ 71 12).toInt ≤ 4 ∧ (72 = c → (σ 71 12).toInt ≤ 3) := (h 71 12).2.2.2.2.2.2.2.2 ⟨rfl, rfl⟩
theorem u_n {c : Nat} {σ : wc_S} {x : Int32} (h : wJ c σ) (hx : 0 ≤ x.toInt ∧ x.toInt ≤ 9 ∧ (1 = c → x.toInt ≤ 8)) : wJ c (wc_u σ 1 10 x) := wJ_u h ⟨fun _ => hx, by omega, by omega, by omega, by omega, by omega, by omega, by omega, by omega⟩
theorem u_1 {c : Nat} {σ : wc_S} {i : Nat} {x : Int32} (h : wJ c σ) (hi : i ≠ 10) : wJ c (wc_u σ 1 i x) := wJ_u h ⟨fun e => absurd e.2 hi, by omega, by omega, by omega, by omega, by omega, by omega, by omega, by omega⟩
theorem u_r {c : Nat} {σ : wc_S} {b : Nat} {x : Int32} (h : wJ c σ) (hb : b = 18 ∨ b = 22) (hx : 0 ≤ x.toInt ∧ x.toInt ≤ 8 ∧ (b = c → x.toInt ≤ 7)) : wJ c (wc_u σ b 3 x) := wJ_u h ⟨by omega, fun _ => hx, by omega, by omega, by omega, by omega, by omega, by omega, by omega⟩
theorem u_g {c : Nat} {σ : wc_S} {x : Int32} (h : wJ c σ) (hx : 0 ≤ x.toInt ∧ x.toInt ≤ 4 ∧ (26 = c → x.toInt ≤ 3)) : wJ c (wc_u σ 26 3 x) := wJ_u h ⟨by omega, by omega, fun _ => hx, by omega, by omega, by omega, by omega, by omega, by omega⟩
theorem u_l {c : Nat} {σ : wc_S} {b : Nat} {x : Int32} (h : wJ c σ) (hb : b = 30 ∨ b = 49) (hx : 0 ≤ x.toInt ∧ x.toInt ≤ 9 ∧ (b = c → x.toInt ≤ 8)) : wJ c (wc_u σ b 9 x) := wJ_u h ⟨by omega, by omega, by omega, fun _ => hx, by omega, by omega, by omega, by omega, by omega⟩
theorem u_8 {c : Nat} {σ : wc_S} {k i : Nat} {x : Int32} (h : wJ c σ) (hk : k = 31 ∨ k = 50 ∨ k = 69 ∨ k = 70 ∨ k = 85 ∨ k = 78 ∨ k = 6) (hx : 0 ≤ x.toInt ∧ x.toInt ≤ 8) : wJ c (wc_u σ k i x) := wJ_u h ⟨by omega, by omega, by omega, by omega, fun _ => hx, by omega, by omega, by omega, by omega⟩
theorem u_b {c : Nat} {σ : wc_S} {k i : Nat} {x : Int32} (h : wJ c σ) (hk : k = 33 ∨ k = 52 ∨ k = 87) (hx : 0 ≤ x.toInt ∧ x.toInt ≤ 1) : wJ c (wc_u σ k i x) := wJ_u h ⟨by omega, by omega, by omega, by omega, by omega, fun _ => hx, by omega, by omega, by omega⟩
theorem u_f {c : Nat} {σ : wc_S} {x : Int32} (h : wJ c σ) (hx : 0 ≤ x.toInt ∧ x.toInt ≤ 1) : wJ c (wc_u σ 68 5 x) := wJ_u h ⟨by omega, by omega, by omega, by omega, by omega, by omega, fun _ => hx, by omega, by omega⟩
theorem u_68 {c : Nat} {σ : wc_S} {i : Nat} {x : Int32} (h : wJ c σ) (hi : i ≠ 5) : wJ c (wc_u σ 68 i x) := wJ_u h ⟨by omega, by omega, by omega, by omega, by omega, by omega, fun e => absurd e.2 hi, by omega, by omega⟩
theorem u_m {c : Nat} {σ : wc_S} {x : Int32} (h : wJ c σ) (hx : 0 ≤ x.toInt ∧ x.toInt ≤ 9 ∧ (71 = c → x.toInt ≤ 8)) : wJ c (wc_u σ 71 1 x) := wJ_u h ⟨by omega, by omega, by omega, by omega, by omega, by omega, by omega, fun _ => hx, by omega⟩
theorem u_k {c : Nat} {σ : wc_S} {x : Int32} (h : wJ c σ) (hx : 0 ≤ x.toInt ∧ x.toInt ≤ 4 ∧ (72 = c → x.toInt ≤ 3)) : wJ c (wc_u σ 71 12 x) := wJ_u h ⟨by omega, by omega, by omega, by omega, by omega, by omega, by omega, by omega, fun _ => hx⟩
theorem u_71 {c : Nat} {σ : wc_S} {i : Nat} {x : Int32} (h : wJ c σ) (hi : i ≠ 1) (hi2 : i ≠ 12) : wJ c (wc_u σ 71 i x) := wJ_u h ⟨by omega, by omega, by omega, by omega, by omega, by omega, by omega, fun e => absurd e.2 hi, fun e => absurd e.2 hi2⟩
theorem u_o {c : Nat} {σ : wc_S} {k i : Nat} {x : Int32} (h : wJ c σ) (hk : ¬ (k = 1 ∨ k = 18 ∨ k = 22 ∨ k = 26 ∨ k = 30 ∨ k = 49 ∨ k = 31 ∨ k = 50 ∨ k = 69 ∨ k = 70 ∨ k = 85 ∨ k = 78 ∨ k = 6 ∨ k = 33 ∨ k = 52 ∨ k = 87 ∨ k = 68 ∨ k = 71)) : wJ c (wc_u σ k i x) := wJ_u h (wJ_o hk)
/-! steps -/
theorem wk_r {α : Type} {x : Int32} {f : Int32 → Option α} {P : α → Prop} (Q : Int32 → Prop) (hq : Q x) (h : ∀ v, Q v → wk (f v) P) : wk (wc_st x f) P := h x hq
theorem wk_v {α γ : Type} {x : γ} {f : γ → Option α} {P : α → Prop} (h : ∀ v, wk (f v) P) : wk (wc_st x f) P := h x
theorem wk_e {α γ : Type} {x : γ} {f : γ → Option α} {P : α → Prop} (h : ∀ v, v = x → wk (f v) P) : wk (wc_st x f) P := h x rfl
theorem wk_w {c : Nat} {α : Type} {σ : wc_S} {f : wc_S → Option α} {P : α → Prop} (hx : wJ c σ) (h : ∀ τ, wJ c τ → wk (f τ) P) : wk (wc_st σ f) P := h σ hx
theorem wk_g {α : Type} {c : Bool} {k : Option α} {P : α → Prop} (hc : c = true) (h : wk k P) : wk (wc_gd c k) P := wk_gd.2 ⟨hc, h⟩
theorem wk_i {α : Type} {c : Prop} {i : Decidable c} {a b : Option α} {P : α → Prop} (h1 : c → wk a P) (h2 : ¬ c → wk b P) : wk (@ite _ c i a b) P := wk_ite.2 ⟨h1, h2⟩
theorem wk_s {α : Type} {x : α} {P : α → Prop} (h : P x) : wk (some x) P := wk_some.2 h
theorem wn_z {x : Int32} (h : 0 ≤ x.toInt ∧ x.toInt ≤ 1) : wc_z x = true := by
  have : x.toInt = 0 ∨ x.toInt = 1 := by omega
  rcases this with e | e
  · have : x = 0 := wn_eq.2 e
    subst this; rfl
  · have : x = 1 := wn_eq.2 e
    subst this; rfl
theorem wn_100 : (100 : Int32).toInt = 100 := rfl
theorem wn_4 : (4 : Int32).toInt = 4 := rfl
theorem wn_8 : (8 : Int32).toInt = 8 := rfl
theorem wn_2 : (2 : Int32).toInt = 2 := rfl
theorem wn_bb (x : Int32) : 0 ≤ (vp_nar .boolean x).toInt ∧ (vp_nar .boolean x).toInt ≤ 1 := by
  have e : vp_nar .boolean x = x &&& 1 := rfl
  rw [e]
  have h : (x &&& 1).toBitVec.toNat = x.toBitVec.toNat % 2 := by
    rw [Int32.toBitVec_and]
    show (x.toBitVec &&& 1#32).toNat = _
    rw [BitVec.toNat_and]
    exact Nat.and_one_is_mod _
  have e2 : (x &&& 1).toInt = (x &&& 1).toBitVec.toInt := rfl
  rw [e2, BitVec.toInt_eq_toNat_cond, h]
  have : x.toBitVec.toNat % 2 < 2 := Nat.mod_lt _ (by decide)
  split <;> omega
theorem wn_15 (x : Int32) : 0 ≤ (x &&& 15).toInt ∧ (x &&& 15).toInt ≤ 15 := by
  have h : (x &&& 15).toBitVec.toNat = x.toBitVec.toNat % 16 := by
    rw [Int32.toBitVec_and]
    show (x.toBitVec &&& 15#32).toNat = _
    rw [BitVec.toNat_and]
    exact Nat.and_two_pow_sub_one_eq_mod _ 4
  have e2 : (x &&& 15).toInt = (x &&& 15).toBitVec.toInt := rfl
  rw [e2, BitVec.toInt_eq_toNat_cond, h]
  have : x.toBitVec.toNat % 16 < 16 := Nat.mod_lt _ (by decide)
  split <;> omega
theorem uA_69 {c : Nat} {σ : wc_S} {n : Nat} (h : wJ c σ) : wJ c (wc_uA σ 69 (va_cpy (σ 31) (σ 69) 0 0 n)) := by
  intro k i
  by_cases e : k = 69
  · subst e
    have e1 : wc_uA σ 69 (va_cpy (σ 31) (σ 69) 0 0 n) 69 i = va_cpy (σ 31) (σ 69) 0 0 n i := by simp [wc_uA]
    have h2 : 0 ≤ (va_cpy (σ 31) (σ 69) 0 0 n i).toInt ∧ (va_cpy (σ 31) (σ 69) 0 0 n i).toInt ≤ 8 := by
      unfold va_cpy
      split
      · exact i_8 h (by omega)
      · exact i_8 h (by omega)
    rw [e1]
    exact ⟨by omega, by omega, by omega, by omega, fun _ => h2, by omega, by omega, by omega, by omega⟩
  · have : wc_uA σ 69 (va_cpy (σ 31) (σ 69) 0 0 n) k i = σ k i := by simp [wc_uA, e]
    rw [this]; exact h k i
theorem uA_70 {c : Nat} {σ : wc_S} {n : Nat} (h : wJ c σ) : wJ c (wc_uA σ 70 (va_cpy (σ 50) (σ 70) 0 0 n)) := by
  intro k i
  by_cases e : k = 70
  · subst e
    have e1 : wc_uA σ 70 (va_cpy (σ 50) (σ 70) 0 0 n) 70 i = va_cpy (σ 50) (σ 70) 0 0 n i := by simp [wc_uA]
    have h2 : 0 ≤ (va_cpy (σ 50) (σ 70) 0 0 n i).toInt ∧ (va_cpy (σ 50) (σ 70) 0 0 n i).toInt ≤ 8 := by
      unfold va_cpy
      split
      · exact i_8 h (by omega)
      · exact i_8 h (by omega)
    rw [e1]
    exact ⟨by omega, by omega, by omega, by omega, fun _ => h2, by omega, by omega, by omega, by omega⟩
  · have : wc_uA σ 70 (va_cpy (σ 50) (σ 70) 0 0 n) k i = σ k i := by simp [wc_uA, e]
    rw [this]; exact h k i
theorem wJ_0 {c : Nat} {σ : wc_S} (h : wJ c σ) : wJ 0 σ := by
  intro k i
  have g := h k i
  unfold wI at g ⊢
  obtain ⟨g1, g2, g3, g4, g5, g6, g7, g8, g9⟩ := g
  exact ⟨fun e => ⟨(g1 e).1, (g1 e).2.1, fun e2 => by omega⟩, fun e => ⟨(g2 e).1, (g2 e).2.1, fun e2 => by omega⟩, fun e => ⟨(g3 e).1, (g3 e).2.1, fun e2 => by omega⟩, fun e => ⟨(g4 e).1, (g4 e).2.1, fun e2 => by omega⟩, g5, g6, g7, fun e => ⟨(g8 e).1, (g8 e).2.1, fun e2 => by omega⟩, fun e => ⟨(g9 e).1, (g9 e).2.1, fun e2 => by omega⟩⟩
theorem wJ_s {c : Nat} {σ : wc_S} (h : wJ 0 σ) (h1 : 1 = c → (σ 1 10).toInt ≤ 8) (h2 : c = 18 ∨ c = 22 → (σ c 3).toInt ≤ 7) (h3 : 26 = c → (σ 26 3).toInt ≤ 3) (h4 : c = 30 ∨ c = 49 → (σ c 9).toInt ≤ 8) (h5 : 71 = c → (σ 71 1).toInt ≤ 8) (h6 : 72 = c → (σ 71 12).toInt ≤ 3) : wJ c σ := by
  intro k i
  have g := h k i
  unfold wI at g ⊢
  obtain ⟨g1, g2, g3, g4, g5, g6, g7, g8, g9⟩ := g
  refine ⟨fun e => ⟨(g1 e).1, (g1 e).2.1, fun e2 => ?_⟩, fun e => ⟨(g2 e).1, (g2 e).2.1, fun e2 => ?_⟩, fun e => ⟨(g3 e).1, (g3 e).2.1, fun e2 => ?_⟩, fun e => ⟨(g4 e).1, (g4 e).2.1, fun e2 => ?_⟩, g5, g6, g7, fun e => ⟨(g8 e).1, (g8 e).2.1, fun e2 => ?_⟩, fun e => ⟨(g9 e).1, (g9 e).2.1, fun e2 => ?_⟩⟩
  · rw [e.1, e.2]; exact h1 e2
  · rw [e.2, e2]; exact h2 (e2 ▸ e.1)
  · rw [e.1, e.2]; exact h3 e2
  · rw [e.2, e2]; exact h4 (e2 ▸ e.1)
  · rw [e.1, e.2]; exact h5 e2
  · rw [e.1, e.2]; exact h6 e2
theorem wJ_c {b : Nat} {σ : wc_S} (h : wJ 0 σ) (hb : b = 30 ∨ b = 49) (hl : (σ b 9).toInt ≤ 8) : wJ b σ := wJ_s h (by omega) (by omega) (by omega) (fun _ => hl) (by omega) (by omega)
theorem wJ_1 {σ : wc_S} (h : wJ 0 σ) (hl : (σ 1 10).toInt ≤ 8) : wJ 1 σ := wJ_s h (fun _ => hl) (by omega) (by omega) (by omega) (by omega) (by omega)
theorem wJ_r {b : Nat} {σ : wc_S} (h : wJ 0 σ) (hb : b = 18 ∨ b = 22) (hl : (σ b 3).toInt ≤ 7) : wJ b σ := wJ_s h (by omega) (fun _ => hl) (by omega) (by omega) (by omega) (by omega)
theorem wJ_g {σ : wc_S} (h : wJ 0 σ) (hl : (σ 26 3).toInt ≤ 3) : wJ 26 σ := wJ_s h (by omega) (by omega) (fun _ => hl) (by omega) (by omega) (by omega)
theorem wJ_m {σ : wc_S} (h : wJ 0 σ) (hl : (σ 71 1).toInt ≤ 8) : wJ 71 σ := wJ_s h (by omega) (by omega) (by omega) (by omega) (fun _ => hl) (by omega)
theorem wJ_k {σ : wc_S} (h : wJ 0 σ) (hl : (σ 71 12).toInt ≤ 3) : wJ 72 σ := wJ_s h (by omega) (by omega) (by omega) (by omega) (by omega) (fun _ => hl)
theorem u_lb {c : Nat} {σ : wc_S} {b : Nat} {x : Int32} (h : wJ c σ) (hb : b = 30 ∨ b = 49) (hx : 0 ≤ x.toInt ∧ x.toInt ≤ 8) : wJ b (wc_u σ b 9 x) := wJ_c (u_l (wJ_0 h) hb ⟨hx.1, by omega, by omega⟩) hb (by rw [show wc_u σ b 9 x b 9 = x by simp [wc_u, wc_uA, upd]]; exact hx.2)
theorem wk_rn {α : Type} {c : Nat} {σ : wc_S} {f : Int32 → Option α} {P : α → Prop} (hσ : wJ c σ) (h : ∀ v, (0 ≤ v.toInt ∧ v.toInt ≤ 9 ∧ (1 = c → v.toInt ≤ 8)) ∧ v.toInt = (σ 1 10).toInt → wk (f v) P) : wk (wc_st (σ 1 10) f) P := h _ ⟨i_n hσ, rfl⟩
theorem wk_rr {α : Type} {c : Nat} {b : Nat} {σ : wc_S} {f : Int32 → Option α} {P : α → Prop} (hσ : wJ c σ) (hb : b = 18 ∨ b = 22) (h : ∀ v, (0 ≤ v.toInt ∧ v.toInt ≤ 8 ∧ (b = c → v.toInt ≤ 7)) ∧ v.toInt = (σ b 3).toInt → wk (f v) P) : wk (wc_st (σ b 3) f) P := h _ ⟨i_r hσ hb, rfl⟩
theorem wk_rg {α : Type} {c : Nat} {σ : wc_S} {f : Int32 → Option α} {P : α → Prop} (hσ : wJ c σ) (h : ∀ v, (0 ≤ v.toInt ∧ v.toInt ≤ 4 ∧ (26 = c → v.toInt ≤ 3)) ∧ v.toInt = (σ 26 3).toInt → wk (f v) P) : wk (wc_st (σ 26 3) f) P := h _ ⟨i_g hσ, rfl⟩
theorem wk_rl {α : Type} {c : Nat} {b : Nat} {σ : wc_S} {f : Int32 → Option α} {P : α → Prop} (hσ : wJ c σ) (hb : b = 30 ∨ b = 49) (h : ∀ v, (0 ≤ v.toInt ∧ v.toInt ≤ 9 ∧ (b = c → v.toInt ≤ 8)) ∧ v.toInt = (σ b 9).toInt → wk (f v) P) : wk (wc_st (σ b 9) f) P := h _ ⟨i_l hσ hb, rfl⟩
theorem wk_rm {α : Type} {c : Nat} {σ : wc_S} {f : Int32 → Option α} {P : α → Prop} (hσ : wJ c σ) (h : ∀ v, (0 ≤ v.toInt ∧ v.toInt ≤ 9 ∧ (71 = c → v.toInt ≤ 8)) ∧ v.toInt = (σ 71 1).toInt → wk (f v) P) : wk (wc_st (σ 71 1) f) P := h _ ⟨i_m hσ, rfl⟩
theorem wk_rk {α : Type} {c : Nat} {σ : wc_S} {f : Int32 → Option α} {P : α → Prop} (hσ : wJ c σ) (h : ∀ v, (0 ≤ v.toInt ∧ v.toInt ≤ 4 ∧ (72 = c → v.toInt ≤ 3)) ∧ v.toInt = (σ 71 12).toInt → wk (f v) P) : wk (wc_st (σ 71 12) f) P := h _ ⟨i_k hσ, rfl⟩
theorem wn_m8 {x : Int32} (h1 : 0 ≤ x.toInt) (h2 : x.toInt ≤ 1) : ((8 : Int32) * x).toInt = 8 * x.toInt := by
  have : x.toInt = 0 ∨ x.toInt = 1 := by omega
  rcases this with e | e
  · have : x = 0 := wn_eq.2 e
    subst this; rfl
  · have : x = 1 := wn_eq.2 e
    subst this; rfl
theorem wu_same {σ : wc_S} {k i : Nat} {x : Int32} : wc_u σ k i x k i = x := by simp [wc_u, wc_uA, upd]
theorem wu_other {σ : wc_S} {k i k' i' : Nat} {x : Int32} (h : k' ≠ k ∨ i' ≠ i) : wc_u σ k i x k' i' = σ k' i' := by
  by_cases e : k' = k
  · subst e
    have e2 : i' ≠ i := by rcases h with h | h; exact absurd rfl h; exact h
    simp [wc_u, wc_uA, upd, e2]
  · simp [wc_u, wc_uA, e]
