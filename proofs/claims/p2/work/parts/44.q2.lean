/-! the model's jumps are the class's, where class and model are tied -/
theorem wu_at {σ : wc_S} {k i : Nat} {x : Int32} {k' i' : Nat} : wc_u σ k i x k' i' = if k' = k ∧ i' = i then x else σ k' i' := by
  by_cases h : k' = k ∧ i' = i
  · rw [if_pos h, h.1, h.2]; exact wu_same
  · rw [if_neg h]; exact wu_other (by omega)
theorem e_goes (a1 a2 a3 : Int32) (σ : wc_S) : wf_M_goes a1 a2 a3 σ = if a1 = 0 then some (0, wc_u σ 71 0 1) else if a2 = 0 then some (0, wc_u σ 71 0 2) else if a3 = 0 then some (0, wc_u σ 71 0 3) else some (1, wc_u σ 71 0 0) := by
  unfold wf_M_goes
  rw [e_goes26, e_goes26, e_goes26, e_goes26]
  rfl
def qB (v : Int32) : Int32 := if 0 ≤ v then v else -v
theorem qn_neg {v : Int32} : (-v).toInt = (-v.toInt).bmod 4294967296 := Int32.toInt_neg v
theorem qA_qB (a b : Int32) : qB (b - a) = qA (a - b) := by
  have e : b - a = -(a - b) := (Int32.neg_sub).symm
  rw [e]
  generalize a - b = v
  have e0 : (0 : Int32) - v = -v := Int32.zero_sub v
  have hl := Int32.le_toInt v
  have hu := Int32.toInt_lt v
  have hn := qn_neg (v := v)
  have z : (0 : Int32).toInt = 0 := rfl
  unfold qA qB
  rw [e0, Int32.neg_neg]
  by_cases h1 : 0 ≤ v
  · rw [if_pos h1]
    by_cases h2 : 0 ≤ -v
    · rw [if_pos h2]
      rw [wn_le, z] at h1 h2
      rw [wn_eq]
      have : (-v.toInt).bmod 4294967296 = -v.toInt := Int.bmod_eq_of_le (by omega) (by omega)
      omega
    · rw [if_neg h2]
  · rw [if_neg h1]
    by_cases h2 : 0 ≤ -v
    · rw [if_pos h2]
    · rw [if_neg h2]
      rw [wn_le, z] at h1 h2
      by_cases h3 : v.toInt = -2147483648
      · have : v = -2147483648 := wn_eq.2 h3
        subst this; decide
      · have : (-v.toInt).bmod 4294967296 = -v.toInt := Int.bmod_eq_of_le (by omega) (by omega)
        omega
theorem pq_M_costOf_17 (σ : wc_S) (x1 : Int32) (hx : x1 = 0 ∨ x1 = 1) (x3 : Int32) (h0 : 0 ≤ (σ 78 x1.toInt.toNat).toInt) (h8 : (σ 78 x1.toInt.toNat).toInt ≤ 8) : ∀ (n : Nat) (x4 : Int32), 8 * x1.toInt ≤ x4.toInt → x4.toInt ≤ 8 * x1.toInt + (σ 78 x1.toInt.toNat).toInt → pk (wf_M_costOf_17 n x1 x3 x4 σ) (fun r => r.1 = if σ 78 x1.toInt.toNat = 0 then 0 else qC (σ 79) (σ 80) (σ 81) x3 (8 * x1.toInt + (σ 78 x1.toInt.toNat).toInt - x4.toInt).toNat x4.toInt.toNat) := by
  have hx' : 0 ≤ x1.toInt ∧ x1.toInt ≤ 1 := by rcases hx with rfl | rfl <;> decide
  have h8x := wn_m8 hx'.1 hx'.2
  intro n
  induction n with
  | zero => intro x4 _ _; exact pk_n
  | succ n ih =>
    intro x4 g0 g1
    show pk (wf_M_costOf_17_b (wf_M_costOf_17 n) x1 x3 x4 σ) _
    unfold wf_M_costOf_17_b
    refine pk_e (fun v3 e3 => pk_g (fun _ => pk_e (fun v5 e5 => pk_e (fun v6 e6 => ?_))))
    rw [wn_tn] at e5
    have h6 : v6.toInt = 8 * x1.toInt + (σ 78 x1.toInt.toNat).toInt := by rw [e6, e3, e5, wn_add (by omega) (by omega), h8x]
    refine pk_i (fun hc => ?_) (fun hc => ?_)
    · rw [wn_le] at hc
      rw [show (8 * x1.toInt + (σ 78 x1.toInt.toNat).toInt - x4.toInt).toNat = 0 by omega]
      refine pk_g (fun _ => pk_e (fun v9 e9 => ?_))
      rw [wn_tn] at e9
      subst e9
      refine pk_i (fun hz => ?_) (fun hz => ?_)
      · rw [if_pos hz]; exact pk_s rfl
      · rw [if_neg hz]; exact pk_s rfl
    · rw [wn_le] at hc
      have hz : ¬ σ 78 x1.toInt.toNat = 0 := by
        intro hz
        rw [wn_eq, wn_0] at hz
        omega
      have hup : (x4 + 1).toInt = x4.toInt + 1 := wn_up (by omega) (by omega)
      have hm : (8 * x1.toInt + (σ 78 x1.toInt.toNat).toInt - x4.toInt).toNat = (8 * x1.toInt + (σ 78 x1.toInt.toNat).toInt - (x4 + 1).toInt).toNat + 1 := by omega
      have hr : x4.toInt.toNat + 1 = (x4 + 1).toInt.toNat := by omega
      have key := ih (x4 + 1) (by omega) (by omega)
      rw [if_neg hz] at key ⊢
      rw [hm]
      show pk _ (fun r : Int32 × wc_S => r.1 = if x3 < σ 79 x4.toInt.toNat then qC (σ 79) (σ 80) (σ 81) x3 (8 * x1.toInt + (σ 78 x1.toInt.toNat).toInt - (x4 + 1).toInt).toNat (x4.toInt.toNat + 1) else if σ 80 x4.toInt.toNat < x3 then qC (σ 79) (σ 80) (σ 81) x3 (8 * x1.toInt + (σ 78 x1.toInt.toNat).toInt - (x4 + 1).toInt).toNat (x4.toInt.toNat + 1) else σ 81 x4.toInt.toNat)
      rw [hr]
      refine pk_g (fun _ => pk_e (fun v12 e12 => ?_))
      rw [wn_tn] at e12
      subst e12
      refine pk_i (fun h6 => ?_) (fun h6 => ?_)
      · rw [if_pos h6]; exact key
      · rw [if_neg h6]
        refine pk_g (fun _ => pk_e (fun v10 e10 => ?_))
        rw [wn_tn] at e10
        subst e10
        refine pk_i (fun h10 => ?_) (fun h10 => ?_)
        · rw [if_pos h10]; exact key
        · rw [if_neg h10]
          refine pk_g (fun _ => pk_e (fun v13 e13 => pk_s ?_))
          rw [wn_tn] at e13
          exact e13
theorem pq_M_costOf (σ : wc_S) (x1 : Int32) (hx : x1 = 0 ∨ x1 = 1) (v : Int32) (h0 : 0 ≤ (σ 78 x1.toInt.toNat).toInt) (h8 : (σ 78 x1.toInt.toNat).toInt ≤ 8) : pk (wf_M_costOf x1 v σ) (fun r => r.1 = qK (σ 78 x1.toInt.toNat) (σ 79) (σ 80) (σ 81) (8 * x1.toInt).toNat (qB v) ∧ r.2 = σ) := by
  refine same_q (fun x e => wr_M_costOf x1 v σ x e) (fun _ _ h => h) ?_
  have hx' : 0 ≤ x1.toInt ∧ x1.toInt ≤ 1 := by rcases hx with rfl | rfl <;> decide
  have h8x := wn_m8 hx'.1 hx'.2
  have key : ∀ s, pk (wf_M_costOf_10 x1 s σ) (fun r => r.1 = qK (σ 78 x1.toInt.toNat) (σ 79) (σ 80) (σ 81) (8 * x1.toInt).toNat s) := by
    intro s
    unfold wf_M_costOf_10 qK
    refine pk_e (fun v2 e2 => ?_)
    have e2' : v2.toInt = 8 * x1.toInt := by rw [e2, h8x]
    have := pq_M_costOf_17 σ x1 hx s h0 h8 16 v2 (by omega) (by omega)
    rw [e2', show 8 * x1.toInt + (σ 78 x1.toInt.toNat).toInt - 8 * x1.toInt = (σ 78 x1.toInt.toNat).toInt by omega] at this
    exact this
  unfold wf_M_costOf qB
  refine pk_i (fun hc => ?_) (fun hc => pk_e (fun v20 e20 => ?_))
  · rw [if_pos hc]; exact key v
  · rw [if_neg hc, ← e20]; exact key v20
/-- class and model hold the same coils, rows, groups and rise -/
def qT (σ : wc_S) : Prop := (σ 1 10 = σ 71 1 ∧ σ 1 11 = σ 71 16 ∧ σ 26 3 = σ 71 12 ∧ σ 18 3 = σ 78 0 ∧ σ 22 3 = σ 78 1) ∧ (∀ k i, 2 ≤ k → k ≤ 7 → σ k i = σ (k + 70) i) ∧ (∀ k i, k < 3 → i < 8 → σ (19 + k) i = σ (79 + k) i ∧ σ (23 + k) i = σ (79 + k) (8 + i)) ∧ (∀ i, (0 ≤ (σ 2 i).toInt ∧ (σ 2 i).toInt ≤ 2000) ∧ (0 ≤ (σ 21 i).toInt ∧ (σ 21 i).toInt ≤ 10000) ∧ (0 ≤ (σ 25 i).toInt ∧ (σ 25 i).toInt ≤ 10000)) ∧ qP σ
def qD (k i : Nat) : Prop := (k = 1 ∧ (i = 10 ∨ i = 11)) ∨ (2 ≤ k ∧ k ≤ 7) ∨ (9 ≤ k ∧ k ≤ 26) ∨ (k = 71 ∧ (i = 1 ∨ i = 12 ∨ i = 16)) ∨ (72 ≤ k ∧ k ≤ 81)
theorem qP_keep {σ τ : wc_S} (h : ∀ k i, (k = 1 ∧ i = 10) ∨ k = 3 ∨ k = 4 ∨ (9 ≤ k ∧ k ≤ 25) → τ k i = σ k i) (hP : qP σ) : qP τ := by
  intro a b h8 ha hb
  have h1 := h 1 10 (Or.inl ⟨rfl, rfl⟩)
  rw [h1] at ha hb
  rw [h (9 + a) b (by omega), hP a b h8 ha hb]
  exact (qj_eq (fun k i hk => h k i (by omega)) a b).symm
theorem qT_keep {σ τ : wc_S} (h : ∀ k i, qD k i → τ k i = σ k i) (hT : qT σ) : qT τ := by
  obtain ⟨⟨h1, h2, h3, h4, h5⟩, hc, hr, hb, hP⟩ := hT
  refine ⟨⟨?_, ?_, ?_, ?_, ?_⟩, fun k i k2 k7 => ?_, fun k i k3 i8 => ?_, fun i => ?_, qP_keep (fun k i hk => h k i (by unfold qD; omega)) hP⟩
  · rw [h 1 10 (by unfold qD; omega), h 71 1 (by unfold qD; omega)]; exact h1
  · rw [h 1 11 (by unfold qD; omega), h 71 16 (by unfold qD; omega)]; exact h2
  · rw [h 26 3 (by unfold qD; omega), h 71 12 (by unfold qD; omega)]; exact h3
  · rw [h 18 3 (by unfold qD; omega), h 78 0 (by unfold qD; omega)]; exact h4
  · rw [h 22 3 (by unfold qD; omega), h 78 1 (by unfold qD; omega)]; exact h5
  · rw [h k i (by unfold qD; omega), h (k + 70) i (by unfold qD; omega)]; exact hc k i k2 k7
  · rw [h (19 + k) i (by unfold qD; omega), h (79 + k) i (by unfold qD; omega), h (23 + k) i (by unfold qD; omega), h (79 + k) (8 + i) (by unfold qD; omega)]; exact hr k i k3 i8
  · rw [h 2 i (by unfold qD; omega), h 21 i (by unfold qD; omega), h 25 i (by unfold qD; omega)]; exact hb i
def q78 (σ : wc_S) : Prop := ∀ i, 0 ≤ (σ 78 i).toInt ∧ (σ 78 i).toInt ≤ 8
theorem j78 {c : Nat} {σ : wc_S} (h : wJ c σ) : q78 σ := fun i => i_8 h (by omega)
theorem qK_tied {σ : wc_S} (hJ : q78 σ) (hT : qT σ) (x : Int32) : qK (σ 78 0) (σ 79) (σ 80) (σ 81) 0 x = qK (σ 18 3) (σ 19) (σ 20) (σ 21) 0 x ∧ qK (σ 78 1) (σ 79) (σ 80) (σ 81) 8 x = qK (σ 22 3) (σ 23) (σ 24) (σ 25) 0 x := by
  obtain ⟨⟨h1, h2, h3, h4, h5⟩, hc, hr, hb, hP⟩ := hT
  have b0 := hJ 0
  have b1 := hJ 1
  unfold qK
  rw [h4, h5]
  constructor
  · split
    · rfl
    · refine qC_eq _ _ _ (fun j hj => ?_)
      rw [Nat.zero_add]
      exact ⟨(hr 0 j (by omega) (by omega)).1.symm, (hr 1 j (by omega) (by omega)).1.symm, (hr 2 j (by omega) (by omega)).1.symm⟩
  · split
    · rfl
    · refine qC_eq _ _ _ (fun j hj => ?_)
      rw [Nat.zero_add]
      exact ⟨(hr 0 j (by omega) (by omega)).2.symm, (hr 1 j (by omega) (by omega)).2.symm, (hr 2 j (by omega) (by omega)).2.symm⟩
theorem qK_pos {n : Int32} {f t c : Nat → Int32} {b : Nat} {x : Int32} (hc : ∀ i, 0 ≤ (c i).toInt ∧ (c i).toInt ≤ 10000) : qK n f t c b x = -1 ∨ (0 ≤ (qK n f t c b x).toInt ∧ (qK n f t c b x).toInt ≤ 10000) := by
  unfold qK
  split
  · exact Or.inr (by decide)
  · exact qC_pos _ _ (fun j _ => hc _)
theorem qj_pos {σ : wc_S} (hT : qT σ) (a b : Nat) : qj σ a b = -1 ∨ (0 ≤ (qj σ a b).toInt ∧ (qj σ a b).toInt ≤ 20000) := by
  obtain ⟨-, -, -, hb, -⟩ := hT
  have p1 : qh σ a b = -1 ∨ _ := qK_pos (fun i => (hb i).2.1)
  have p2 : qt σ a b = -1 ∨ _ := qK_pos (fun i => (hb i).2.2)
  unfold qj qJ
  by_cases e1 : qh σ a b = -1
  · rw [if_pos e1]; exact Or.inl rfl
  · rw [if_neg e1]
    by_cases e2 : qt σ a b = -1
    · rw [if_pos e2]; exact Or.inl rfl
    · rw [if_neg e2]
      have q1 : 0 ≤ (qh σ a b).toInt ∧ (qh σ a b).toInt ≤ 10000 := p1.resolve_left e1
      have q2 : 0 ≤ (qt σ a b).toInt ∧ (qt σ a b).toInt ≤ 10000 := p2.resolve_left e2
      rw [wn_add (by omega) (by omega)]
      omega
theorem pq_M_jumpOf {σ : wc_S} (hJ : q78 σ) (hT : qT σ) (a1 a2 : Int32) : pk (wf_M_jumpOf a1 a2 σ) (fun r => r.1 = qj σ a1.toInt.toNat a2.toInt.toNat ∧ r.2 = σ) := by
  refine same_q (fun x e => wr_M_jumpOf a1 a2 σ x e) (fun _ _ h => h) ?_
  have b0 := hJ 0
  have b1 := hJ 1
  have hc := hT.2.1
  have hb := hT.2.2.2.1
  unfold wf_M_jumpOf
  refine pk_g (fun _ => pk_e (fun v2 e2 => pk_g (fun _ => pk_e (fun v4 e4 => pk_e (fun v5 e5 => ?_)))))
  refine pk_b2 (pq_M_costOf σ 0 (Or.inl rfl) v5 b0.1 b0.2) (fun r7 σ6 hq => ?_)
  obtain ⟨h8, h7⟩ := hq
  have h7 : σ6 = σ := h7
  have h8 : r7 = qh σ a1.toInt.toNat a2.toInt.toNat := by
    rw [wn_tn, ← hc 4 _ (by omega) (by omega)] at e2 e4
    refine h8.trans ?_
    rw [e5, e4, e2, qA_qB]
    exact (qK_tied hJ hT _).1
  subst h7
  refine pk_g (fun _ => pk_e (fun v9 e9 => pk_g (fun _ => pk_e (fun v11 e11 => pk_e (fun v12 e12 => ?_)))))
  refine pk_b2 (pq_M_costOf σ6 1 (Or.inr rfl) v12 b1.1 b1.2) (fun r14 σ13 hq => ?_)
  obtain ⟨h14, h13⟩ := hq
  have h14 : r14 = qt σ6 a1.toInt.toNat a2.toInt.toNat := by
    rw [wn_tn, ← hc 3 _ (by omega) (by omega)] at e9 e11
    refine h14.trans ?_
    rw [e12, e11, e9, qA_qB]
    exact (qK_tied hJ hT _).2
  have p1 : r7 = -1 ∨ (0 ≤ r7.toInt ∧ r7.toInt ≤ 10000) := by rw [h8]; exact qK_pos (fun i => (hb i).2.1)
  have p2 : r14 = -1 ∨ (0 ≤ r14.toInt ∧ r14.toInt ≤ 10000) := by rw [h14]; exact qK_pos (fun i => (hb i).2.2)
  unfold qj qJ
  rw [← h8, ← h14]
  refine pk_i (fun hc => ?_) (fun hc => ?_)
  · rw [wn_lt, wn_0] at hc
    rw [if_pos (show r7 = -1 from p1.resolve_right (by omega))]; exact pk_s rfl
  · rw [wn_lt, wn_0] at hc
    rw [if_neg (show ¬ r7 = -1 by intro e; rw [e, wn_m1] at hc; omega)]
    refine pk_i (fun hc2 => ?_) (fun hc2 => ?_)
    · rw [wn_le, wn_0] at hc2
      rw [if_neg (show ¬ r14 = -1 by intro e; rw [e, wn_m1] at hc2; omega)]
      exact pk_e (fun v19 e19 => pk_s e19)
    · rw [wn_le, wn_0] at hc2
      rw [if_pos (show r14 = -1 from p2.resolve_right (by omega))]; exact pk_s rfl
