/-! jump and bound: class and model -/
def wR_jump (a b n : Int32) : Int32 := if a < 0 ∨ ¬ a < n then 1 else if b < 0 ∨ ¬ b < n then 1 else if a = b then 1 else 0
theorem qP_at {σ : wc_S} (hn : (σ 1 10).toInt ≤ 9) (hT : qT σ) {a b : Int32} (ha : ¬ (a < 0 ∨ ¬ a < σ 1 10)) (hb : ¬ (b < 0 ∨ ¬ b < σ 1 10)) : σ (9 + a.toNatClampNeg) b.toNatClampNeg = qj σ a.toInt.toNat b.toInt.toNat := by
  rw [not_or, Decidable.not_not, wn_lt, wn_lt, wn_0] at ha hb
  rw [wn_tn, wn_tn]
  exact hT.2.2.2.2 _ _ (by omega) (by omega) (by omega)
theorem pq_Kjump (a b : Int32) {σ : wc_S} (hJ : wJ 0 σ) (hT : qT σ) : pk (wf_K_jump a b σ) (fun r => r.1 = wR_jump a b (σ 1 10) ∧ (r.1 = 0 → r.2 88 0 = qj σ a.toInt.toNat b.toInt.toNat)) := by
  unfold wf_K_jump wf_W_jump wR_jump
  rw [e_noCoil, b2s]
  by_cases h : a < 0 ∨ ¬ a < σ 1 10
  · rw [if_pos h, if_pos h, if_neg (by decide)]
    exact pk_s ⟨rfl, fun h => absurd (show (1 : Int32) = 0 from h) (by decide)⟩
  · rw [if_neg h, if_neg h, if_pos rfl, e_noCoil, b2s]
    by_cases h2 : b < 0 ∨ ¬ b < σ 1 10
    · rw [if_pos h2, if_pos h2, if_neg (by decide)]
      exact pk_s ⟨rfl, fun h => absurd (show (1 : Int32) = 0 from h) (by decide)⟩
    · rw [if_neg h2, if_neg h2, if_pos rfl]
      by_cases h3 : a = b
      · rw [if_pos h3, if_pos h3]
        exact pk_s ⟨rfl, fun h => absurd (show (1 : Int32) = 0 from h) (by decide)⟩
      · rw [if_neg h3, if_neg h3]
        refine pk_cti (Q := fun q => q = .inr (qj σ a.toInt.toNat b.toInt.toNat, σ)) ?_ (fun k u hq => by cases hq) (fun r u hq => ?_)
        · exact pk_g (fun _ => pk_g (fun _ => pk_e (fun v10 e10 => pk_s (by rw [e10, qP_at (i_n hJ).2.1 hT h h2]))))
        · cases hq
          exact pk_g (fun _ => pk_s ⟨rfl, fun _ => show wc_u σ 88 0 _ 88 0 = _ from wu_same⟩)
theorem pq_Mjump (a b : Int32) {σ : wc_S} (hJ : wJ 0 σ) (hT : qT σ) : pk (wf_M_jump a b σ) (fun r => r.2 71 0 = wR_jump a b (σ 71 1) ∧ (r.2 71 0 = 0 → r.1 = qj σ a.toInt.toNat b.toInt.toNat)) := by
  have no : pk (wf_M_jump_26 a b σ) (fun r => r.2 71 0 = 1 ∧ (r.2 71 0 = 0 → r.1 = qj σ a.toInt.toNat b.toInt.toNat)) := by
    unfold wf_M_jump_26 wf_M_jump_27
    rw [e_goes, if_pos rfl, b2s, if_pos rfl]
    exact pk_s ⟨rfl, fun h => absurd (show (1 : Int32) = 0 from h) (by decide)⟩
  unfold wf_M_jump wR_jump
  rw [e_isCoil hJ, b2s]
  by_cases h : a < 0 ∨ ¬ a < σ 71 1
  · rw [if_pos h, if_pos h, if_pos rfl]; exact no
  · rw [if_neg h, if_neg h, if_neg (by decide), e_isCoil hJ, b2s]
    by_cases h2 : b < 0 ∨ ¬ b < σ 71 1
    · rw [if_pos h2, if_pos h2, if_pos rfl]; exact no
    · rw [if_neg h2, if_neg h2, if_neg (by decide)]
      by_cases h3 : a = b
      · rw [if_pos h3, if_pos h3]; exact no
      · rw [if_neg h3, if_neg h3]
        unfold wf_M_jump_27
        rw [e_goes, if_neg (by decide), if_neg (by decide), if_neg (by decide), b2s, if_neg (by decide)]
        have hT' : qT (wc_u σ 71 0 0) := qT_keep (fun k i hd => wu_other (by unfold qD at hd; omega)) hT
        have hJ' : wJ 0 (wc_u σ 71 0 0) := u_71 hJ (by decide) (by decide)
        refine pk_b2 (pq_M_jumpOf (j78 hJ') hT' a b) (fun r u hq => ?_)
        obtain ⟨q1, q2⟩ := hq
        have q2 : u = wc_u σ 71 0 0 := q2
        refine pk_s ⟨by show u 71 0 = 0; rw [q2]; exact wu_same, fun _ => ?_⟩
        exact q1.trans (qj_eq (fun k i hk => wu_other (by omega)) _ _)
theorem tQ_jump {a b : Int32} {σ : wc_S} (hσ : wQ σ) : wk (wf_K_jump a b σ) (fun r => wJ 0 r.2 ∧ wk (wf_M_jump a b r.2) (fun s => wQ s.2 ∧ s.2 71 0 = r.1 ∧ (r.1 = 0 → s.2 88 0 = s.1))) := by
  obtain ⟨x, e, h, hx⟩ := wk_pk (tI_K_jump (a1 := a) (a2 := b) hσ) (pq_Kjump a b hσ.1 hσ.2)
  have hw := wr_K_jump a b σ x e
  refine ⟨x, e, h.1, ?_⟩
  obtain ⟨y, e2, h2, hy⟩ := wk_pk (tI_M_jump (a1 := a) (a2 := b) h) (pq_Mjump a b h.1 h.2)
  have hw2 := wr_M_jump a b x.2 y e2
  have hr : y.2 71 0 = x.1 := by rw [hy.1, hx.1, ← h.2.1.1, hw 1 10 (fun q => by unfold wS_K_jump at q; omega)]
  refine ⟨y, e2, h2, hr, fun h0 => ?_⟩
  rw [hw2 88 0 (fun q => by unfold wS_M_jump at q; omega), hx.2 h0, hy.2 (hr.trans h0)]
  exact (qj_eq (fun k i hk => hw k i (fun q => by unfold wS_K_jump at q; omega)) _ _).symm
/-- the least of m jumps from a on, of those that there are; -1 where there is none -/
def qL (J : Nat → Int32) (s : Nat) : Nat → Nat → Int32 → Int32
  | 0, _, l => l
  | m + 1, a, l => if a = s then qL J s m (a + 1) l else if J a = -1 then qL J s m (a + 1) l else if l = -1 then qL J s m (a + 1) (J a) else if l ≤ J a then qL J s m (a + 1) l else qL J s m (a + 1) (J a)
def qZ (l : Int32) : Int32 := if l = -1 then 0 else l
theorem pq_least {σ : wc_S} (hJ : wJ 0 σ) (hT : qT σ) (x1 : Int32) (h1 : 0 ≤ x1.toInt) (h2 : x1.toInt < (σ 1 10).toInt) : ∀ (n : Nat) (x2 x3 : Int32), 0 ≤ x3.toInt → x3.toInt ≤ (σ 1 10).toInt → pk (wf_P_leastJumpTo_4 n x1 x2 x3 σ) (fun r => r.1 = qZ (qL (fun a => qj σ a x1.toInt.toNat) x1.toInt.toNat ((σ 1 10).toInt - x3.toInt).toNat x3.toInt.toNat x2)) := by
  have hn := i_n hJ
  intro n
  induction n with
  | zero => intro x2 x3 _ _; exact pk_n
  | succ n ih =>
    intro x2 x3 g0 g1
    show pk (wf_P_leastJumpTo_4_b (wf_P_leastJumpTo_4 n) x1 x2 x3 σ) _
    unfold wf_P_leastJumpTo_4_b
    refine pk_e (fun v1 e1 => pk_i (fun hc => ?_) (fun hc => ?_))
    · rw [e1, wn_le] at hc
      rw [show ((σ 1 10).toInt - x3.toInt).toNat = 0 by omega]
      show pk _ (fun r : Int32 × wc_S => r.1 = if x2 = -1 then 0 else x2)
      by_cases hz : x2 = -1
      · rw [if_pos hz, if_pos hz]; exact pk_s rfl
      · rw [if_neg hz, if_neg hz]; exact pk_s rfl
    · rw [e1, wn_le] at hc
      have hup : (x3 + 1).toInt = x3.toInt + 1 := wn_up g0 (by omega)
      have key := fun x2 => ih x2 (x3 + 1) (by omega) (by omega)
      have hm : ((σ 1 10).toInt - x3.toInt).toNat = ((σ 1 10).toInt - (x3 + 1).toInt).toNat + 1 := by omega
      have hr : x3.toInt.toNat + 1 = (x3 + 1).toInt.toNat := by omega
      rw [hm]
      unfold qL
      rw [hr]
      refine pk_g (fun _ => pk_g (fun _ => pk_e (fun v6 e6 => ?_)))
      have e6' : v6 = qj σ x3.toInt.toNat x1.toInt.toNat := by
        rw [e6]
        refine qP_at (i_n hJ).2.1 hT ?_ ?_
        · rw [not_or, Decidable.not_not, wn_lt, wn_lt, wn_0]; omega
        · rw [not_or, Decidable.not_not, wn_lt, wn_lt, wn_0]; omega
      have ex : (x3 = x1) ↔ (x3.toInt.toNat = x1.toInt.toNat) := by rw [wn_eq]; omega
      refine pk_i (fun h3 => ?_) (fun h3 => ?_)
      · rw [if_pos (ex.1 h3)]; exact key x2
      · rw [if_neg (fun q => h3 (ex.2 q)), ← e6']
        refine pk_i (fun h4 => ?_) (fun h4 => ?_)
        · rw [if_pos h4]; exact key x2
        · rw [if_neg h4]
          refine pk_i (fun h5 => ?_) (fun h5 => ?_)
          · rw [if_pos h5]; exact key v6
          · rw [if_neg h5]
            refine pk_i (fun h6 => ?_) (fun h6 => ?_)
            · rw [if_pos h6]; exact key x2
            · rw [if_neg h6]; exact key v6
/-- the sum of m bounds from c on, less the greatest -/
def qS (J : Nat → Nat → Int32) (N : Nat) : Nat → Nat → Int32 → Int32 → Int32
  | 0, _, s, g => s - g
  | m + 1, c, s, g => qS J N m (c + 1) (s + qZ (qL (fun a => J a c) c N 0 (-1))) (if g < qZ (qL (fun a => J a c) c N 0 (-1)) then qZ (qL (fun a => J a c) c N 0 (-1)) else g)
theorem pq_W_bound_6 {σ : wc_S} (hJ : wJ 0 σ) (hT : qT σ) : ∀ (n : Nat) (x1 x2 x3 : Int32), 0 ≤ x3.toInt → x3.toInt ≤ (σ 1 10).toInt → pk (wf_W_bound_6 n x1 x2 x3 σ) (fun r => r.1 = qS (qj σ) (σ 1 10).toInt.toNat ((σ 1 10).toInt - x3.toInt).toNat x3.toInt.toNat x1 x2) := by
  have hn := i_n hJ
  intro n
  induction n with
  | zero => intro x1 x2 x3 _ _; exact pk_n
  | succ n ih =>
    intro x1 x2 x3 g0 g1
    show pk (wf_W_bound_6_b (wf_W_bound_6 n) x1 x2 x3 σ) _
    unfold wf_W_bound_6_b
    refine pk_e (fun v1 e1 => pk_i (fun hc => ?_) (fun hc => ?_))
    · rw [e1, wn_le] at hc
      rw [show ((σ 1 10).toInt - x3.toInt).toNat = 0 by omega]
      exact pk_e (fun v3 e3 => pk_s e3)
    · rw [e1, wn_le] at hc
      have hup : (x3 + 1).toInt = x3.toInt + 1 := wn_up g0 (by omega)
      have hm : ((σ 1 10).toInt - x3.toInt).toNat = ((σ 1 10).toInt - (x3 + 1).toInt).toNat + 1 := by omega
      have hr : x3.toInt.toNat + 1 = (x3 + 1).toInt.toNat := by omega
      rw [hm]
      unfold qS
      rw [hr]
      have hl := pq_least hJ hT x3 g0 (by omega) 16 (-1) 0 (by rw [wn_0]; omega) (by rw [wn_0]; omega)
      rw [wn_0] at hl
      have hl2 : pk (wf_P_leastJumpTo x3 σ) _ := same_q (fun x e => wr_P_leastJumpTo x3 σ x e) (fun _ _ h => h) hl
      refine pk_b2 hl2 (fun r5 σ4 hq => ?_)
      obtain ⟨q1, q2⟩ := hq
      have q2 : σ4 = σ := q2
      have q1 : r5 = qZ (qL (fun a => qj σ a x3.toInt.toNat) x3.toInt.toNat (σ 1 10).toInt.toNat 0 (-1)) := by simpa using q1
      subst q2
      refine pk_e (fun v6 e6 => pk_e (fun v7 e7 => pk_e (fun v8 e8 => ?_)))
      have key := ih v6 v7 (x3 + 1) (by omega) (by omega)
      rw [e8, ← q1, ← e6, ← e7]
      exact key
theorem pq_Wbound {σ : wc_S} (hJ : wJ 0 σ) (hT : qT σ) : pk (wf_W_bound σ) (fun r => r.1 = qS (qj σ) (σ 1 10).toInt.toNat (σ 1 10).toInt.toNat 0 0 0) := by
  have hn := i_n hJ
  have := pq_W_bound_6 hJ hT 16 0 0 0 (by rw [wn_0]; omega) (by rw [wn_0]; omega)
  rw [wn_0] at this
  unfold wf_W_bound
  simpa using this
theorem pq_Mb25 {σ : wc_S} (hJ : wJ 0 σ) (hT : qT σ) {P : Int32 × wc_S → Prop} {k11 : Int32 → Int32 → Int32 → wc_S → Option (Int32 × wc_S)} (x1 x2 x3 : Int32) (h1 : 0 ≤ x3.toInt) (h2 : x3.toInt < (σ 71 1).toInt) (l : Int32) (hk : ∀ v, v.toInt = x3.toInt + 1 → pk (k11 (x1 + l) (if x2 < l then l else x2) v σ) P) : ∀ (n : Nat) (x4 x5 : Int32), 0 ≤ x5.toInt → x5.toInt ≤ (σ 71 1).toInt → (x4 = -1 ∨ 0 ≤ x4.toInt) → qZ (qL (fun a => qj σ a x3.toInt.toNat) x3.toInt.toNat ((σ 71 1).toInt - x5.toInt).toNat x5.toInt.toNat x4) = l → pk (wf_M_bound_25 k11 n x1 x2 x3 x4 x5 σ) P := by
  have hn := i_m hJ
  intro n
  induction n with
  | zero => intro x4 x5 _ _ _ _; exact pk_n
  | succ n ih =>
    intro x4 x5 g0 g1 gx hl
    show pk (wf_M_bound_25_b k11 (wf_M_bound_25 k11 n) x1 x2 x3 x4 x5 σ) _
    unfold wf_M_bound_25_b
    refine pk_e (fun v1 e1 => pk_i (fun hc => ?_) (fun hc => ?_))
    · rw [e1, wn_le] at hc
      rw [show ((σ 71 1).toInt - x5.toInt).toNat = 0 by omega] at hl
      have fin : pk (wf_M_bound_87 k11 x1 x2 x3 l σ) P := by
        unfold wf_M_bound_87
        refine pk_e (fun v8 e8 => ?_)
        unfold wf_M_bound_101
        have hh := hk (x3 + 1) (wn_up h1 (by omega))
        refine pk_i (fun hc => pk_e (fun v10 e10 => ?_)) (fun hc => pk_e (fun v10 e10 => ?_))
        · rw [if_neg (by rw [wn_lt]; rw [wn_le] at hc; omega)] at hh
          rw [e8, e10]; exact hh
        · rw [if_pos (by rw [wn_lt]; rw [wn_le] at hc; omega)] at hh
          rw [e8, e10]; exact hh
      have hl : (if x4 = -1 then 0 else x4) = l := hl
      refine pk_i (fun h4 => ?_) (fun h4 => ?_)
      · rw [wn_le, wn_0] at h4
        rw [if_neg (by intro q; rw [q, wn_m1] at h4; omega)] at hl
        rw [hl]; exact fin
      · rw [wn_le, wn_0] at h4
        rw [if_pos (gx.resolve_right h4)] at hl
        rw [hl]; exact fin
    · rw [e1, wn_le] at hc
      have hup : (x5 + 1).toInt = x5.toInt + 1 := wn_up g0 (by omega)
      have hm : ((σ 71 1).toInt - x5.toInt).toNat = ((σ 71 1).toInt - (x5 + 1).toInt).toNat + 1 := by omega
      have hr : x5.toInt.toNat + 1 = (x5 + 1).toInt.toNat := by omega
      have key := fun x4 => ih x4 (x5 + 1) (by omega) (by omega)
      rw [hm] at hl
      unfold qL at hl
      rw [hr] at hl
      have ex : (x5 = x3) ↔ (x5.toInt.toNat = x3.toInt.toNat) := by rw [wn_eq]; omega
      refine pk_i (fun h3 => ?_) (fun h3 => ?_)
      · rw [if_pos (ex.1 h3)] at hl; exact key x4 gx hl
      · rw [if_neg (fun q => h3 (ex.2 q))] at hl
        refine pk_b2 (pq_M_jumpOf (j78 hJ) hT x5 x3) (fun r13 σ12 hq => ?_)
        obtain ⟨q1, q2⟩ := hq
        have q2 : σ12 = σ := q2
        have q1 : r13 = qj σ x5.toInt.toNat x3.toInt.toNat := q1
        subst q2
        rw [← q1] at hl
        have pj : r13 = -1 ∨ (0 ≤ r13.toInt ∧ r13.toInt ≤ 20000) := by rw [q1]; exact qj_pos hT _ _
        refine pk_i (fun h4 => ?_) (fun h4 => ?_)
        · rw [wn_lt, wn_0] at h4
          rw [if_pos (pj.resolve_right (by omega))] at hl; exact key x4 gx hl
        · rw [wn_lt, wn_0] at h4
          have nj : ¬ r13 = -1 := by intro q; rw [q, wn_m1] at h4; omega
          have p13 : r13 = -1 ∨ 0 ≤ r13.toInt := Or.inr (pj.resolve_left nj).1
          rw [if_neg nj] at hl
          refine pk_i (fun h5 => ?_) (fun h5 => ?_)
          · rw [wn_lt, wn_0] at h5
            rw [if_pos (gx.resolve_right (by omega))] at hl; exact key r13 p13 hl
          · rw [wn_lt, wn_0] at h5
            rw [if_neg (by intro q; rw [q, wn_m1] at h5; omega)] at hl
            refine pk_i (fun h6 => ?_) (fun h6 => ?_)
            · rw [if_pos h6] at hl; exact key x4 gx hl
            · rw [if_neg h6] at hl; exact key r13 p13 hl
theorem pq_Mb11 {σ : wc_S} (hJ : wJ 0 σ) (hT : qT σ) : ∀ (n : Nat) (x1 x2 x3 : Int32), 0 ≤ x3.toInt → x3.toInt ≤ (σ 71 1).toInt → pk (wf_M_bound_11 n x1 x2 x3 σ) (fun r => r.1 = qS (qj σ) (σ 71 1).toInt.toNat ((σ 71 1).toInt - x3.toInt).toNat x3.toInt.toNat x1 x2) := by
  have hn := i_m hJ
  intro n
  induction n with
  | zero => intro x1 x2 x3 _ _; exact pk_n
  | succ n ih =>
    intro x1 x2 x3 g0 g1
    show pk (wf_M_bound_11_b (wf_M_bound_11 n) x1 x2 x3 σ) _
    unfold wf_M_bound_11_b
    refine pk_e (fun v1 e1 => pk_i (fun hc => ?_) (fun hc => ?_))
    · rw [e1, wn_le] at hc
      rw [show ((σ 71 1).toInt - x3.toInt).toNat = 0 by omega]
      exact pk_e (fun v3 e3 => pk_s e3)
    · rw [e1, wn_le] at hc
      have hup : (x3 + 1).toInt = x3.toInt + 1 := wn_up g0 (by omega)
      have hm : ((σ 71 1).toInt - x3.toInt).toNat = ((σ 71 1).toInt - (x3 + 1).toInt).toNat + 1 := by omega
      have hr : x3.toInt.toNat + 1 = (x3 + 1).toInt.toNat := by omega
      rw [hm]
      unfold qS
      rw [hr]
      refine pq_Mb25 hJ hT x1 x2 x3 g0 (by omega) (qZ (qL (fun a => qj σ a x3.toInt.toNat) x3.toInt.toNat (σ 71 1).toInt.toNat 0 (-1))) (fun v hv => ?_) 16 (-1) 0 (by rw [wn_0]; omega) (by rw [wn_0]; omega) (Or.inl rfl) (by rw [wn_0]; simp)
      have ev : v = x3 + 1 := wn_eq.2 (by omega)
      rw [ev]
      exact ih _ _ (x3 + 1) (by omega) (by omega)
theorem pq_Mbound {σ : wc_S} (hJ : wJ 0 σ) (hT : qT σ) : pk (wf_M_bound σ) (fun r => r.1 = qS (qj σ) (σ 71 1).toInt.toNat (σ 71 1).toInt.toNat 0 0 0) := by
  unfold wf_M_bound
  refine pk_e (fun σ1 e1 => ?_)
  have hn := i_m hJ
  have hT' : qT σ1 := by rw [e1]; exact qT_keep (fun k i hd => wu_other (by unfold qD at hd; omega)) hT
  have hJ' : wJ 0 σ1 := by rw [e1]; exact u_71 hJ (by decide) (by decide)
  have e71 : σ1 71 1 = σ 71 1 := by rw [e1]; exact wu_other (by decide)
  have := pq_Mb11 hJ' hT' 16 0 0 0 (by rw [wn_0]; omega) (by rw [wn_0, e71]; omega)
  have ej : qj σ1 = qj σ := funext fun a => funext fun b => qj_eq (fun k i hk => by rw [e1]; exact wu_other (by omega)) a b
  rw [wn_0, e71, ej] at this
  simpa using this
theorem tQ_bound {σ : wc_S} (hσ : wQ σ) : wk (wf_W_bound σ) (fun r => wJ 0 r.2 ∧ wk (wf_M_bound r.2) (fun s => wQ s.2 ∧ s.1 = r.1)) := by
  obtain ⟨x, e, h, hx⟩ := wk_pk (tI_W_bound hσ) (pq_Wbound hσ.1 hσ.2)
  have hw : x.2 = σ := wr_same (wr_W_bound σ x e) (fun _ _ h => h)
  refine ⟨x, e, h.1, ?_⟩
  obtain ⟨y, e2, h2, hy⟩ := wk_pk (tI_M_bound h) (pq_Mbound h.1 h.2)
  refine ⟨y, e2, h2, ?_⟩
  rw [hy, hx, hw, ← hσ.2.1.1]
