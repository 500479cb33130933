/-! jump and bound: class and model -/
def wR_jump (a b n : Int32) : Int32 := if a < 0 ∨ ¬ a < n then 1 else if b < 0 ∨ ¬ b < n then 1 else if a = b then 1 else 0
theorem qP_at {σ : wc_S} (hn : (σ 1 10).toInt ≤ 9) (hT : qT σ) {a b : Int32} (ha : ¬ (a < 0 ∨ ¬ a < σ 1 10)) (hb : ¬ (b < 0 ∨ ¬ b < σ 1 10)) : σ (9 + a.toNatClampNeg) b.toNatClampNeg = qj σ a.toInt.toNat b.toInt.toNat := by
  rw [not_or, Decidable.not_not, wn_lt, wn_lt, wn_0] at ha hb
  rw [wn_tn, wn_tn]
  exact hT.2.2.2.2 _ _ (by omega) (by omega) (by omega)
theorem pq_Kjump (a b : Int32) {σ : wc_S} (hJ : wJ 0 σ) (hT : qT σ) : pk (wf_K_jump a b σ) (fun r => r.1 = wR_jump a b (σ 1 10) ∧ (r.1 = 0 → r.2 88 0 = qj σ a.toInt.toNat b.toInt.toNat)) := by
  unfold wf_K_jump wf_W_jump wR_jump
  rw [e_noCoil, b2s]
  by_cases h : a < 0 ∨ ¬ a < σ 1 10
  · rw [if_pos h, if_pos h, if_neg (by decide)]
    exact pk_s ⟨rfl, fun h => absurd (show (1 : Int32) = 0 from h) (by decide)⟩
  · rw [if_neg h, if_neg h, if_pos rfl, e_noCoil, b2s]
    by_cases h2 : b < 0 ∨ ¬ b < σ 1 10
    · rw [if_pos h2, if_pos h2, if_neg (by decide)]
      exact pk_s ⟨rfl, fun h => absurd (show (1 : Int32) = 0 from h) (by decide)⟩
    · rw [if_neg h2, if_neg h2, if_pos rfl]
      by_cases h3 : a = b
      · rw [if_pos h3, if_pos h3]
        exact pk_s ⟨rfl, fun h => absurd (show (1 : Int32) = 0 from h) (by decide)⟩
      · rw [if_neg h3, if_neg h3]
        refine pk_cti (Q := fun q => q = .inr (qj σ a.toInt.toNat b.toInt.toNat, σ)) ?_ (fun k u hq => by cases hq) (fun r u hq => ?_)
        · exact pk_g (fun _ => pk_g (fun _ => pk_e (fun v10 e10 => pk_s (by rw [e10, qP_at (i_n hJ).2.1 hT h h2]))))
        · cases hq
          exact pk_g (fun _ => pk_s ⟨rfl, fun _ => show wc_u σ 88 0 _ 88 0 = _ from wu_same⟩)
theorem pq_Mjump (a b : Int32) {σ : wc_S} (hJ : wJ 0 σ) (hT : qT σ) : pk (wf_M_jump a b σ) (fun r => r.2 71 0 = wR_jump a b (σ 71 1) ∧ (r.2 71 0 = 0 → r.1 = qj σ a.toInt.toNat b.toInt.toNat)) := by
  have no : pk (wf_M_jump_26 a b σ) (fun r => r.2 71 0 = 1 ∧ (r.2 71 0 = 0 → r.1 = qj σ a.toInt.toNat b.toInt.toNat)) := by
    unfold wf_M_jump_26 wf_M_jump_27
    rw [e_goes, if_pos rfl, b2s, if_pos rfl]
    exact pk_s ⟨rfl, fun h => absurd (show (1 : Int32) = 0 from h) (by decide)⟩
  unfold wf_M_jump wR_jump
  rw [e_isCoil hJ, b2s]
  by_cases h : a < 0 ∨ ¬ a < σ 71 1
  · rw [if_pos h, if_pos h, if_pos rfl]; exact no
  · rw [if_neg h, if_neg h, if_neg (by decide), e_isCoil hJ, b2s]
    by_cases h2 : b < 0 ∨ ¬ b < σ 71 1
    · rw [if_pos h2, if_pos h2, if_pos rfl]; exact no
    · rw [if_neg h2, if_neg h2, if_neg (by decide)]
      by_cases h3 : a = b
      · rw [if_pos h3, if_pos h3]; exact no
      · rw [if_neg h3, if_neg h3]
        unfold wf_M_jump_27
        rw [e_goes, if_neg (by decide), if_neg (by decide), if_neg (by decide), b2s, if_neg (by decide)]
        have hT' : qT (wc_u σ 71 0 0) := qT_keep (fun k i hd => wu_other (by unfold qD at hd; omega)) hT
        have hJ' : wJ 0 (wc_u σ 71 0 0) := u_71 hJ (by decide) (by decide)
        refine pk_b2 (pq_M_jumpOf (j78 hJ') hT' a b) (fun r u hq => ?_)
        obtain ⟨q1, q2⟩ := hq
        have q2 : u = wc_u σ 71 0 0 := q2
        refine pk_s ⟨by show u 71 0 = 0; rw [q2]; exact wu_same, fun _ => ?_⟩
        exact q1.trans (qj_eq (fun k i hk => wu_other (by omega)) _ _)
theorem tQ_jump {a b : Int32} {σ : wc_S} (hσ : wQ σ) : wk (wf_K_jump a b σ) (fun r => wJ 0 r.2 ∧ wk (wf_M_jump a b r.2) (fun s => wQ s.2 ∧ s.2 71 0 = r.1 ∧ (r.1 = 0 → s.2 88 0 = s.1))) := by
  obtain ⟨x, e, h, hx⟩ := wk_pk (tI_K_jump (a1 := a) (a2 := b) hσ) (pq_Kjump a b hσ.1 hσ.2)
  have hw := wr_K_jump a b σ x e
  refine ⟨x, e, h.1, ?_⟩
  obtain ⟨y, e2, h2, hy⟩ := wk_pk (tI_M_jump (a1 := a) (a2 := b) h) (pq_Mjump a b h.1 h.2)
  have hw2 := wr_M_jump a b x.2 y e2
  have hr : y.2 71 0 = x.1 := by rw [hy.1, hx.1, ← h.2.1.1, hw 1 10 (fun q => by unfold wS_K_jump at q; omega)]
  refine ⟨y, e2, h2, hr, fun h0 => ?_⟩
  rw [hw2 88 0 (fun q => by unfold wS_M_jump at q; omega), hx.2 h0, hy.2 (hr.trans h0)]
  exact (qj_eq (fun k i hk => hw k i (fun q => by unfold wS_K_jump at q; omega)) _ _).symm
/-- the least of m jumps from a on, of those that there are; -1 where there is none -/
def qL (J : Nat → Int32) (s : Nat) : Nat → Nat → Int32 → Int32
  | 0, _, l => l
  | m + 1, a, l => if a = s then qL J s m (a + 1) l else if J a = -1 then qL J s m (a + 1) l else if l = -1 then qL J s m (a + 1) (J a) else if l ≤ J a then qL J s m (a + 1) l else qL J s m (a + 1) (J a)
def qZ (l : Int32) : Int32 := if l = -1 then 0 else l
theorem pq_least {σ : wc_S} (hJ : wJ 0 σ) (hT : qT σ) (x1 : Int32) (h1 : 0 ≤ x1.toInt) (h2 : x1.toInt < (σ 1 10).toInt) : ∀ (n : Nat) (x2 x3 : Int32), 0 ≤ x3.toInt → x3.toInt ≤ (σ 1 10).toInt → pk (wf_P_leastJumpTo_4 n x1 x2 x3 σ) (fun r => r.1 = qZ (qL (fun a => qj σ a x1.toInt.toNat) x1.toInt.toNat ((σ 1 10).toInt - x3.toInt).toNat x3.toInt.toNat x2)) := by
  have hn := i_n hJ
  intro n
  induction n with
  | zero => intro x2 x3 _ _; exact pk_n
  | succ n ih =>
    intro x2 x3 g0 g1
    show pk (wf_P_leastJumpTo_4_b (wf_P_leastJumpTo_4 n) x1 x2 x3 σ) _
    unfold wf_P_leastJumpTo_4_b
    refine pk_e (fun v1 e1 => pk_i (fun hc => ?_) (fun hc => ?_))
    · rw [e1, wn_le] at hc
      rw [show ((σ 1 10).toInt - x3.toInt).toNat = 0 by omega]
      show pk _ (fun r : Int32 × wc_S => r.1 = if x2 = -1 then 0 else x2)
      by_cases hz : x2 = -1
      · rw [if_pos hz, if_pos hz]; exact pk_s rfl
      · rw [if_neg hz, if_neg hz]; exact pk_s rfl
    · rw [e1, wn_le] at hc
      have hup : (x3 + 1).toInt = x3.toInt + 1 := wn_up g0 (by omega)
      have key := fun x2 => ih x2 (x3 + 1) (by omega) (by omega)
      have hm : ((σ 1 10).toInt - x3.toInt).toNat = ((σ 1 10).toInt - (x3 + 1).toInt).toNat + 1 := by omega
      have hr : x3.toInt.toNat + 1 = (x3 + 1).toInt.toNat := by omega
      rw [hm]
      unfold qL
      rw [hr]
      refine pk_g (fun _ => pk_g (fun _ => pk_e (fun v6 e6 => ?_)))
      have e6' : v6 = qj σ x3.toInt.toNat x1.toInt.toNat := by
        rw [e6]
        refine qP_at (i_n hJ).2.1 hT ?_ ?_
        · rw [not_or, Decidable.not_not, wn_lt, wn_lt, wn_0]; omega
        · rw [not_or, Decidable.not_not, wn_lt, wn_lt, wn_0]; omega
      have ex : (x3 = x1) ↔ (x3.toInt.toNat = x1.toInt.toNat) := by rw [wn_eq]; omega
      refine pk_i (fun h3 => ?_) (fun h3 => ?_)
      · rw [if_pos (ex.1 h3)]; exact key x2
      · rw [if_neg (fun q => h3 (ex.2 q)), ← e6']
        refine pk_i (fun h4 => ?_) (fun h4 => ?_)
        · rw [if_pos h4]; exact key x2
        · rw [if_neg h4]
          refine pk_i (fun h5 => ?_) (fun h5 => ?_)
          · rw [if_pos h5]; exact key v6
          · rw [if_neg h5]
            refine pk_i (fun h6 => ?_) (fun h6 => ?_)
            · rw [if_pos h6]; exact key x2
            · rw [if_neg h6]; exact key v6
/-- the sum of m bounds from c on, less the greatest -/
def qS (J : Nat → Nat → Int32) (N : Nat) : Nat → Nat → Int32 → Int32 → Int32
  | 0, _, s, g => s - g
  | m + 1, c, s, g => qS J N m (c + 1) (s + qZ (qL (fun a => J a c) c N 0 (-1))) (if g < qZ (qL (fun a => J a c) c N 0 (-1)) then qZ (qL (fun a => J a c) c N 0 (-1)) else g)
theorem pq_W_bound_6 {σ : wc_S} (hJ : wJ 0 σ) (hT : qT σ) : ∀ (n : Nat) (x1 x2 x3 : Int32), 0 ≤ x3.toInt → x3.toInt ≤ (σ 1 10).toInt → pk (wf_W_bound_6 n x1 x2 x3 σ) (fun r => r.1 = qS (qj σ) (σ 1 10).toInt.toNat ((σ 1 10).toInt - x3.toInt).toNat x3.toInt.toNat x1 x2) := by
  have hn := i_n hJ
  intro n
  induction n with
  | zero => intro x1 x2 x3 _ _; exact pk_n
  | succ n ih =>
    intro x1 x2 x3 g0 g1
    show pk (wf_W_bound_6_b (wf_W_bound_6 n) x1 x2 x3 σ) _
    unfold wf_W_bound_6_b
    refine pk_e (fun v1 e1 => pk_i (fun hc => ?_) (fun hc => ?_))
    · rw [e1, wn_le] at hc
      rw [show ((σ 1 10).toInt - x3.toInt).toNat = 0 by omega]
      exact pk_e (fun v3 e3 => pk_s e3)
    · rw [e1, wn_le] at hc
      have hup : (x3 + 1).toInt = x3.toInt + 1 := wn_up g0 (by omega)
      have hm : ((σ 1 10).toInt - x3.toInt).toNat = ((σ 1 10).toInt - (x3 + 1).toInt).toNat + 1 := by omega
      have hr : x3.toInt.toNat + 1 = (x3 + 1).toInt.toNat := by omega
      rw [hm]
      unfold qS
      rw [hr]
      have hl := pq_least hJ hT x3 g0 (by omega) 16 (-1) 0 (by rw [wn_0]; omega) (by rw [wn_0]; omega)
      rw [wn_0] at hl
      have hl2 : pk (wf_P_leastJumpTo x3 σ) _ := same_q (fun x e => wr_P_leastJumpTo x3 σ x e) (fun _ _ h => h) hl
      refine pk_b2 hl2 (fun r5 σ4 hq => ?_)
      obtain ⟨q1, q2⟩ := hq
      have q2 : σ4 = σ := q2
      have q1 : r5 = qZ (qL (fun a => qj σ a x3.toInt.toNat) x3.toInt.toNat (σ 1 10).toInt.toNat 0 (-1)) := by simpa using q1
      subst q2
      refine pk_e (fun v6 e6 => pk_e (fun v7 e7 => pk_e (fun v8 e8 => ?_)))
      have key := ih v6 v7 (x3 + 1) (by omega) (by omega)
      rw [e8, ← q1, ← e6, ← e7]
      exact key
theorem pq_Wbound {σ : wc_S} (hJ : wJ 0 σ) (hT : qT σ) : pk (wf_W_bound σ) (fun r => r.1 = qS (qj σ) (σ 1 10).toInt.toNat (σ 1 10).toInt.toNat 0 0 0) := by
  have hn := i_n hJ
  have := pq_W_bound_6 hJ hT 16 0 0 0 (by rw [wn_0]; omega) (by rw [wn_0]; omega)
  rw [wn_0] at this
  unfold wf_W_bound
  simpa using this
theorem pq_Mb25 {σ : wc_S} (hJ : wJ 0 σ) (hT : qT σ) {P : Int32 × wc_S → Prop} {k11 : Int32 → Int32 → Int32 → wc_S → Option (Int32 × wc_S)} (x1 x2 x3 : Int32) (h1 : 0 ≤ x3.toInt) (h2 : x3.toInt < (σ 71 1).toInt) (l : Int32) (hk : ∀ v, v.toInt = x3.toInt + 1 → pk (k11 (x1 + l) (if x2 < l then l else x2) v σ) P) : ∀ (n : Nat) (x4 x5 : Int32), 0 ≤ x5.toInt → x5.toInt ≤ (σ 71 1).toInt → (x4 = -1 ∨ 0 ≤ x4.toInt) → qZ (qL (fun a => qj σ a x3.toInt.toNat) x3.toInt.toNat ((σ 71 1).toInt - x5.toInt).toNat x5.toInt.toNat x4) = l → pk (wf_M_bound_25 k11 n x1 x2 x3 x4 x5 σ) P := by
  have hn := i_m hJ
  intro n
  induction n with
  | zero => intro x4 x5 _ _ _ _; exact pk_n
  | succ n ih =>
    intro x4 x5 g0 g1 gx hl
    show pk (wf_M_bound_25_b k11 (wf_M_bound_25 k11 n) x1 x2 x3 x4 x5 σ) _
    unfold wf_M_bound_25_b
    refine pk_e (fun v1 e1 => pk_i (fun hc => ?_) (fun hc => ?_))
    · rw [e1, wn_le] at hc
      rw [show ((σ 71 1).toInt - x5.toInt).toNat = 0 by omega] at hl
      have fin : pk (wf_M_bound_87 k11 x1 x2 x3 l σ) P := by
        unfold wf_M_bound_87
        refine pk_e (fun v8 e8 => ?_)
        unfold wf_M_bound_101
        have hh := hk (x3 + 1) (wn_up h1 (by omega))
        refine pk_i (fun hc => pk_e (fun v10 e10 => ?_)) (fun hc => pk_e (fun v10 e10 => ?_))
        · rw [if_neg (by rw [wn_lt]; rw [wn_le] at hc; omega)] at hh
          rw [e8, e10]; exact hh
        · rw [if_pos (by rw [wn_lt]; rw [wn_le] at hc; omega)] at hh
          rw [e8, e10]; exact hh
      have hl : (if x4 = -1 then 0 else x4) = l := hl
      refine pk_i (fun h4 => ?_) (fun h4 => ?_)
      · rw [wn_le, wn_0] at h4
        rw [if_neg (by intro q; rw [q, wn_m1] at h4; omega)] at hl
        rw [hl]; exact fin
      · rw [wn_le, wn_0] at h4
        rw [if_pos (gx.resolve_right h4)] at hl
        rw [hl]; exact fin
    · rw [e1, wn_le] at hc
      have hup : (x5 + 1).toInt = x5.toInt + 1 := wn_up g0 (by omega)
      have hm : ((σ 71 1).toInt - x5.toInt).toNat = ((σ 71 1).toInt - (x5 + 1).toInt).toNat + 1 := by omega
      have hr : x5.toInt.toNat + 1 = (x5 + 1).toInt.toNat := by omega
      have key := fun x4 => ih x4 (x5 + 1) (by omega) (by omega)
      rw [hm] at hl
      unfold qL at hl
      rw [hr] at hl
      have ex : (x5 = x3) ↔ (x5.toInt.toNat = x3.toInt.toNat) := by rw [wn_eq]; omega
      refine pk_i (fun h3 => ?_) (fun h3 => ?_)
      · rw [if_pos (ex.1 h3)] at hl; exact key x4 gx hl
      · rw [if_neg (fun q => h3 (ex.2 q))] at hl
        refine pk_b2 (pq_M_jumpOf (j78 hJ) hT x5 x3) (fun r13 σ12 hq => ?_)
        obtain ⟨q1, q2⟩ := hq
        have q2 : σ12 = σ := q2
        have q1 : r13 = qj σ x5.toInt.toNat x3.toInt.toNat := q1
        subst q2
        rw [← q1] at hl
        have pj : r13 = -1 ∨ (0 ≤ r13.toInt ∧ r13.toInt ≤ 20000) := by rw [q1]; exact qj_pos hT _ _
        refine pk_i (fun h4 => ?_) (fun h4 => ?_)
        · rw [wn_lt, wn_0] at h4
          rw [if_pos (pj.resolve_right (by omega))] at hl; exact key x4 gx hl
        · rw [wn_lt, wn_0] at h4
          have nj : ¬ r13 = -1 := by intro q; rw [q, wn_m1] at h4; omega
          have p13 : r13 = -1 ∨ 0 ≤ r13.toInt := Or.inr (pj.resolve_left nj).1
          rw [if_neg nj] at hl
          refine pk_i (fun h5 => ?_) (fun h5 => ?_)
          · rw [wn_lt, wn_0] at h5
            rw [if_pos (gx.resolve_right (by omega))] at hl; exact key r13 p13 hl
          · rw [wn_lt, wn_0] at h5
            rw [if_neg (by intro q; rw [q, wn_m1] at h5; omega)] at hl
            refine pk_i (fun h6 => ?_) (fun h6 => ?_)
            · rw [if_pos h6] at hl; exact key x4 gx hl
            · rw [if_neg h6] at hl; exact key r13 p13 hl
theorem pq_Mb11 {σ : wc_S} (hJ : wJ 0 σ) (hT : qT σ) : ∀ (n : Nat) (x1 x2 x3 : Int32), 0 ≤ x3.toInt → x3.toInt ≤ (σ 71 1).toInt → pk (wf_M_bound_11 n x1 x2 x3 σ) (fun r => r.1 = qS (qj σ) (σ 71 1).toInt.toNat ((σ 71 1).toInt - x3.toInt).toNat x3.toInt.toNat x1 x2) := by
  have hn := i_m hJ
  intro n
  induction n with
  | zero => intro x1 x2 x3 _ _; exact pk_n
  | succ n ih =>
    intro x1 x2 x3 g0 g1
    show pk (wf_M_bound_11_b (wf_M_bound_11 n) x1 x2 x3 σ) _
    unfold wf_M_bound_11_b
    refine pk_e (fun v1 e1 => pk_i (fun hc => ?_) (fun hc => ?_))
    · rw [e1, wn_le] at hc
      rw [show ((σ 71 1).toInt - x3.toInt).toNat = 0 by omega]
      exact pk_e (fun v3 e3 => pk_s e3)
    · rw [e1, wn_le] at hc
      have hup : (x3 + 1).toInt = x3.toInt + 1 := wn_up g0 (by omega)
      have hm : ((σ 71 1).toInt - x3.toInt).toNat = ((σ 71 1).toInt - (x3 + 1).toInt).toNat + 1 := by omega
      have hr : x3.toInt.toNat + 1 = (x3 + 1).toInt.toNat := by omega
      rw [hm]
      unfold qS
      rw [hr]
      refine pq_Mb25 hJ hT x1 x2 x3 g0 (by omega) (qZ (qL (fun a => qj σ a x3.toInt.toNat) x3.toInt.toNat (σ 71 1).toInt.toNat 0 (-1))) (fun v hv => ?_) 16 (-1) 0 (by rw [wn_0]; omega) (by rw [wn_0]; omega) (Or.inl rfl) (by rw [wn_0]; simp)
      have ev : v = x3 + 1 := wn_eq.2 (by omega)
      rw [ev]
      exact ih _ _ (x3 + 1) (by omega) (by omega)
theorem pq_Mbound {σ : wc_S} (hJ : wJ 0 σ) (hT : qT σ) : pk (wf_M_bound σ) (fun r => r.1 = qS (qj σ) (σ 71 1).toInt.toNat (σ 71 1).toInt.toNat 0 0 0) := by
  unfold wf_M_bound
  refine pk_e (fun σ1 e1 => ?_)
  have hn := i_m hJ
  have hT' : qT σ1 := by rw [e1]; exact qT_keep (fun k i hd => wu_other (by unfold qD at hd; omega)) hT
  have hJ' : wJ 0 σ1 := by rw [e1]; exact u_71 hJ (by decide) (by decide)
  have e71 : σ1 71 1 = σ 71 1 := by rw [e1]; exact wu_other (by decide)
  have := pq_Mb11 hJ' hT' 16 0 0 0 (by rw [wn_0]; omega) (by rw [wn_0, e71]; omega)
  have ej : qj σ1 = qj σ := funext fun a => funext fun b => qj_eq (fun k i hk => by rw [e1]; exact wu_other (by omega)) a b
  rw [wn_0, e71, ej] at this
  simpa using this
theorem tQ_bound {σ : wc_S} (hσ : wQ σ) : wk (wf_W_bound σ) (fun r => wJ 0 r.2 ∧ wk (wf_M_bound r.2) (fun s => wQ s.2 ∧ s.1 = r.1)) := by
  obtain ⟨x, e, h, hx⟩ := wk_pk (tI_W_bound hσ) (pq_Wbound hσ.1 hσ.2)
  have hw : x.2 = σ := wr_same (wr_W_bound σ x e) (fun _ _ h => h)
  refine ⟨x, e, h.1, ?_⟩
  obtain ⟨y, e2, h2, hy⟩ := wk_pk (tI_M_bound h) (pq_Mbound h.1 h.2)
  refine ⟨y, e2, h2, ?_⟩
  rw [hy, hx, hw, ← hσ.2.1.1]
/-! tell: what is told, place by place; good orders -/
theorem qb_l (s : BitVec 32) (c : Nat) (hc : c < 16) : (s.sshiftRight c).getLsbD 0 = s.getLsbD c := by
  rw [BitVec.getLsbD_sshiftRight]
  simp
  intro h; omega
theorem qbit (s : Int32) (c : Nat) (hc : c < 16) : (((s >>> ((Int32.ofNat c) &&& 31)) &&& 1) = 1) ↔ s.toBitVec.getLsbD c = true := by
  have h : ∀ c : Nat, c < 16 → ((Int32.ofNat c &&& 31).toBitVec.smod 32).toNat = c := by decide
  have e : ((s >>> ((Int32.ofNat c) &&& 31)) &&& 1).toBitVec = (s.toBitVec.sshiftRight c) &&& 1#32 := by
    rw [Int32.toBitVec_and, Int32.toBitVec_shiftRight]
    show BitVec.sshiftRight _ _ &&& _ = _
    rw [h c hc]; rfl
  rw [← Int32.toBitVec_inj, e]
  show _ = 1#32 ↔ _
  rw [← qb_l _ c hc]
  constructor
  · intro q
    have := congrArg (fun b => BitVec.getLsbD b 0) q
    simp only [BitVec.getLsbD_and] at this
    simpa using this
  · intro q
    apply BitVec.eq_of_getLsbD_eq
    intro i hi
    rw [BitVec.getLsbD_and]
    by_cases h0 : i = 0
    · subst h0; rw [q]; rfl
    · simp [BitVec.getLsbD_one, h0]
theorem qbit_or (s : Int32) (v c : Nat) (hv : v < 16) : (s ||| ((1 : Int32) <<< (Int32.ofNat v &&& 31))).toBitVec.getLsbD c = (s.toBitVec.getLsbD c || decide (c = v)) := by
  have h : ∀ v : Nat, v < 16 → ((1 : Int32) <<< (Int32.ofNat v &&& 31)).toBitVec = BitVec.twoPow 32 v := by decide
  rw [Int32.toBitVec_or, BitVec.getLsbD_or, h v hv, BitVec.getLsbD_twoPow]
  congr 1
  by_cases e : v = c
  · subst e; simp; omega
  · have : ¬ c = v := fun q => e q.symm
    simp [e, this]
theorem qdig (x : Int64) (k : Nat) (hk : k < 9) : (((x.toUInt64 >>> (((4 : Int32) * Int32.ofNat k).toInt64.toUInt64 &&& Int64.toUInt64 63)).toInt64.toInt32) &&& 15) = ((x >>> (((4 : Int32) * Int32.ofNat k).toInt64 &&& 63)) &&& 15).toInt32 := by
  have h1 : ∀ k : Nat, k < 9 → ((((4 : Int32) * Int32.ofNat k).toInt64.toUInt64 &&& Int64.toUInt64 63).toBitVec % 64).toNat = 4 * k := by decide
  have h2 : ∀ k : Nat, k < 9 → ((((4 : Int32) * Int32.ofNat k).toInt64 &&& 63).toBitVec.smod 64).toNat = 4 * k := by decide
  rw [← Int32.toBitVec_inj, Int32.toBitVec_and, Int64.toBitVec_toInt32, Int64.toBitVec_toInt32, Int64.toBitVec_and]
  show BitVec.signExtend 32 (x.toUInt64 >>> _).toBitVec &&& _ = _
  rw [UInt64.toBitVec_shiftRight, Int64.toBitVec_shiftRight]
  show BitVec.signExtend 32 (BitVec.ushiftRight _ _) &&& 15#32 = BitVec.signExtend 32 (BitVec.sshiftRight _ _ &&& 15#64)
  rw [h1 k hk, h2 k hk]
  show BitVec.signExtend 32 (BitVec.ushiftRight x.toBitVec (4 * k)) &&& 15#32 = BitVec.signExtend 32 (BitVec.sshiftRight x.toBitVec (4 * k) &&& 15#64)
  apply BitVec.eq_of_getLsbD_eq
  intro i hi
  have f : ∀ i : Nat, i < 32 → (15#32).getLsbD i = decide (i < 4) ∧ (15#64).getLsbD i = decide (i < 4) := by decide
  rw [BitVec.getLsbD_and, (f i hi).1, BitVec.getLsbD_signExtend, BitVec.getLsbD_signExtend]
  have hi64 : i < 64 := by omega
  simp only [hi, hi64, decide_true, Bool.true_and, if_true]
  rw [BitVec.getLsbD_and, (f i hi).2]
  by_cases h4 : i < 4
  · rw [BitVec.getLsbD_sshiftRight]
    show (BitVec.getLsbD (x.toBitVec >>> (4 * k)) i && _) = _
    rw [BitVec.getLsbD_ushiftRight]
    have : 4 * k + i < 64 := by omega
    have hn : ¬ 64 ≤ i := by omega
    simp [this, hn]
  · simp [h4]
theorem qof {x : Int32} (h : 0 ≤ x.toInt) : x = Int32.ofNat x.toInt.toNat := by
  have hu := Int32.toInt_lt x
  rw [wn_eq, Int32.toInt_ofNat']
  have : ((x.toInt.toNat : Nat) : Int).bmod 4294967296 = x.toInt := by
    rw [Int.bmod_eq_of_le (by omega) (by omega)]; omega
  exact this.symm
/-- the p-th coil that is told -/
def qd (x : Int64) (p : Nat) : Int32 := ((x >>> (((4 : Int32) * Int32.ofNat p).toInt64 &&& 63)) &&& 15).toInt32
theorem qd_pos (x : Int64) (p : Nat) (hp : p < 9) : 0 ≤ (qd x p).toInt ∧ (qd x p).toInt ≤ 15 := by
  unfold qd
  rw [← qdig x p hp]
  exact wn_15 _
def qOK (d : Nat → Int32) (N : Int) (p : Nat) : Prop := (d p).toInt < N ∧ ∀ i, i < p → d i ≠ d p
theorem pq_read (x : Int64) {σ0 : wc_S} (hN : (σ0 1 10).toInt ≤ 9) : ∀ (n : Nat) (x3 x4 : Int32) (σ : wc_S), (∀ k i, k ≠ 70 → σ k i = σ0 k i) → 0 ≤ x4.toInt → x4.toInt ≤ (σ0 1 10).toInt → (∀ p : Nat, (p : Int) < x4.toInt → qOK (qd x) (σ0 1 10).toInt p) → (∀ j : Nat, (j : Int) < x4.toInt → σ 70 j = qd x j) → (∀ c : Nat, c < 16 → (x3.toBitVec.getLsbD c = true ↔ ∃ j : Nat, (j : Int) < x4.toInt ∧ (qd x j).toInt = c)) → pk (wf_W_readIntoScratch_5 n x x3 x4 σ) (fun r => (∀ k i, k ≠ 70 → r.2 k i = σ0 k i) ∧ ((r.1 = 1 ∧ (∀ p : Nat, (p : Int) < (σ0 1 10).toInt → qOK (qd x) (σ0 1 10).toInt p) ∧ (∀ j : Nat, (j : Int) < (σ0 1 10).toInt → r.2 70 j = qd x j)) ∨ (r.1 = 0 ∧ ∃ p : Nat, (p : Int) < (σ0 1 10).toInt ∧ ¬ qOK (qd x) (σ0 1 10).toInt p))) := by
  intro n
  induction n with
  | zero => intro x3 x4 σ _ _ _ _ _ _; exact pk_n
  | succ n ih =>
    intro x3 x4 σ hs g0 g1 hok hsc hbits
    show pk (wf_W_readIntoScratch_5_b (wf_W_readIntoScratch_5 n) x x3 x4 σ) _
    unfold wf_W_readIntoScratch_5_b
    have h1 : σ 1 10 = σ0 1 10 := hs 1 10 (by decide)
    refine pk_e (fun v1 e1 => pk_i (fun hc => ?_) (fun hc => ?_))
    · rw [e1, h1, wn_le] at hc
      exact pk_s ⟨hs, Or.inl ⟨rfl, fun p hp => hok p (by omega), fun j hj => hsc j (by omega)⟩⟩
    · rw [e1, h1, wn_le] at hc
      have hup : (x4 + 1).toInt = x4.toInt + 1 := wn_up g0 (by omega)
      refine pk_e (fun v3 e3 => pk_e (fun v4 e4 => pk_e (fun v5 e5 => pk_e (fun v6 e6 => ?_))))
      have b6 : 0 ≤ v6.toInt ∧ v6.toInt ≤ 15 := by rw [e6]; exact wn_15 _
      have h6 : v6 = qd x x4.toInt.toNat := by
        rw [e6, e5, e4, e3]
        have := qdig x x4.toInt.toNat (by omega)
        rw [← qof g0] at this
        rw [this]
        unfold qd
        rw [← qof g0]
      rw [e_noCoil, b2s]
      by_cases hco : v6 < 0 ∨ ¬ v6 < σ 1 10
      · rw [if_pos hco, if_neg (by decide)]
        refine pk_s ⟨hs, Or.inr ⟨rfl, x4.toInt.toNat, by omega, fun q => ?_⟩⟩
        have q1 := q.1
        rw [← h6] at q1
        rw [wn_lt, wn_lt, wn_0, h1] at hco
        omega
      · rw [if_neg hco, if_pos rfl]
        rw [not_or, Decidable.not_not, wn_lt, wn_lt, wn_0, h1] at hco
        refine pk_e (fun v10 e10 => pk_e (fun v11 e11 => ?_))
        have hb := qbit x3 v6.toInt.toNat (by omega)
        rw [← qof b6.1, ← e10, ← e11, hbits v6.toInt.toNat (by omega)] at hb
        refine pk_i (fun hs1 => ?_) (fun hs1 => ?_)
        · obtain ⟨j, hj, ej⟩ := hb.1 hs1
          refine pk_s ⟨hs, Or.inr ⟨rfl, x4.toInt.toNat, by omega, fun q => ?_⟩⟩
          refine q.2 j (by omega) ?_
          rw [← h6, wn_eq]; omega
        · have hno : ∀ j : Nat, (j : Int) < x4.toInt → qd x j ≠ v6 := by
            intro j hj q
            exact hs1 (hb.2 ⟨j, hj, by rw [q]; omega⟩)
          refine pk_e (fun v13 e13 => pk_e (fun v14 e14 => pk_g (fun _ => pk_e (fun σ16 e16 => pk_e (fun v17 e17 => ?_)))))
          have e17' : v17.toInt = x4.toInt + 1 := by rw [e17]; exact hup
          refine ih v14 v17 σ16 (fun k i hk => ?_) (by omega) (by omega) (fun p hp => ?_) (fun j hj => ?_) (fun c hc16 => ?_)
          · rw [e16, wu_other (Or.inl hk)]; exact hs k i hk
          · by_cases hp2 : (p : Int) < x4.toInt
            · exact hok p hp2
            · have ep : p = x4.toInt.toNat := by omega
              rw [ep]
              refine ⟨by rw [← h6]; omega, fun i hi => ?_⟩
              rw [← h6]; exact hno i (by omega)
          · by_cases hj2 : (j : Int) < x4.toInt
            · rw [e16, wu_other (Or.inr (by rw [wn_tn]; omega))]; exact hsc j hj2
            · have ep : j = x4.toInt.toNat := by omega
              rw [e16, ep, wn_tn, wu_same, h6]
          · have := qbit_or x3 v6.toInt.toNat c (by omega)
            rw [← qof b6.1, ← e13, ← e14] at this
            rw [this, Bool.or_eq_true, decide_eq_true_eq, hbits c hc16]
            constructor
            · intro q
              rcases q with ⟨j, hj, ej⟩ | q
              · exact ⟨j, by omega, ej⟩
              · exact ⟨x4.toInt.toNat, by omega, by rw [← h6]; omega⟩
            · rintro ⟨j, hj, ej⟩
              by_cases hj2 : (j : Int) < x4.toInt
              · exact Or.inl ⟨j, hj2, ej⟩
              · have ep : j = x4.toInt.toNat := by omega
                rw [ep, ← h6] at ej
                exact Or.inr (by omega)
/-- coil c may come behind coil a at place p -/
def qF (σ : wc_S) (p : Int) (a c : Nat) : Prop := qj σ a c ≠ -1 ∧ (p < (σ 1 11).toInt → (σ 2 a).toInt ≤ (σ 2 c).toInt) ∧ (¬ p < (σ 1 11).toInt → (σ 2 c).toInt ≤ (σ 2 a).toInt)
def qM (σ : wc_S) (p : Int) (a c : Nat) : Prop := p ≤ (σ 6 c).toInt ∧ (p = 0 ∨ qF σ p a c)
theorem qM_eq {σ τ : wc_S} (h : ∀ k i, qD k i → τ k i = σ k i) (p : Int) (a c : Nat) : qM τ p a c ↔ qM σ p a c := by
  unfold qM qF
  rw [h 6 c (by unfold qD; omega), h 2 a (by unfold qD; omega), h 2 c (by unfold qD; omega), h 1 11 (by unfold qD; omega), qj_eq (σ := σ) (τ := τ) (fun k i hk => h k i (by unfold qD; omega))]
theorem pq_mayFollow {b : Nat} {σ : wc_S} (hJ : (σ 1 10).toInt ≤ 9) (hT : qT σ) {a c : Int32} (ha : 0 ≤ a.toInt ∧ a.toInt < (σ 1 10).toInt) (hc : 0 ≤ c.toInt ∧ c.toInt < (σ 1 10).toInt) : pk (wf_L_mayFollow b a c σ) (fun r => (r.1 = 1 ∧ qF σ (σ b 9).toInt a.toInt.toNat c.toInt.toNat) ∨ (r.1 = 0 ∧ ¬ qF σ (σ b 9).toInt a.toInt.toNat c.toInt.toNat)) := by
  unfold wf_L_mayFollow
  have hb := hT.2.2.2.1
  have w1 := (hb a.toInt.toNat).1
  have w2 := (hb c.toInt.toNat).1
  refine pk_g (fun _ => pk_g (fun _ => pk_e (fun v3 e3 => ?_)))
  rw [qP_at hJ hT (by rw [not_or, Decidable.not_not, wn_lt, wn_lt, wn_0]; omega) (by rw [not_or, Decidable.not_not, wn_lt, wn_lt, wn_0]; omega)] at e3
  refine pk_i (fun h3 => pk_s (Or.inr ⟨rfl, fun q => q.1 (e3 ▸ h3)⟩)) (fun h3 => ?_)
  refine pk_g (fun _ => pk_e (fun v6 e6 => pk_g (fun _ => pk_e (fun v8 e8 => pk_e (fun v9 e9 => pk_e (fun v10 e10 => pk_e (fun v11 e11 => ?_)))))))
  rw [wn_tn] at e6 e8
  have h9 : v9.toInt = (σ 2 c.toInt.toNat).toInt - (σ 2 a.toInt.toNat).toInt := by rw [e9, e6, e8]; exact wn_sub (by omega) (by omega)
  rw [e3] at h3
  refine pk_i (fun h4 => ?_) (fun h4 => ?_)
  · rw [e10, e11, wn_le] at h4
    refine pk_i (fun h5 => pk_s (Or.inr ⟨rfl, fun q => ?_⟩)) (fun h5 => pk_s (Or.inl ⟨rfl, h3, fun q => by omega, fun _ => ?_⟩))
    · rw [wn_lt, wn_0] at h5
      have := q.2.2 (by omega)
      omega
    · rw [wn_lt, wn_0] at h5; omega
  · rw [e10, e11, wn_le] at h4
    refine pk_i (fun h5 => pk_s (Or.inr ⟨rfl, fun q => ?_⟩)) (fun h5 => pk_s (Or.inl ⟨rfl, h3, fun _ => ?_, fun q => by omega⟩))
    · rw [wn_lt, wn_0] at h5
      have := q.2.1 (by omega)
      omega
    · rw [wn_lt, wn_0] at h5; omega
/-- mayPut, on the line at b: the coil ahead is the last that was put -/
theorem pq_mayPut {b : Nat} {σ : wc_S} (hJ : (σ 1 10).toInt ≤ 9) (hT : qT σ) {c : Int32} (hl : 0 ≤ (σ b 9).toInt ∧ (σ b 9).toInt ≤ 9) (hc : 0 ≤ c.toInt ∧ c.toInt < (σ 1 10).toInt) (ha : 0 < (σ b 9).toInt → 0 ≤ (σ (b + 1) ((σ b 9).toInt - 1).toNat).toInt ∧ (σ (b + 1) ((σ b 9).toInt - 1).toNat).toInt < (σ 1 10).toInt) : pk (wf_L_mayPut b c σ) (fun r => ((r.1 = 1 ∧ σ (b + 2) c.toInt.toNat = 0 ∧ qM σ (σ b 9).toInt (σ (b + 1) ((σ b 9).toInt - 1).toNat).toInt.toNat c.toInt.toNat) ∨ (r.1 = 0 ∧ ¬ (σ (b + 2) c.toInt.toNat = 0 ∧ qM σ (σ b 9).toInt (σ (b + 1) ((σ b 9).toInt - 1).toNat).toInt.toNat c.toInt.toNat))) ∧ r.2 = σ) := by
  refine same_q (fun x e => wr_L_mayPut b c σ x e) (fun _ _ h => h) ?_
  unfold wf_L_mayPut
  refine pk_g (fun _ => pk_e (fun v2 e2 => ?_))
  rw [wn_tn] at e2
  refine pk_i (fun h2 => ?_) (fun h2 => pk_s (Or.inr ⟨rfl, fun q => h2 (e2 ▸ q.1)⟩))
  rw [e2] at h2
  refine pk_e (fun v4 e4 => pk_g (fun _ => pk_e (fun v6 e6 => ?_)))
  rw [wn_tn] at e6
  refine pk_i (fun h6 => ?_) (fun h6 => pk_s (Or.inr ⟨rfl, fun q => h6 ?_⟩))
  · rw [e4, e6, wn_le] at h6
    refine pk_e (fun v8 e8 => ?_)
    refine pk_i (fun h8 => pk_s (Or.inl ⟨rfl, h2, h6, Or.inl ?_⟩)) (fun h8 => ?_)
    · rw [e8, wn_eq, wn_0] at h8; exact h8
    · rw [e8, wn_eq, wn_0] at h8
      refine pk_e (fun v10 e10 => pk_e (fun v11 e11 => pk_g (fun _ => pk_e (fun v13 e13 => ?_))))
      have h11 : v11.toInt = (σ b 9).toInt - 1 := by rw [e11, e10]; exact wn_dn hl.1 (by omega)
      rw [wn_tn, h11] at e13
      have ha' := ha (by omega)
      rw [← e13] at ha' ⊢
      refine pk_b2 (pq_mayFollow (b := b) hJ hT ha' hc) (fun r15 σ14 hq => ?_)
      rcases hq with ⟨q1, q2⟩ | ⟨q1, q2⟩
      · have q1 : r15 = 1 := q1
        rw [q1, if_neg (by decide)]
        exact pk_s (Or.inl ⟨rfl, h2, h6, Or.inr q2⟩)
      · have q1 : r15 = 0 := q1
        rw [q1, if_pos rfl]
        exact pk_s (Or.inr ⟨rfl, fun q => q2 (q.2.2.resolve_left h8)⟩)
  · rw [e4, e6, wn_le]; exact q.2.1
/-- put: the line is longer by the coil -/
theorem pq_put {b : Nat} {c : Int32} {σ : wc_S} : pk (wf_L_put b c σ) (fun τ => τ b 9 = σ b 9 + 1 ∧ (∀ i, τ (b + 1) i = if i = (σ b 9).toNatClampNeg then c else σ (b + 1) i) ∧ (∀ i, τ (b + 2) i = if i = c.toNatClampNeg then 1 else σ (b + 2) i)) := by
  have key : ∀ s, pk (wf_L_put_20 b c s σ) (fun τ => τ b 9 = σ b 9 + 1 ∧ (∀ i, τ (b + 1) i = if i = (σ b 9).toNatClampNeg then c else σ (b + 1) i) ∧ (∀ i, τ (b + 2) i = if i = c.toNatClampNeg then 1 else σ (b + 2) i)) := by
    intro s
    unfold wf_L_put_20
    refine pk_e (fun v3 e3 => pk_g (fun _ => pk_e (fun σ5 e5 => ?_)))
    refine pk_b1 (Q := fun u => u b 9 = σ b 9 ∧ (∀ i, u (b + 1) i = σ (b + 1) i) ∧ (∀ i, u (b + 2) i = σ (b + 2) i)) (fun u eu => ?_) (fun u hu => ?_)
    · have hw := wr_L_countKilometres b c s σ5 u eu
      refine ⟨?_, fun i => ?_, fun i => ?_⟩
      · rw [hw b 9 (fun q => by unfold wS_L_countKilometres at q; omega), e5, wu_other (Or.inl (by omega))]
      · rw [hw (b + 1) i (fun q => by unfold wS_L_countKilometres at q; omega), e5, wu_other (Or.inl (by omega))]
      · rw [hw (b + 2) i (fun q => by unfold wS_L_countKilometres at q; omega), e5, wu_other (Or.inl (by omega))]
    · refine pk_b1 (Q := fun w => w b 9 = σ b 9 ∧ (∀ i, w (b + 1) i = σ (b + 1) i) ∧ (∀ i, w (b + 2) i = σ (b + 2) i)) (fun w ew => ?_) (fun w hw => ?_)
      · have hw := wr_L_countCosts b c s u w ew
        refine ⟨?_, fun i => ?_, fun i => ?_⟩
        · rw [hw b 9 (fun q => by unfold wS_L_countCosts at q; omega)]; exact hu.1
        · rw [hw (b + 1) i (fun q => by unfold wS_L_countCosts at q; omega)]; exact hu.2.1 i
        · rw [hw (b + 2) i (fun q => by unfold wS_L_countCosts at q; omega)]; exact hu.2.2 i
      · refine pk_e (fun v8 e8 => pk_g (fun _ => pk_e (fun σ10 e10 => pk_g (fun _ => pk_e (fun σ12 e12 => pk_e (fun v13 e13 => pk_e (fun v14 e14 => pk_e (fun σ15 e15 => pk_s ?_))))))))
        rw [hw.1] at e8
        have h13 : v13 = σ b 9 := by rw [e13, e12, wu_other (Or.inl (by omega)), e10, wu_other (Or.inl (by omega)), hw.1]
        refine ⟨?_, fun i => ?_, fun i => ?_⟩
        · rw [e15, wu_same, e14, h13]
        · rw [e15, wu_other (Or.inl (by omega)), e12, wu_other (Or.inl (by omega)), e10, wu_at, e8, hw.2.1]
          simp
        · rw [e15, wu_other (Or.inl (by omega)), e12, wu_at, e10, wu_other (Or.inl (by omega)), hw.2.2]
          simp
          rfl
  unfold wf_L_put
  refine pk_e (fun v1 e1 => pk_i (fun _ => key 0) (fun _ => ?_))
  refine pk_b2 (Q := fun r => r.2 = σ) (fun x e => wr_same (wr_L_isWornWith b c σ x e) (fun _ _ h => h)) (fun r u hu => ?_)
  have hu : u = σ := hu
  rw [hu]
  exact pk_i (fun _ => key 0) (fun _ => key 1)
theorem pq_clear7 {b : Nat} : ∀ (n : Nat) (x1 : Int32) (σ : wc_S), 0 ≤ x1.toInt → x1.toInt ≤ 9 → (∀ i : Nat, (i : Int) < x1.toInt → σ (b + 2) i = 0) → pk (wf_L_clear_7 b n x1 σ) (fun τ => τ b 9 = σ b 9 ∧ ∀ i, i < 9 → τ (b + 2) i = 0) := by
  intro n
  induction n with
  | zero => intro x1 σ _ _ _; exact pk_n
  | succ n ih =>
    intro x1 σ g0 g1 hz
    show pk (wf_L_clear_7_b b (wf_L_clear_7 b n) x1 σ) _
    unfold wf_L_clear_7_b
    refine pk_i (fun hc => pk_s ⟨rfl, fun i hi => hz i ?_⟩) (fun hc => ?_)
    · rw [wn_le, wn_9] at hc; omega
    · rw [wn_le, wn_9] at hc
      refine pk_g (fun _ => pk_e (fun σ4 e4 => pk_e (fun v5 e5 => ?_)))
      have h5 : v5.toInt = x1.toInt + 1 := by rw [e5]; exact wn_up g0 (by omega)
      refine pk_mono (ih v5 σ4 (by omega) (by omega) (fun i hi => ?_)) (fun τ hτ => ⟨?_, hτ.2⟩)
      · rw [e4, wu_at]
        split
        · rfl
        · rename_i hne
          exact hz i (by rw [wn_tn] at hne; omega)
      · rw [hτ.1, e4, wu_other (Or.inl (by omega))]
theorem pq_clear {b : Nat} {σ : wc_S} : pk (wf_L_clear b σ) (fun τ => τ b 9 = 0 ∧ ∀ i, i < 9 → τ (b + 2) i = 0) := by
  unfold wf_L_clear
  refine pk_e (fun σ1 e1 => pk_mono (pq_clear7 16 0 σ1 (by decide) (by decide) (fun i hi => by rw [wn_0] at hi; omega)) (fun τ hτ => ⟨?_, hτ.2⟩))
  rw [hτ.1, e1, wu_same]
/-! good orders: the class's line and the model's row -/
def qMd (σ : wc_S) (d : Nat → Int32) (p : Nat) : Prop := qM σ p (d (p - 1)).toInt.toNat (d p).toInt.toNat
def qLn (σ : wc_S) (b : Nat) (d : Nat → Int32) (p : Int) : Prop := (σ b 9).toInt = p ∧ (∀ j : Nat, (j : Int) < p → σ (b + 1) j = d j) ∧ (∀ c : Nat, c < 9 → (σ (b + 2) c = 0 ↔ ∀ j : Nat, (j : Int) < p → (d j).toInt ≠ c))
theorem qLn_put {b : Nat} {σ τ : wc_S} {d : Nat → Int32} {p : Int} {c : Int32} (h : qLn σ b d p) (hp : 0 ≤ p ∧ p < 9) (hc : 0 ≤ c.toInt ∧ c.toInt < 9) (hd : d p.toNat = c) (h1 : τ b 9 = σ b 9 + 1) (h2 : ∀ i, τ (b + 1) i = if i = (σ b 9).toNatClampNeg then c else σ (b + 1) i) (h3 : ∀ i, τ (b + 2) i = if i = c.toNatClampNeg then 1 else σ (b + 2) i) : qLn τ b d (p + 1) := by
  obtain ⟨g1, g2, g3⟩ := h
  refine ⟨?_, fun j hj => ?_, fun e he => ?_⟩
  · rw [h1, wn_up (by omega) (by omega), g1]
  · rw [h2, wn_tn, g1]
    by_cases hj2 : j = p.toNat
    · rw [if_pos hj2, hj2, hd]
    · rw [if_neg hj2]; exact g2 j (by omega)
  · rw [h3, wn_tn]
    by_cases he2 : e = c.toInt.toNat
    · rw [if_pos he2]
      refine ⟨fun q => absurd q (by decide), fun q => absurd ?_ (q p.toNat (by omega))⟩
      rw [hd]; omega
    · rw [if_neg he2, g3 e he]
      refine ⟨fun q j hj => ?_, fun q j hj => q j (by omega)⟩
      by_cases hj2 : (j : Int) < p
      · exact q j hj2
      · rw [show j = p.toNat by omega, hd]; omega
theorem pq_layAll6 {b k1 : Nat} (hb : b = 30 ∨ b = 49) (hk1 : k1 = 69 ∨ k1 = 70) {σ0 : wc_S} (hn : (σ0 1 10).toInt ≤ 9) (hT0 : qT σ0) {d : Nat → Int32} (hd : ∀ j : Nat, (j : Int) < (σ0 1 10).toInt → σ0 k1 j = d j) (hok : ∀ p : Nat, (p : Int) < (σ0 1 10).toInt → 0 ≤ (d p).toInt ∧ qOK d (σ0 1 10).toInt p) : ∀ (n : Nat) (x2 : Int32) (σ : wc_S), (∀ k i, k < b ∨ b + 18 < k → σ k i = σ0 k i) → 0 ≤ x2.toInt → x2.toInt ≤ (σ0 1 10).toInt → qLn σ b d x2.toInt → (∀ p : Nat, (p : Int) < x2.toInt → qMd σ0 d p) → pk (wf_L_layAll_6 b k1 n x2 σ) (fun r => (∀ k i, k < b ∨ b + 18 < k → r.2 k i = σ0 k i) ∧ ((r.1 = 1 ∧ ∀ p : Nat, (p : Int) < (σ0 1 10).toInt → qMd σ0 d p) ∨ (r.1 = 0 ∧ ∃ p : Nat, (p : Int) < (σ0 1 10).toInt ∧ ¬ qMd σ0 d p))) := by
  intro n
  induction n with
  | zero => intro x2 σ _ _ _ _ _; exact pk_n
  | succ n ih =>
    intro x2 σ hs g0 g1 hL hg
    show pk (wf_L_layAll_6_b b k1 (wf_L_layAll_6 b k1 n) x2 σ) _
    unfold wf_L_layAll_6_b
    have h1 : σ 1 10 = σ0 1 10 := hs 1 10 (by omega)
    have hD : ∀ k i, qD k i → σ k i = σ0 k i := fun k i hk => hs k i (by unfold qD at hk; omega)
    have hT : qT σ := qT_keep hD hT0
    refine pk_e (fun v2 e2 => pk_i (fun hc => pk_s ⟨hs, Or.inl ⟨rfl, fun p hp => hg p ?_⟩⟩) (fun hc => ?_))
    · rw [e2, h1, wn_le] at hc; omega
    · rw [e2, h1, wn_le] at hc
      refine pk_g (fun _ => pk_e (fun v5 e5 => ?_))
      rw [wn_tn, hs k1 _ (by omega), hd _ (by omega)] at e5
      have hp := hok x2.toInt.toNat (by omega)
      have hup : (x2 + 1).toInt = x2.toInt + 1 := wn_up g0 (by omega)
      have el : (σ b 9).toInt = x2.toInt := hL.1
      have hprev : 0 < (σ b 9).toInt → σ (b + 1) ((σ b 9).toInt - 1).toNat = d (x2.toInt.toNat - 1) := fun h0 => by
        rw [el, hL.2.1 _ (by omega)]
        rw [show (x2.toInt - 1).toNat = x2.toInt.toNat - 1 by omega]
      have hlt := hp.2.1
      have hst : σ (b + 2) v5.toInt.toNat = 0 := by
        rw [hL.2.2 _ (by rw [e5]; omega)]
        intro j hj q
        refine hp.2.2 j (by omega) ?_
        have hj' := hok j (by omega)
        rw [wn_eq]; rw [e5] at q; omega
      have hmd : qM σ (σ b 9).toInt (σ (b + 1) ((σ b 9).toInt - 1).toNat).toInt.toNat v5.toInt.toNat ↔ qMd σ0 d x2.toInt.toNat := by
        unfold qMd
        rw [qM_eq hD, el, e5, show ((x2.toInt.toNat : Nat) : Int) = x2.toInt by omega]
        by_cases h0 : 0 < x2.toInt
        · have hp' := hprev (by omega)
          rw [el] at hp'
          rw [hp']
        · unfold qM
          have : x2.toInt = 0 := by omega
          simp [this]
      refine pk_b2 (pq_mayPut (b := b) (c := v5) (by rw [h1]; exact hn) hT ⟨by omega, by omega⟩ (by rw [e5, h1]; omega) (fun h0 => ?_)) (fun r7 σ6 hq => ?_)
      · rw [hprev h0, h1]
        have := hok (x2.toInt.toNat - 1) (by omega)
        exact ⟨this.1, this.2.1⟩
      · obtain ⟨hq, hq2⟩ := hq
        have hq2 : σ6 = σ := hq2
        subst hq2
        rcases hq with ⟨q1, q2, q3⟩ | ⟨q1, q2⟩
        · have q1 : r7 = 1 := q1
          rw [q1, if_neg (by decide)]
          refine pk_g (fun _ => pk_e (fun v10 e10 => ?_))
          rw [wn_tn, hs k1 _ (by omega), hd _ (by omega)] at e10
          refine pk_b1 (Q := fun τ => (τ b 9 = σ6 b 9 + 1 ∧ (∀ i, τ (b + 1) i = if i = (σ6 b 9).toNatClampNeg then v10 else σ6 (b + 1) i) ∧ (∀ i, τ (b + 2) i = if i = v10.toNatClampNeg then 1 else σ6 (b + 2) i)) ∧ ∀ k i, k < b ∨ b + 18 < k → τ k i = σ6 k i) (fun τ eτ => ⟨pq_put τ eτ, fun k i hk => wr_L_put b v10 σ6 τ eτ k i (fun q => by unfold wS_L_put at q; omega)⟩) (fun τ hτ => ?_)
          obtain ⟨⟨p1, p2, p3⟩, hfr⟩ := hτ
          refine pk_e (fun v12 e12 => ?_)
          rw [e12]
          refine ih (x2 + 1) τ (fun k i hk => (hfr k i hk).trans (hs k i hk)) (by omega) (by omega) ?_ (fun p hp2 => ?_)
          · rw [hup]
            exact qLn_put hL ⟨g0, by omega⟩ (by rw [e10]; omega) e10.symm p1 p2 p3
          · by_cases hp3 : (p : Int) < x2.toInt
            · exact hg p hp3
            · rw [show p = x2.toInt.toNat by omega]; exact hmd.1 q3
        · have q1 : r7 = 0 := q1
          rw [q1, if_pos rfl]
          exact pk_s ⟨hs, Or.inr ⟨rfl, x2.toInt.toNat, by omega, fun q => q2 ⟨hst, hmd.2 q⟩⟩⟩
theorem pq_layAll {b k1 : Nat} (hb : b = 30 ∨ b = 49) (hk1 : k1 = 69 ∨ k1 = 70) {σ : wc_S} (hn : 0 ≤ (σ 1 10).toInt ∧ (σ 1 10).toInt ≤ 9) (hT : qT σ) {d : Nat → Int32} (hd : ∀ j : Nat, (j : Int) < (σ 1 10).toInt → σ k1 j = d j) (hok : ∀ p : Nat, (p : Int) < (σ 1 10).toInt → 0 ≤ (d p).toInt ∧ qOK d (σ 1 10).toInt p) : pk (wf_L_layAll b k1 σ) (fun r => (∀ k i, k < b ∨ b + 18 < k → r.2 k i = σ k i) ∧ ((r.1 = 1 ∧ ∀ p : Nat, (p : Int) < (σ 1 10).toInt → qMd σ d p) ∨ (r.1 = 0 ∧ ∃ p : Nat, (p : Int) < (σ 1 10).toInt ∧ ¬ qMd σ d p))) := by
  unfold wf_L_layAll
  refine pk_b1 (Q := fun τ => (τ b 9 = 0 ∧ ∀ i, i < 9 → τ (b + 2) i = 0) ∧ ∀ k i, k < b ∨ b + 18 < k → τ k i = σ k i) (fun τ eτ => ⟨pq_clear τ eτ, fun k i hk => wr_L_clear b σ τ eτ k i (fun q => by unfold wS_L_clear at q; omega)⟩) (fun τ hτ => ?_)
  obtain ⟨⟨c1, c2⟩, hfr⟩ := hτ
  refine pq_layAll6 hb hk1 hn.2 hT hd hok 16 0 τ hfr (by decide) (by rw [wn_0]; omega) ⟨by rw [c1], fun j hj => ?_, fun c hc => ?_⟩ (fun p hp => ?_)
  · rw [wn_0] at hj; omega
  · rw [c2 c hc]
    refine ⟨fun _ j hj => ?_, fun _ => rfl⟩
    rw [wn_0] at hj; omega
  · rw [wn_0] at hp; omega
theorem pq_mayBe {k1 : Nat} {σ : wc_S} (hJ : q78 σ) (hT : qT σ) {p : Int32} (hp : 0 ≤ p.toInt ∧ p.toInt ≤ 9) : pk (wf_M_mayBe k1 p σ) (fun r => ((r.1 = 1 ∧ qM σ p.toInt (σ k1 (p.toInt - 1).toNat).toInt.toNat (σ k1 p.toInt.toNat).toInt.toNat) ∨ (r.1 = 0 ∧ ¬ qM σ p.toInt (σ k1 (p.toInt - 1).toNat).toInt.toNat (σ k1 p.toInt.toNat).toInt.toNat)) ∧ r.2 = σ) := by
  refine same_q (fun x e => wr_M_mayBe k1 p σ x e) (fun _ _ h => h) ?_
  have hc := hT.2.1
  unfold wf_M_mayBe
  refine pk_g (fun _ => pk_e (fun v2 e2 => pk_g (fun _ => pk_e (fun v4 e4 => ?_))))
  rw [wn_tn] at e2
  rw [wn_tn, ← hc 6 _ (by omega) (by omega)] at e4
  rw [← e2]
  refine pk_i (fun h4 => ?_) (fun h4 => pk_s (Or.inr ⟨rfl, fun q => h4 ?_⟩))
  · rw [e4, wn_le] at h4
    refine pk_i (fun h0 => pk_s (Or.inl ⟨rfl, h4, Or.inl ?_⟩)) (fun h0 => ?_)
    · rw [h0]; rfl
    · rw [wn_eq, wn_0] at h0
      refine pk_e (fun v7 e7 => pk_g (fun _ => pk_e (fun v9 e9 => ?_)))
      have h7 : v7.toInt = p.toInt - 1 := by rw [e7]; exact wn_dn hp.1 (by omega)
      rw [wn_tn, h7] at e9
      rw [← e9]
      refine pk_b2 (pq_M_jumpOf hJ hT v9 v2) (fun r11 σ10 hq => ?_)
      obtain ⟨q1, q2⟩ := hq
      have q1 : r11 = qj σ v9.toInt.toNat v2.toInt.toNat := q1
      have q2 : σ10 = σ := q2
      subst q2
      have pj : r11 = -1 ∨ (0 ≤ r11.toInt ∧ r11.toInt ≤ 20000) := by rw [q1]; exact qj_pos hT _ _
      refine pk_i (fun h11 => ?_) (fun h11 => pk_s (Or.inr ⟨rfl, fun q => ?_⟩))
      · rw [wn_le, wn_0] at h11
        have nj : qj σ10 v9.toInt.toNat v2.toInt.toNat ≠ -1 := by
          rw [← q1]; intro q; rw [q, wn_m1] at h11; omega
        refine pk_e (fun v13 e13 => ?_)
        rw [← hT.1.2.1] at e13
        refine pk_i (fun h13 => pk_g (fun _ => pk_e (fun v16 e16 => pk_g (fun _ => pk_e (fun v18 e18 => ?_))))) (fun h13 => pk_g (fun _ => pk_e (fun v16 e16 => pk_g (fun _ => pk_e (fun v18 e18 => ?_)))))
        · rw [wn_tn, ← hc 2 _ (by omega) (by omega)] at e16 e18
          rw [e13, wn_le] at h13
          refine pk_i (fun h => pk_s (Or.inr ⟨rfl, fun q => ?_⟩)) (fun h => pk_s (Or.inl ⟨rfl, h4, Or.inr ⟨nj, fun q => by omega, fun _ => ?_⟩⟩))
          · have := (q.2.resolve_left h0).2.2 (by omega)
            rw [wn_lt, e16, e18] at h; omega
          · rw [wn_lt, e16, e18] at h; omega
        · rw [wn_tn, ← hc 2 _ (by omega) (by omega)] at e16 e18
          rw [e13, wn_le] at h13
          refine pk_i (fun h => pk_s (Or.inr ⟨rfl, fun q => ?_⟩)) (fun h => pk_s (Or.inl ⟨rfl, h4, Or.inr ⟨nj, fun _ => ?_, fun q => by omega⟩⟩))
          · have := (q.2.resolve_left h0).2.1 (by omega)
            rw [wn_lt, e16, e18] at h; omega
          · rw [wn_lt, e16, e18] at h; omega
      · rw [wn_le, wn_0] at h11
        exact (q.2.resolve_left h0).1 (q1 ▸ pj.resolve_right (by omega))
  · rw [e4, wn_le]; exact q.1
theorem pq_isGood2 {k1 : Nat} {σ : wc_S} (hJ : wJ 0 σ) (hT : qT σ) : ∀ (n : Nat) (x2 : Int32), 0 ≤ x2.toInt → x2.toInt ≤ (σ 71 1).toInt → (∀ p : Nat, (p : Int) < x2.toInt → qMd σ (σ k1) p) → pk (wf_M_isGood_2 k1 n x2 σ) (fun r => (r.1 = 1 ∧ ∀ p : Nat, (p : Int) < (σ 71 1).toInt → qMd σ (σ k1) p) ∨ (r.1 = 0 ∧ ∃ p : Nat, (p : Int) < (σ 71 1).toInt ∧ ¬ qMd σ (σ k1) p)) := by
  have hm := i_m hJ
  intro n
  induction n with
  | zero => intro x2 _ _ _; exact pk_n
  | succ n ih =>
    intro x2 g0 g1 hg
    show pk (wf_M_isGood_2_b k1 (wf_M_isGood_2 k1 n) x2 σ) _
    unfold wf_M_isGood_2_b
    refine pk_e (fun v1 e1 => pk_i (fun hc => pk_s (Or.inl ⟨rfl, fun p hp => hg p ?_⟩)) (fun hc => ?_))
    · rw [e1, wn_le] at hc; omega
    · rw [e1, wn_le] at hc
      have hup : (x2 + 1).toInt = x2.toInt + 1 := wn_up g0 (by omega)
      have hmd : qM σ x2.toInt (σ k1 (x2.toInt - 1).toNat).toInt.toNat (σ k1 x2.toInt.toNat).toInt.toNat ↔ qMd σ (σ k1) x2.toInt.toNat := by
        unfold qMd
        rw [show ((x2.toInt.toNat : Nat) : Int) = x2.toInt by omega, show (x2.toInt - 1).toNat = x2.toInt.toNat - 1 by omega]
      refine pk_b2 (pq_mayBe (k1 := k1) (j78 hJ) hT ⟨g0, by omega⟩) (fun r4 σ3 hq => ?_)
      obtain ⟨hq, hq2⟩ := hq
      have hq2 : σ3 = σ := hq2
      subst hq2
      rcases hq with ⟨q1, q2⟩ | ⟨q1, q2⟩
      · have q1 : r4 = 1 := q1
        rw [q1, if_neg (by decide)]
        refine pk_e (fun v6 e6 => ?_)
        rw [e6]
        refine ih (x2 + 1) (by omega) (by omega) (fun p hp => ?_)
        by_cases hp3 : (p : Int) < x2.toInt
        · exact hg p hp3
        · rw [show p = x2.toInt.toNat by omega]; exact hmd.1 q2
      · have q1 : r4 = 0 := q1
        rw [q1, if_pos rfl]
        exact pk_s (Or.inr ⟨rfl, x2.toInt.toNat, by omega, fun q => q2 (hmd.2 q)⟩)
theorem pq_isGood {k1 : Nat} {σ : wc_S} (hJ : wJ 0 σ) (hT : qT σ) : pk (wf_M_isGood k1 σ) (fun r => ((r.1 = 1 ∧ ∀ p : Nat, (p : Int) < (σ 71 1).toInt → qMd σ (σ k1) p) ∨ (r.1 = 0 ∧ ∃ p : Nat, (p : Int) < (σ 71 1).toInt ∧ ¬ qMd σ (σ k1) p)) ∧ r.2 = σ) := by
  refine same_q (fun x e => wr_M_isGood k1 σ x e) (fun _ _ h => h) ?_
  have hm := i_m hJ
  exact pq_isGood2 hJ hT 16 0 (by decide) (by rw [wn_0]; omega) (fun p hp => by rw [wn_0] at hp; omega)
theorem pq_stands2 {σ : wc_S} (c : Int32) (x2 : Int32) (h9 : x2.toInt ≤ 9) : ∀ (n : Nat) (x3 : Int32), 0 ≤ x3.toInt → x3.toInt ≤ x2.toInt → (∀ j : Nat, (j : Int) < x3.toInt → σ 86 j ≠ c) → pk (wf_M_stands_2 n c x2 x3 σ) (fun r => (r.1 = 1 ∧ ∃ j : Nat, (j : Int) < x2.toInt ∧ σ 86 j = c) ∨ (r.1 = 0 ∧ ∀ j : Nat, (j : Int) < x2.toInt → σ 86 j ≠ c)) := by
  intro n
  induction n with
  | zero => intro x3 _ _ _; exact pk_n
  | succ n ih =>
    intro x3 g0 g1 hg
    show pk (wf_M_stands_2_b (wf_M_stands_2 n) c x2 x3 σ) _
    unfold wf_M_stands_2_b
    refine pk_i (fun hc => pk_s (Or.inr ⟨rfl, fun j hj => hg j ?_⟩)) (fun hc => ?_)
    · rw [wn_le] at hc; omega
    · rw [wn_le] at hc
      have hup : (x3 + 1).toInt = x3.toInt + 1 := wn_up g0 (by omega)
      refine pk_g (fun _ => pk_e (fun v3 e3 => ?_))
      rw [wn_tn] at e3
      refine pk_i (fun h3 => pk_s (Or.inl ⟨rfl, x3.toInt.toNat, by omega, e3 ▸ h3⟩)) (fun h3 => pk_e (fun v5 e5 => ?_))
      rw [e5]
      refine ih (x3 + 1) (by omega) (by omega) (fun j hj => ?_)
      by_cases hj3 : (j : Int) < x3.toInt
      · exact hg j hj3
      · rw [show j = x3.toInt.toNat by omega, ← e3]; exact h3
theorem pq_stands {σ : wc_S} (c : Int32) (p : Int32) (h : 0 ≤ p.toInt ∧ p.toInt ≤ 9) : pk (wf_M_stands c p σ) (fun r => ((r.1 = 1 ∧ ∃ j : Nat, (j : Int) < p.toInt ∧ σ 86 j = c) ∨ (r.1 = 0 ∧ ∀ j : Nat, (j : Int) < p.toInt → σ 86 j ≠ c)) ∧ r.2 = σ) := by
  refine same_q (fun x e => wr_M_stands c p σ x e) (fun _ _ h => h) ?_
  exact pq_stands2 c p h.2 16 0 (by decide) (by rw [wn_0]; omega) (fun j hj => by rw [wn_0] at hj; omega)
theorem pq_tell108 : ∀ (n : Nat) (x4 : Int32) (σ : wc_S), pk (wf_M_tell_108 n x4 σ) (fun τ => τ 71 0 = σ 71 0) := by
  intro n
  induction n with
  | zero => intro x4 σ; exact pk_n
  | succ n ih =>
    intro x4 σ
    show pk (wf_M_tell_108_b (wf_M_tell_108 n) x4 σ) _
    unfold wf_M_tell_108_b
    refine pk_e (fun v8 e8 => pk_i (fun _ => pk_s rfl) (fun _ => pk_g (fun _ => pk_e (fun v11 e11 => pk_g (fun _ => pk_e (fun σ13 e13 => pk_e (fun v14 e14 => ?_)))))))
    refine pk_mono (ih v14 σ13) (fun τ hτ => ?_)
    rw [hτ, e13, wu_other (Or.inl (by decide))]
theorem pq_tell92 (s1 s2 : Int32) (σ : wc_S) : pk (wf_M_tell_92 s1 s2 σ) (fun τ => τ 71 0 = if s1 = 0 then 1 else if s2 = 0 then 2 else 0) := by
  unfold wf_M_tell_92
  rw [e_goes]
  by_cases h1 : s1 = 0
  · rw [if_pos h1, if_pos h1, b2s, if_pos rfl]; exact pk_s wu_same
  · rw [if_neg h1, if_neg h1]
    by_cases h2 : s2 = 0
    · rw [if_pos h2, if_pos h2, b2s, if_pos rfl]; exact pk_s wu_same
    · rw [if_neg h2, if_neg h2, if_neg (by decide), b2s, if_neg (by decide)]
      refine pk_e (fun σ7 e7 => pk_mono (pq_tell108 16 0 σ7) (fun τ hτ => ?_))
      rw [hτ, e7, wu_other (Or.inr (by decide)), wu_same]
/-- what is told are coils, each once -/
def qKn (x : Int64) (N : Int) : Prop := ∀ p : Nat, (p : Int) < N → qOK (qd x) N p
def qGd (σ : wc_S) (x : Int64) (N : Int) : Prop := ∀ p : Nat, (p : Int) < N → qMd σ (qd x) p
theorem pq_tell5 (x : Int64) {σ0 : wc_S} (hJ0 : wJ 0 σ0) (hT0 : qT σ0) : ∀ (n : Nat) (x3 x4 : Int32) (σ : wc_S), (∀ k i, k ≠ 86 → σ k i = σ0 k i) → 0 ≤ x4.toInt → x4.toInt ≤ (σ0 71 1).toInt → (∀ j : Nat, (j : Int) < x4.toInt → σ 86 j = qd x j) → ((x3 = 1 ∧ ∀ p : Nat, (p : Int) < x4.toInt → qOK (qd x) (σ0 71 1).toInt p) ∨ (x3 = 0 ∧ ∃ p : Nat, (p : Int) < x4.toInt ∧ ¬ qOK (qd x) (σ0 71 1).toInt p)) → pk (wf_M_tell_5 n x x3 x4 σ) (fun τ => (qKn x (σ0 71 1).toInt → qGd σ0 x (σ0 71 1).toInt → τ 71 0 = 0) ∧ (qKn x (σ0 71 1).toInt → ¬ qGd σ0 x (σ0 71 1).toInt → τ 71 0 = 2) ∧ (¬ qKn x (σ0 71 1).toInt → τ 71 0 = 1)) := by
  have hm := i_m hJ0
  intro n
  induction n with
  | zero => intro x3 x4 σ _ _ _ _ _; exact pk_n
  | succ n ih =>
    intro x3 x4 σ hs g0 g1 ht hkn
    show pk (wf_M_tell_5_b (wf_M_tell_5 n) x x3 x4 σ) _
    unfold wf_M_tell_5_b
    have h1 : σ 71 1 = σ0 71 1 := hs 71 1 (by decide)
    have hJ : wJ 0 σ := by
      intro k i
      by_cases h : k = 86
      · subst h; exact wJ_o (by decide)
      · rw [hs k i h]; exact hJ0 k i
    have hD : ∀ k i, qD k i → σ k i = σ0 k i := fun k i hk => hs k i (by unfold qD at hk; omega)
    have hT : qT σ := qT_keep hD hT0
    refine pk_e (fun v1 e1 => pk_i (fun hc => ?_) (fun hc => ?_))
    · rw [e1, h1, wn_le] at hc
      have eN : x4.toInt = (σ0 71 1).toInt := by omega
      rcases hkn with ⟨rfl, hk⟩ | ⟨rfl, hk⟩
      · rw [if_neg (by decide)]
        have known : qKn x (σ0 71 1).toInt := fun p hp => hk p (by omega)
        have hgd : (∀ p : Nat, (p : Int) < (σ 71 1).toInt → qMd σ (σ 86) p) ↔ qGd σ0 x (σ0 71 1).toInt := by
          unfold qGd
          rw [h1]
          have ee : ∀ p : Nat, (p : Int) < (σ0 71 1).toInt → (qMd σ (σ 86) p ↔ qMd σ0 (qd x) p) := by
            intro p hp
            unfold qMd
            rw [qM_eq hD, ht p (by omega), ht (p - 1) (by omega)]
          exact ⟨fun q p hp => (ee p hp).1 (q p hp), fun q p hp => (ee p hp).2 (q p hp)⟩
        refine pk_b2 (pq_isGood (k1 := 86) hJ hT) (fun r16 σ15 hq => ?_)
        obtain ⟨hq, hq2⟩ := hq
        rcases hq with ⟨q1, q2⟩ | ⟨q1, p, q2, q3⟩
        · have q1 : r16 = 1 := q1
          rw [q1, if_neg (by decide)]
          refine pk_mono (pq_tell92 1 1 σ15) (fun τ hτ => ?_)
          rw [if_neg (by decide), if_neg (by decide)] at hτ
          exact ⟨fun _ _ => hτ, fun _ h => absurd (hgd.1 q2) h, fun h => absurd known h⟩
        · have q1 : r16 = 0 := q1
          rw [q1, if_pos rfl]
          refine pk_mono (pq_tell92 1 0 σ15) (fun τ hτ => ?_)
          rw [if_neg (by decide), if_pos rfl] at hτ
          exact ⟨fun _ h => absurd (hgd.2 h p q2) q3, fun _ _ => hτ, fun h => absurd known h⟩
      · rw [if_pos rfl]
        obtain ⟨p, hp, hnp⟩ := hk
        have nk : ¬ qKn x (σ0 71 1).toInt := fun q => hnp (q p (by omega))
        refine pk_mono (pq_tell92 0 0 σ) (fun τ hτ => ?_)
        rw [if_pos rfl] at hτ
        exact ⟨fun h _ => absurd h nk, fun h _ => absurd h nk, fun _ => hτ⟩
    · rw [e1, h1, wn_le] at hc
      have hup : (x4 + 1).toInt = x4.toInt + 1 := wn_up g0 (by omega)
      refine pk_e (fun v18 e18 => pk_e (fun v19 e19 => pk_e (fun v20 e20 => pk_e (fun v21 e21 => ?_))))
      have h21 : v21 = qd x x4.toInt.toNat := by
        rw [e21, e20, e19, e18]
        unfold qd
        rw [← qof g0]
      refine pk_g (fun _ => pk_e (fun σ23 e23 => pk_g (fun _ => pk_e (fun v25 e25 => pk_e (fun v26 e26 => ?_)))))
      have h25 : v25 = qd x x4.toInt.toNat := by rw [e25, e23, wu_same, h21]
      have hs' : ∀ k i, k ≠ 86 → σ23 k i = σ0 k i := fun k i hk => by rw [e23, wu_other (Or.inl hk)]; exact hs k i hk
      have ht' : ∀ j : Nat, (j : Int) < (x4 + 1).toInt → σ23 86 j = qd x j := by
        intro j hj
        by_cases hj2 : (j : Int) < x4.toInt
        · rw [e23, wu_other (Or.inr (by rw [wn_tn]; omega))]; exact ht j hj2
        · rw [e23, wn_tn, show j = x4.toInt.toNat by omega, wu_same, h21]
      rw [hs' 71 1 (by decide)] at e26
      have bad : ¬ qOK (qd x) (σ0 71 1).toInt x4.toInt.toNat → pk (wf_M_tell_62 (wf_M_tell_5 n) x x4 σ23) (fun τ => (qKn x (σ0 71 1).toInt → qGd σ0 x (σ0 71 1).toInt → τ 71 0 = 0) ∧ (qKn x (σ0 71 1).toInt → ¬ qGd σ0 x (σ0 71 1).toInt → τ 71 0 = 2) ∧ (¬ qKn x (σ0 71 1).toInt → τ 71 0 = 1)) := by
        intro hb
        unfold wf_M_tell_62 wf_M_tell_64
        refine pk_e (fun v28 e28 => ?_)
        rw [e28]
        exact ih 0 (x4 + 1) σ23 hs' (by omega) (by omega) ht' (Or.inr ⟨rfl, x4.toInt.toNat, by omega, hb⟩)
      refine pk_i (fun h26 => ?_) (fun h26 => ?_)
      · rw [e26, h25, wn_le] at h26
        exact bad (fun q => by have := q.1; omega)
      · rw [e26, h25, wn_le] at h26
        refine pk_g (fun _ => pk_e (fun v30 e30 => ?_))
        have h30 : v30 = qd x x4.toInt.toNat := by rw [e30, e23, wu_same, h21]
        refine pk_b2 (pq_stands v30 x4 ⟨g0, by omega⟩) (fun r32 σ31 hq => ?_)
        obtain ⟨hq, hq2⟩ := hq
        have hq2 : σ31 = σ23 := hq2
        subst hq2
        rcases hq with ⟨q1, j, q2, q3⟩ | ⟨q1, q2⟩
        · have q1 : r32 = 1 := q1
          rw [q1, if_neg (by decide)]
          refine bad (fun q => q.2 j (by omega) ?_)
          rw [← ht' j (by omega), q3, h30]
        · have q1 : r32 = 0 := q1
          rw [q1, if_pos rfl]
          unfold wf_M_tell_64
          refine pk_e (fun v28 e28 => ?_)
          rw [e28]
          refine ih x3 (x4 + 1) σ31 hs' (by omega) (by omega) ht' ?_
          rcases hkn with ⟨k1, k2⟩ | ⟨k1, p, k2, k3⟩
          · refine Or.inl ⟨k1, fun p hp => ?_⟩
            by_cases hp2 : (p : Int) < x4.toInt
            · exact k2 p hp2
            · rw [show p = x4.toInt.toNat by omega]
              refine ⟨by omega, fun i hi => ?_⟩
              have := q2 i (by omega)
              rw [ht' i (by omega), h30] at this
              exact this
          · exact Or.inr ⟨k1, p, by omega, k3⟩
theorem pq_Mtell (x : Int64) {σ : wc_S} (hJ : wJ 0 σ) (hT : qT σ) : pk (wf_M_tell x σ) (fun τ => (qKn x (σ 71 1).toInt → qGd σ x (σ 71 1).toInt → τ 71 0 = 0) ∧ (qKn x (σ 71 1).toInt → ¬ qGd σ x (σ 71 1).toInt → τ 71 0 = 2) ∧ (¬ qKn x (σ 71 1).toInt → τ 71 0 = 1)) := by
  have hm := i_m hJ
  exact pq_tell5 x hJ hT 16 1 0 σ (fun _ _ _ => rfl) (by decide) (by rw [wn_0]; omega) (fun j hj => by rw [wn_0] at hj; omega) (Or.inl ⟨rfl, fun p hp => by rw [wn_0] at hp; omega⟩)
theorem pq_Ktell (x : Int64) {σ : wc_S} (hJ : wJ 0 σ) (hT : qT σ) : pk (wf_K_tell x σ) (fun r => (qKn x (σ 1 10).toInt → qGd σ x (σ 1 10).toInt → r.1 = 0) ∧ (qKn x (σ 1 10).toInt → ¬ qGd σ x (σ 1 10).toInt → r.1 = 2) ∧ (¬ qKn x (σ 1 10).toInt → r.1 = 1)) := by
  have hn := i_n hJ
  unfold wf_K_tell wf_W_tell
  refine pk_ctv (Q := fun q => (∃ u, q = .inr u ∧ qKn x (σ 1 10).toInt ∧ qGd σ x (σ 1 10).toInt) ∨ (∃ u, q = .inl (3, u) ∧ qKn x (σ 1 10).toInt ∧ ¬ qGd σ x (σ 1 10).toInt) ∨ (∃ u, q = .inl (0, u) ∧ ¬ qKn x (σ 1 10).toInt)) ?_ ?_ ?_
  · refine pk_b2 (o := wf_W_readIntoScratch x σ) (pq_read x (σ0 := σ) hn.2.1 16 0 0 σ (fun _ _ _ => rfl) (by decide) (by rw [wn_0]; omega) (fun p hp => by rw [wn_0] at hp; omega) (fun p hp => by rw [wn_0] at hp; omega) (fun c hc => ?_)) (fun r2 σ1 hq => ?_)
    · refine ⟨fun q => ?_, fun q => ?_⟩
      · have : (0 : Int32).toBitVec.getLsbD c = false := by simp
        rw [this] at q; cases q
      · obtain ⟨j, hj, _⟩ := q
        rw [wn_0] at hj; omega
    · obtain ⟨hs, hq⟩ := hq
      have hs : ∀ k i, k ≠ 70 → σ1 k i = σ k i := hs
      rcases hq with ⟨q1, q2, q3⟩ | ⟨q1, p, q2, q3⟩
      · have q1 : r2 = 1 := q1
        have q3 : ∀ j : Nat, (j : Int) < (σ 1 10).toInt → σ1 70 j = qd x j := q3
        rw [q1, if_neg (by decide)]
        have h1 : σ1 1 10 = σ 1 10 := hs 1 10 (by decide)
        have hD : ∀ k i, qD k i → σ1 k i = σ k i := fun k i hk => hs k i (by unfold qD at hk; omega)
        have hT1 : qT σ1 := qT_keep hD hT
        have hgd : ∀ p, qMd σ1 (qd x) p ↔ qMd σ (qd x) p := fun p => qM_eq hD _ _ _
        refine pk_b2 (pq_layAll (b := 30) (k1 := 70) (Or.inl rfl) (Or.inr rfl) (d := qd x) (by rw [h1]; omega) hT1 (by rw [h1]; exact q3) (by rw [h1]; exact fun p hp => ⟨(qd_pos x p (by omega)).1, q2 p hp⟩)) (fun r5 σ4 hq => ?_)
        obtain ⟨hs4, hq⟩ := hq
        rw [h1] at hq
        rcases hq with ⟨w1, w2⟩ | ⟨w1, p, w2, w3⟩
        · have w1 : r5 = 1 := w1
          rw [w1, if_neg (by decide)]
          exact pk_b2 (Q := fun _ => True) (fun _ _ => trivial) (fun r8 σ7 _ => pk_e (fun σ9 e9 => pk_s (Or.inl ⟨σ9, rfl, q2, fun p hp => (hgd p).1 (w2 p hp)⟩)))
        · have w1 : r5 = 0 := w1
          rw [w1, if_pos rfl]
          exact pk_s (Or.inr (Or.inl ⟨σ4, rfl, q2, fun h => w3 ((hgd p).2 (h p w2))⟩))
      · have q1 : r2 = 0 := q1
        rw [q1, if_pos rfl]
        exact pk_s (Or.inr (Or.inr ⟨σ1, rfl, fun h => q3 (h p q2)⟩))
  · intro k u hq
    rcases hq with ⟨v, hq, _⟩ | ⟨v, hq, h1, h2⟩ | ⟨v, hq, h1⟩
    · cases hq
    · cases hq
      exact pk_s ⟨fun _ h => absurd h h2, fun _ _ => rfl, fun h => absurd h1 h⟩
    · cases hq
      exact pk_s ⟨fun h => absurd h h1, fun h => absurd h h1, fun _ => rfl⟩
  · intro u hq
    rcases hq with ⟨v, hq, h1, h2⟩ | ⟨v, hq, _⟩ | ⟨v, hq, _⟩
    · cases hq
      exact pk_s ⟨fun _ _ => rfl, fun _ h => absurd h2 h, fun h => absurd h1 h⟩
    · cases hq
    · cases hq
theorem tQ_tell {x : Int64} {σ : wc_S} (hσ : wQ σ) : wk (wf_K_tell x σ) (fun r => wJ 0 r.2 ∧ wk (wf_M_tell x r.2) (fun τ => wQ τ ∧ τ 71 0 = r.1)) := by
  obtain ⟨q, e, h, hx⟩ := wk_pk (tI_K_tell (a1 := x) hσ) (pq_Ktell x hσ.1 hσ.2)
  have hw := wr_K_tell x σ q e
  refine ⟨q, e, h.1, ?_⟩
  obtain ⟨y, e2, h2, hy⟩ := wk_pk (tI_M_tell (a1 := x) h) (pq_Mtell x h.1 h.2)
  refine ⟨y, e2, h2, ?_⟩
  have hD : ∀ k i, qD k i → q.2 k i = σ k i := fun k i hd => hw k i (fun z => by unfold wS_K_tell at z; unfold qD at hd; omega)
  have e71 : q.2 71 1 = σ 1 10 := by rw [hD 71 1 (by unfold qD; omega)]; exact hσ.2.1.1.symm
  have hg : qGd q.2 x (σ 1 10).toInt ↔ qGd σ x (σ 1 10).toInt := by
    unfold qGd
    have ee : ∀ p, qMd q.2 (qd x) p ↔ qMd σ (qd x) p := fun p => qM_eq hD _ _ _
    exact ⟨fun z p hp => (ee p).1 (z p hp), fun z p hp => (ee p).2 (z p hp)⟩
  rw [e71, hg] at hy
  by_cases k : qKn x (σ 1 10).toInt
  · by_cases g : qGd σ x (σ 1 10).toInt
    · rw [hy.1 k g, hx.1 k g]
    · rw [hy.2.1 k g, hx.2.1 k g]
  · rw [hy.2.2 k, hx.2.2 k]
