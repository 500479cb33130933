/-! jump and bound: class and model -/
def wR_jump (a b n : Int32) : Int32 := if a < 0 ∨ ¬ a < n then 1 else if b < 0 ∨ ¬ b < n then 1 else if a = b then 1 else 0
theorem qP_at {σ : wc_S} (hn : (σ 1 10).toInt ≤ 9) (hT : qT σ) {a b : Int32} (ha : ¬ (a < 0 ∨ ¬ a < σ 1 10)) (hb : ¬ (b < 0 ∨ ¬ b < σ 1 10)) : σ (9 + a.toNatClampNeg) b.toNatClampNeg = qj σ a.toInt.toNat b.toInt.toNat := by
  rw [not_or, Decidable.not_not, wn_lt, wn_lt, wn_0] at ha hb
  rw [wn_tn, wn_tn]
  exact hT.2.2.2.2 _ _ (by omega) (by omega) (by omega)
theorem pq_Kjump (a b : Int32) {σ : wc_S} (hJ : wJ 0 σ) (hT : qT σ) : pk (wf_K_jump a b σ) (fun r => r.1 = wR_jump a b (σ 1 10) ∧ (r.1 = 0 → r.2 88 0 = qj σ a.toInt.toNat b.toInt.toNat)) := by
  unfold wf_K_jump wf_W_jump wR_jump
  rw [e_noCoil, b2s]
  by_cases h : a < 0 ∨ ¬ a < σ 1 10
  · rw [if_pos h, if_pos h, if_neg (by decide)]
    exact pk_s ⟨rfl, fun h => absurd (show (1 : Int32) = 0 from h) (by decide)⟩
  · rw [if_neg h, if_neg h, if_pos rfl, e_noCoil, b2s]
    by_cases h2 : b < 0 ∨ ¬ b < σ 1 10
    · rw [if_pos h2, if_pos h2, if_neg (by decide)]
      exact pk_s ⟨rfl, fun h => absurd (show (1 : Int32) = 0 from h) (by decide)⟩
    · rw [if_neg h2, if_neg h2, if_pos rfl]
      by_cases h3 : a = b
      · rw [if_pos h3, if_pos h3]
        exact pk_s ⟨rfl, fun h => absurd (show (1 : Int32) = 0 from h) (by decide)⟩
      · rw [if_neg h3, if_neg h3]
        refine pk_cti (Q := fun q => q = .inr (qj σ a.toInt.toNat b.toInt.toNat, σ)) ?_ (fun k u hq => by cases hq) (fun r u hq => ?_)
        · exact pk_g (fun _ => pk_g (fun _ => pk_e (fun v10 e10 => pk_s (by rw [e10, qP_at (i_n hJ).2.1 hT h h2]))))
        · cases hq
          exact pk_g (fun _ => pk_s ⟨rfl, fun _ => show wc_u σ 88 0 _ 88 0 = _ from wu_same⟩)
theorem pq_Mjump (a b : Int32) {σ : wc_S} (hJ : wJ 0 σ) (hT : qT σ) : pk (wf_M_jump a b σ) (fun r => r.2 71 0 = wR_jump a b (σ 71 1) ∧ (r.2 71 0 = 0 → r.1 = qj σ a.toInt.toNat b.toInt.toNat)) := by
  have no : pk (wf_M_jump_26 a b σ) (fun r => r.2 71 0 = 1 ∧ (r.2 71 0 = 0 → r.1 = qj σ a.toInt.toNat b.toInt.toNat)) := by
    unfold wf_M_jump_26 wf_M_jump_27
    rw [e_goes, if_pos rfl, b2s, if_pos rfl]
    exact pk_s ⟨rfl, fun h => absurd (show (1 : Int32) = 0 from h) (by decide)⟩
  unfold wf_M_jump wR_jump
  rw [e_isCoil hJ, b2s]
  by_cases h : a < 0 ∨ ¬ a < σ 71 1
  · rw [if_pos h, if_pos h, if_pos rfl]; exact no
  · rw [if_neg h, if_neg h, if_neg (by decide), e_isCoil hJ, b2s]
    by_cases h2 : b < 0 ∨ ¬ b < σ 71 1
    · rw [if_pos h2, if_pos h2, if_pos rfl]; exact no
    · rw [if_neg h2, if_neg h2, if_neg (by decide)]
      by_cases h3 : a = b
      · rw [if_pos h3, if_pos h3]; exact no
      · rw [if_neg h3, if_neg h3]
        unfold wf_M_jump_27
        rw [e_goes, if_neg (by decide), if_neg (by decide), if_neg (by decide), b2s, if_neg (by decide)]
        have hT' : qT (wc_u σ 71 0 0) := qT_keep (fun k i hd => wu_other (by unfold qD at hd; omega)) hT
        have hJ' : wJ 0 (wc_u σ 71 0 0) := u_71 hJ (by decide) (by decide)
        refine pk_b2 (pq_M_jumpOf (j78 hJ') hT' a b) (fun r u hq => ?_)
        obtain ⟨q1, q2⟩ := hq
        have q2 : u = wc_u σ 71 0 0 := q2
        refine pk_s ⟨by show u 71 0 = 0; rw [q2]; exact wu_same, fun _ => ?_⟩
        exact q1.trans (qj_eq (fun k i hk => wu_other (by omega)) _ _)
theorem tQ_jump {a b : Int32} {σ : wc_S} (hσ : wQ σ) : wk (wf_K_jump a b σ) (fun r => wJ 0 r.2 ∧ wk (wf_M_jump a b r.2) (fun s => wQ s.2 ∧ s.2 71 0 = r.1 ∧ (r.1 = 0 → s.2 88 0 = s.1))) := by
  obtain ⟨x, e, h, hx⟩ := wk_pk (tI_K_jump (a1 := a) (a2 := b) hσ) (pq_Kjump a b hσ.1 hσ.2)
  have hw := wr_K_jump a b σ x e
  refine ⟨x, e, h.1, ?_⟩
  obtain ⟨y, e2, h2, hy⟩ := wk_pk (tI_M_jump (a1 := a) (a2 := b) h) (pq_Mjump a b h.1 h.2)
  have hw2 := wr_M_jump a b x.2 y e2
  have hr : y.2 71 0 = x.1 := by rw [hy.1, hx.1, ← h.2.1.1, hw 1 10 (fun q => by unfold wS_K_jump at q; omega)]
  refine ⟨y, e2, h2, hr, fun h0 => ?_⟩
  rw [hw2 88 0 (fun q => by unfold wS_M_jump at q; omega), hx.2 h0, hy.2 (hr.trans h0)]
  exact (qj_eq (fun k i hk => hw k i (fun q => by unfold wS_K_jump at q; omega)) _ _).symm
/-- the least of m jumps from a on, of those that there are; -1 where there is none -/
def qL (J : Nat → Int32) (s : Nat) : Nat → Nat → Int32 → Int32
  | 0, _, l => l
  | m + 1, a, l => if a = s then qL J s m (a + 1) l else if J a = -1 then qL J s m (a + 1) l else if l = -1 then qL J s m (a + 1) (J a) else if l ≤ J a then qL J s m (a + 1) l else qL J s m (a + 1) (J a)
def qZ (l : Int32) : Int32 := if l = -1 then 0 else l
theorem pq_least {σ : wc_S} (hJ : wJ 0 σ) (hT : qT σ) (x1 : Int32) (h1 : 0 ≤ x1.toInt) (h2 : x1.toInt < (σ 1 10).toInt) : ∀ (n : Nat) (x2 x3 : Int32), 0 ≤ x3.toInt → x3.toInt ≤ (σ 1 10).toInt → pk (wf_P_leastJumpTo_4 n x1 x2 x3 σ) (fun r => r.1 = qZ (qL (fun a => qj σ a x1.toInt.toNat) x1.toInt.toNat ((σ 1 10).toInt - x3.toInt).toNat x3.toInt.toNat x2)) := by
  have hn := i_n hJ
  intro n
  induction n with
  | zero => intro x2 x3 _ _; exact pk_n
  | succ n ih =>
    intro x2 x3 g0 g1
    show pk (wf_P_leastJumpTo_4_b (wf_P_leastJumpTo_4 n) x1 x2 x3 σ) _
    unfold wf_P_leastJumpTo_4_b
    refine pk_e (fun v1 e1 => pk_i (fun hc => ?_) (fun hc => ?_))
    · rw [e1, wn_le] at hc
      rw [show ((σ 1 10).toInt - x3.toInt).toNat = 0 by omega]
      show pk _ (fun r : Int32 × wc_S => r.1 = if x2 = -1 then 0 else x2)
      by_cases hz : x2 = -1
      · rw [if_pos hz, if_pos hz]; exact pk_s rfl
      · rw [if_neg hz, if_neg hz]; exact pk_s rfl
    · rw [e1, wn_le] at hc
      have hup : (x3 + 1).toInt = x3.toInt + 1 := wn_up g0 (by omega)
      have key := fun x2 => ih x2 (x3 + 1) (by omega) (by omega)
      have hm : ((σ 1 10).toInt - x3.toInt).toNat = ((σ 1 10).toInt - (x3 + 1).toInt).toNat + 1 := by omega
      have hr : x3.toInt.toNat + 1 = (x3 + 1).toInt.toNat := by omega
      rw [hm]
      unfold qL
      rw [hr]
      refine pk_g (fun _ => pk_g (fun _ => pk_e (fun v6 e6 => ?_)))
      have e6' : v6 = qj σ x3.toInt.toNat x1.toInt.toNat := by
        rw [e6]
        refine qP_at (i_n hJ).2.1 hT ?_ ?_
        · rw [not_or, Decidable.not_not, wn_lt, wn_lt, wn_0]; omega
        · rw [not_or, Decidable.not_not, wn_lt, wn_lt, wn_0]; omega
      have ex : (x3 = x1) ↔ (x3.toInt.toNat = x1.toInt.toNat) := by rw [wn_eq]; omega
      refine pk_i (fun h3 => ?_) (fun h3 => ?_)
      · rw [if_pos (ex.1 h3)]; exact key x2
      · rw [if_neg (fun q => h3 (ex.2 q)), ← e6']
        refine pk_i (fun h4 => ?_) (fun h4 => ?_)
        · rw [if_pos h4]; exact key x2
        · rw [if_neg h4]
          refine pk_i (fun h5 => ?_) (fun h5 => ?_)
          · rw [if_pos h5]; exact key v6
          · rw [if_neg h5]
            refine pk_i (fun h6 => ?_) (fun h6 => ?_)
            · rw [if_pos h6]; exact key x2
            · rw [if_neg h6]; exact key v6
/-- the sum of m bounds from c on, less the greatest -/
def qS (J : Nat → Nat → Int32) (N : Nat) : Nat → Nat → Int32 → Int32 → Int32
  | 0, _, s, g => s - g
  | m + 1, c, s, g => qS J N m (c + 1) (s + qZ (qL (fun a => J a c) c N 0 (-1))) (if g < qZ (qL (fun a => J a c) c N 0 (-1)) then qZ (qL (fun a => J a c) c N 0 (-1)) else g)
theorem pq_W_bound_6 {σ : wc_S} (hJ : wJ 0 σ) (hT : qT σ) : ∀ (n : Nat) (x1 x2 x3 : Int32), 0 ≤ x3.toInt → x3.toInt ≤ (σ 1 10).toInt → pk (wf_W_bound_6 n x1 x2 x3 σ) (fun r => r.1 = qS (qj σ) (σ 1 10).toInt.toNat ((σ 1 10).toInt - x3.toInt).toNat x3.toInt.toNat x1 x2) := by
  have hn := i_n hJ
  intro n
  induction n with
  | zero => intro x1 x2 x3 _ _; exact pk_n
  | succ n ih =>
    intro x1 x2 x3 g0 g1
    show pk (wf_W_bound_6_b (wf_W_bound_6 n) x1 x2 x3 σ) _
    unfold wf_W_bound_6_b
    refine pk_e (fun v1 e1 => pk_i (fun hc => ?_) (fun hc => ?_))
    · rw [e1, wn_le] at hc
      rw [show ((σ 1 10).toInt - x3.toInt).toNat = 0 by omega]
      exact pk_e (fun v3 e3 => pk_s e3)
    · rw [e1, wn_le] at hc
      have hup : (x3 + 1).toInt = x3.toInt + 1 := wn_up g0 (by omega)
      have hm : ((σ 1 10).toInt - x3.toInt).toNat = ((σ 1 10).toInt - (x3 + 1).toInt).toNat + 1 := by omega
      have hr : x3.toInt.toNat + 1 = (x3 + 1).toInt.toNat := by omega
      rw [hm]
      unfold qS
      rw [hr]
      have hl := pq_least hJ hT x3 g0 (by omega) 16 (-1) 0 (by rw [wn_0]; omega) (by rw [wn_0]; omega)
      rw [wn_0] at hl
      have hl2 : pk (wf_P_leastJumpTo x3 σ) _ := same_q (fun x e => wr_P_leastJumpTo x3 σ x e) (fun _ _ h => h) hl
      refine pk_b2 hl2 (fun r5 σ4 hq => ?_)
      obtain ⟨q1, q2⟩ := hq
      have q2 : σ4 = σ := q2
      have q1 : r5 = qZ (qL (fun a => qj σ a x3.toInt.toNat) x3.toInt.toNat (σ 1 10).toInt.toNat 0 (-1)) := by simpa using q1
      subst q2
      refine pk_e (fun v6 e6 => pk_e (fun v7 e7 => pk_e (fun v8 e8 => ?_)))
      have key := ih v6 v7 (x3 + 1) (by omega) (by omega)
      rw [e8, ← q1, ← e6, ← e7]
      exact key
theorem pq_Wbound {σ : wc_S} (hJ : wJ 0 σ) (hT : qT σ) : pk (wf_W_bound σ) (fun r => r.1 = qS (qj σ) (σ 1 10).toInt.toNat (σ 1 10).toInt.toNat 0 0 0) := by
  have hn := i_n hJ
  have := pq_W_bound_6 hJ hT 16 0 0 0 (by rw [wn_0]; omega) (by rw [wn_0]; omega)
  rw [wn_0] at this
  unfold wf_W_bound
  simpa using this
theorem pq_Mb25 {σ : wc_S} (hJ : wJ 0 σ) (hT : qT σ) {P : Int32 × wc_S → Prop} {k11 : Int32 → Int32 → Int32 → wc_S → Option (Int32 × wc_S)} (x1 x2 x3 : Int32) (h1 : 0 ≤ x3.toInt) (h2 : x3.toInt < (σ 71 1).toInt) (l : Int32) (hk : ∀ v, v.toInt = x3.toInt + 1 → pk (k11 (x1 + l) (if x2 < l then l else x2) v σ) P) : ∀ (n : Nat) (x4 x5 : Int32), 0 ≤ x5.toInt → x5.toInt ≤ (σ 71 1).toInt → (x4 = -1 ∨ 0 ≤ x4.toInt) → qZ (qL (fun a => qj σ a x3.toInt.toNat) x3.toInt.toNat ((σ 71 1).toInt - x5.toInt).toNat x5.toInt.toNat x4) = l → pk (wf_M_bound_25 k11 n x1 x2 x3 x4 x5 σ) P := by
  have hn := i_m hJ
  intro n
  induction n with
  | zero => intro x4 x5 _ _ _ _; exact pk_n
  | succ n ih =>
    intro x4 x5 g0 g1 gx hl
    show pk (wf_M_bound_25_b k11 (wf_M_bound_25 k11 n) x1 x2 x3 x4 x5 σ) _
    unfold wf_M_bound_25_b
    refine pk_e (fun v1 e1 => pk_i (fun hc => ?_) (fun hc => ?_))
    · rw [e1, wn_le] at hc
      rw [show ((σ 71 1).toInt - x5.toInt).toNat = 0 by omega] at hl
      have fin : pk (wf_M_bound_87 k11 x1 x2 x3 l σ) P := by
        unfold wf_M_bound_87
        refine pk_e (fun v8 e8 => ?_)
        unfold wf_M_bound_101
        have hh := hk (x3 + 1) (wn_up h1 (by omega))
        refine pk_i (fun hc => pk_e (fun v10 e10 => ?_)) (fun hc => pk_e (fun v10 e10 => ?_))
        · rw [if_neg (by rw [wn_lt]; rw [wn_le] at hc; omega)] at hh
          rw [e8, e10]; exact hh
        · rw [if_pos (by rw [wn_lt]; rw [wn_le] at hc; omega)] at hh
          rw [e8, e10]; exact hh
      have hl : (if x4 = -1 then 0 else x4) = l := hl
      refine pk_i (fun h4 => ?_) (fun h4 => ?_)
      · rw [wn_le, wn_0] at h4
        rw [if_neg (by intro q; rw [q, wn_m1] at h4; omega)] at hl
        rw [hl]; exact fin
      · rw [wn_le, wn_0] at h4
        rw [if_pos (gx.resolve_right h4)] at hl
        rw [hl]; exact fin
    · rw [e1, wn_le] at hc
      have hup : (x5 + 1).toInt = x5.toInt + 1 := wn_up g0 (by omega)
      have hm : ((σ 71 1).toInt - x5.toInt).toNat = ((σ 71 1).toInt - (x5 + 1).toInt).toNat + 1 := by omega
      have hr : x5.toInt.toNat + 1 = (x5 + 1).toInt.toNat := by omega
      have key := fun x4 => ih x4 (x5 + 1) (by omega) (by omega)
      rw [hm] at hl
      unfold qL at hl
      rw [hr] at hl
      have ex : (x5 = x3) ↔ (x5.toInt.toNat = x3.toInt.toNat) := by rw [wn_eq]; omega
      refine pk_i (fun h3 => ?_) (fun h3 => ?_)
      · rw [if_pos (ex.1 h3)] at hl; exact key x4 gx hl
      · rw [if_neg (fun q => h3 (ex.2 q))] at hl
        refine pk_b2 (pq_M_jumpOf (j78 hJ) hT x5 x3) (fun r13 σ12 hq => ?_)
        obtain ⟨q1, q2⟩ := hq
        have q2 : σ12 = σ := q2
        have q1 : r13 = qj σ x5.toInt.toNat x3.toInt.toNat := q1
        subst q2
        rw [← q1] at hl
        have pj : r13 = -1 ∨ (0 ≤ r13.toInt ∧ r13.toInt ≤ 20000) := by rw [q1]; exact qj_pos hT _ _
        refine pk_i (fun h4 => ?_) (fun h4 => ?_)
        · rw [wn_lt, wn_0] at h4
          rw [if_pos (pj.resolve_right (by omega))] at hl; exact key x4 gx hl
        · rw [wn_lt, wn_0] at h4
          have nj : ¬ r13 = -1 := by intro q; rw [q, wn_m1] at h4; omega
          have p13 : r13 = -1 ∨ 0 ≤ r13.toInt := Or.inr (pj.resolve_left nj).1
          rw [if_neg nj] at hl
          refine pk_i (fun h5 => ?_) (fun h5 => ?_)
          · rw [wn_lt, wn_0] at h5
            rw [if_pos (gx.resolve_right (by omega))] at hl; exact key r13 p13 hl
          · rw [wn_lt, wn_0] at h5
            rw [if_neg (by intro q; rw [q, wn_m1] at h5; omega)] at hl
            refine pk_i (fun h6 => ?_) (fun h6 => ?_)
            · rw [if_pos h6] at hl; exact key x4 gx hl
            · rw [if_neg h6] at hl; exact key r13 p13 hl
theorem pq_Mb11 {σ : wc_S} (hJ : wJ 0 σ) (hT : qT σ) : ∀ (n : Nat) (x1 x2 x3 : Int32), 0 ≤ x3.toInt → x3.toInt ≤ (σ 71 1).toInt → pk (wf_M_bound_11 n x1 x2 x3 σ) (fun r => r.1 = qS (qj σ) (σ 71 1).toInt.toNat ((σ 71 1).toInt - x3.toInt).toNat x3.toInt.toNat x1 x2) := by
  have hn := i_m hJ
  intro n
  induction n with
  | zero => intro x1 x2 x3 _ _; exact pk_n
  | succ n ih =>
    intro x1 x2 x3 g0 g1
    show pk (wf_M_bound_11_b (wf_M_bound_11 n) x1 x2 x3 σ) _
    unfold wf_M_bound_11_b
    refine pk_e (fun v1 e1 => pk_i (fun hc => ?_) (fun hc => ?_))
    · rw [e1, wn_le] at hc
      rw [show ((σ 71 1).toInt - x3.toInt).toNat = 0 by omega]
      exact pk_e (fun v3 e3 => pk_s e3)
    · rw [e1, wn_le] at hc
      have hup : (x3 + 1).toInt = x3.toInt + 1 := wn_up g0 (by omega)
      have hm : ((σ 71 1).toInt - x3.toInt).toNat = ((σ 71 1).toInt - (x3 + 1).toInt).toNat + 1 := by omega
      have hr : x3.toInt.toNat + 1 = (x3 + 1).toInt.toNat := by omega
      rw [hm]
      unfold qS
      rw [hr]
      refine pq_Mb25 hJ hT x1 x2 x3 g0 (by omega) (qZ (qL (fun a => qj σ a x3.toInt.toNat) x3.toInt.toNat (σ 71 1).toInt.toNat 0 (-1))) (fun v hv => ?_) 16 (-1) 0 (by rw [wn_0]; omega) (by rw [wn_0]; omega) (Or.inl rfl) (by rw [wn_0]; simp)
      have ev : v = x3 + 1 := wn_eq.2 (by omega)
      rw [ev]
      exact ih _ _ (x3 + 1) (by omega) (by omega)
theorem pq_Mbound {σ : wc_S} (hJ : wJ 0 σ) (hT : qT σ) : pk (wf_M_bound σ) (fun r => r.1 = qS (qj σ) (σ 71 1).toInt.toNat (σ 71 1).toInt.toNat 0 0 0) := by
  unfold wf_M_bound
  refine pk_e (fun σ1 e1 => ?_)
  have hn := i_m hJ
  have hT' : qT σ1 := by rw [e1]; exact qT_keep (fun k i hd => wu_other (by unfold qD at hd; omega)) hT
  have hJ' : wJ 0 σ1 := by rw [e1]; exact u_71 hJ (by decide) (by decide)
  have e71 : σ1 71 1 = σ 71 1 := by rw [e1]; exact wu_other (by decide)
  have := pq_Mb11 hJ' hT' 16 0 0 0 (by rw [wn_0]; omega) (by rw [wn_0, e71]; omega)
  have ej : qj σ1 = qj σ := funext fun a => funext fun b => qj_eq (fun k i hk => by rw [e1]; exact wu_other (by omega)) a b
  rw [wn_0, e71, ej] at this
  simpa using this
theorem tQ_bound {σ : wc_S} (hσ : wQ σ) : wk (wf_W_bound σ) (fun r => wJ 0 r.2 ∧ wk (wf_M_bound r.2) (fun s => wQ s.2 ∧ s.1 = r.1)) := by
  obtain ⟨x, e, h, hx⟩ := wk_pk (tI_W_bound hσ) (pq_Wbound hσ.1 hσ.2)
  have hw : x.2 = σ := wr_same (wr_W_bound σ x e) (fun _ _ h => h)
  refine ⟨x, e, h.1, ?_⟩
  obtain ⟨y, e2, h2, hy⟩ := wk_pk (tI_M_bound h) (pq_Mbound h.1 h.2)
  refine ⟨y, e2, h2, ?_⟩
  rw [hy, hx, hw, ← hσ.2.1.1]
/-! tell: what is told, place by place; good orders -/
theorem qb_l (s : BitVec 32) (c : Nat) (hc : c < 16) : (s.sshiftRight c).getLsbD 0 = s.getLsbD c := by
  rw [BitVec.getLsbD_sshiftRight]
  simp
  intro h; omega
theorem qbit (s : Int32) (c : Nat) (hc : c < 16) : (((s >>> ((Int32.ofNat c) &&& 31)) &&& 1) = 1) ↔ s.toBitVec.getLsbD c = true := by
  have h : ∀ c : Nat, c < 16 → ((Int32.ofNat c &&& 31).toBitVec.smod 32).toNat = c := by decide
  have e : ((s >>> ((Int32.ofNat c) &&& 31)) &&& 1).toBitVec = (s.toBitVec.sshiftRight c) &&& 1#32 := by
    rw [Int32.toBitVec_and, Int32.toBitVec_shiftRight]
    show BitVec.sshiftRight _ _ &&& _ = _
    rw [h c hc]; rfl
  rw [← Int32.toBitVec_inj, e]
  show _ = 1#32 ↔ _
  rw [← qb_l _ c hc]
  constructor
  · intro q
    have := congrArg (fun b => BitVec.getLsbD b 0) q
    simp only [BitVec.getLsbD_and] at this
    simpa using this
  · intro q
    apply BitVec.eq_of_getLsbD_eq
    intro i hi
    rw [BitVec.getLsbD_and]
    by_cases h0 : i = 0
    · subst h0; rw [q]; rfl
    · simp [BitVec.getLsbD_one, h0]
theorem qbit_or (s : Int32) (v c : Nat) (hv : v < 16) : (s ||| ((1 : Int32) <<< (Int32.ofNat v &&& 31))).toBitVec.getLsbD c = (s.toBitVec.getLsbD c || decide (c = v)) := by
  have h : ∀ v : Nat, v < 16 → ((1 : Int32) <<< (Int32.ofNat v &&& 31)).toBitVec = BitVec.twoPow 32 v := by decide
  rw [Int32.toBitVec_or, BitVec.getLsbD_or, h v hv, BitVec.getLsbD_twoPow]
  congr 1
  by_cases e : v = c
  · subst e; simp; omega
  · have : ¬ c = v := fun q => e q.symm
    simp [e, this]
theorem qdig (x : Int64) (k : Nat) (hk : k < 9) : (((x.toUInt64 >>> (((4 : Int32) * Int32.ofNat k).toInt64.toUInt64 &&& Int64.toUInt64 63)).toInt64.toInt32) &&& 15) = ((x >>> (((4 : Int32) * Int32.ofNat k).toInt64 &&& 63)) &&& 15).toInt32 := by
  have h1 : ∀ k : Nat, k < 9 → ((((4 : Int32) * Int32.ofNat k).toInt64.toUInt64 &&& Int64.toUInt64 63).toBitVec % 64).toNat = 4 * k := by decide
  have h2 : ∀ k : Nat, k < 9 → ((((4 : Int32) * Int32.ofNat k).toInt64 &&& 63).toBitVec.smod 64).toNat = 4 * k := by decide
  rw [← Int32.toBitVec_inj, Int32.toBitVec_and, Int64.toBitVec_toInt32, Int64.toBitVec_toInt32, Int64.toBitVec_and]
  show BitVec.signExtend 32 (x.toUInt64 >>> _).toBitVec &&& _ = _
  rw [UInt64.toBitVec_shiftRight, Int64.toBitVec_shiftRight]
  show BitVec.signExtend 32 (BitVec.ushiftRight _ _) &&& 15#32 = BitVec.signExtend 32 (BitVec.sshiftRight _ _ &&& 15#64)
  rw [h1 k hk, h2 k hk]
  show BitVec.signExtend 32 (BitVec.ushiftRight x.toBitVec (4 * k)) &&& 15#32 = BitVec.signExtend 32 (BitVec.sshiftRight x.toBitVec (4 * k) &&& 15#64)
  apply BitVec.eq_of_getLsbD_eq
  intro i hi
  have f : ∀ i : Nat, i < 32 → (15#32).getLsbD i = decide (i < 4) ∧ (15#64).getLsbD i = decide (i < 4) := by decide
  rw [BitVec.getLsbD_and, (f i hi).1, BitVec.getLsbD_signExtend, BitVec.getLsbD_signExtend]
  have hi64 : i < 64 := by omega
  simp only [hi, hi64, decide_true, Bool.true_and, if_true]
  rw [BitVec.getLsbD_and, (f i hi).2]
  by_cases h4 : i < 4
  · rw [BitVec.getLsbD_sshiftRight]
    show (BitVec.getLsbD (x.toBitVec >>> (4 * k)) i && _) = _
    rw [BitVec.getLsbD_ushiftRight]
    have : 4 * k + i < 64 := by omega
    have hn : ¬ 64 ≤ i := by omega
    simp [this, hn]
  · simp [h4]
theorem qof {x : Int32} (h : 0 ≤ x.toInt) : x = Int32.ofNat x.toInt.toNat := by
  have hu := Int32.toInt_lt x
  rw [wn_eq, Int32.toInt_ofNat']
  have : ((x.toInt.toNat : Nat) : Int).bmod 4294967296 = x.toInt := by
    rw [Int.bmod_eq_of_le (by omega) (by omega)]; omega
  exact this.symm
/-- the p-th coil that is told -/
def qd (x : Int64) (p : Nat) : Int32 := ((x >>> (((4 : Int32) * Int32.ofNat p).toInt64 &&& 63)) &&& 15).toInt32
theorem qd_pos (x : Int64) (p : Nat) (hp : p < 9) : 0 ≤ (qd x p).toInt ∧ (qd x p).toInt ≤ 15 := by
  unfold qd
  rw [← qdig x p hp]
  exact wn_15 _
def qOK (d : Nat → Int32) (N : Int) (p : Nat) : Prop := (d p).toInt < N ∧ ∀ i, i < p → d i ≠ d p
theorem pq_read (x : Int64) {σ0 : wc_S} (hN : (σ0 1 10).toInt ≤ 9) : ∀ (n : Nat) (x3 x4 : Int32) (σ : wc_S), (∀ k i, k ≠ 70 → σ k i = σ0 k i) → 0 ≤ x4.toInt → x4.toInt ≤ (σ0 1 10).toInt → (∀ p : Nat, (p : Int) < x4.toInt → qOK (qd x) (σ0 1 10).toInt p) → (∀ j : Nat, (j : Int) < x4.toInt → σ 70 j = qd x j) → (∀ c : Nat, c < 16 → (x3.toBitVec.getLsbD c = true ↔ ∃ j : Nat, (j : Int) < x4.toInt ∧ (qd x j).toInt = c)) → pk (wf_W_readIntoScratch_5 n x x3 x4 σ) (fun r => (∀ k i, k ≠ 70 → r.2 k i = σ0 k i) ∧ ((r.1 = 1 ∧ (∀ p : Nat, (p : Int) < (σ0 1 10).toInt → qOK (qd x) (σ0 1 10).toInt p) ∧ (∀ j : Nat, (j : Int) < (σ0 1 10).toInt → r.2 70 j = qd x j)) ∨ (r.1 = 0 ∧ ∃ p : Nat, (p : Int) < (σ0 1 10).toInt ∧ ¬ qOK (qd x) (σ0 1 10).toInt p))) := by
  intro n
  induction n with
  | zero => intro x3 x4 σ _ _ _ _ _ _; exact pk_n
  | succ n ih =>
    intro x3 x4 σ hs g0 g1 hok hsc hbits
    show pk (wf_W_readIntoScratch_5_b (wf_W_readIntoScratch_5 n) x x3 x4 σ) _
    unfold wf_W_readIntoScratch_5_b
    have h1 : σ 1 10 = σ0 1 10 := hs 1 10 (by decide)
    refine pk_e (fun v1 e1 => pk_i (fun hc => ?_) (fun hc => ?_))
    · rw [e1, h1, wn_le] at hc
      exact pk_s ⟨hs, Or.inl ⟨rfl, fun p hp => hok p (by omega), fun j hj => hsc j (by omega)⟩⟩
    · rw [e1, h1, wn_le] at hc
      have hup : (x4 + 1).toInt = x4.toInt + 1 := wn_up g0 (by omega)
      refine pk_e (fun v3 e3 => pk_e (fun v4 e4 => pk_e (fun v5 e5 => pk_e (fun v6 e6 => ?_))))
      have b6 : 0 ≤ v6.toInt ∧ v6.toInt ≤ 15 := by rw [e6]; exact wn_15 _
      have h6 : v6 = qd x x4.toInt.toNat := by
        rw [e6, e5, e4, e3]
        have := qdig x x4.toInt.toNat (by omega)
        rw [← qof g0] at this
        rw [this]
        unfold qd
        rw [← qof g0]
      rw [e_noCoil, b2s]
      by_cases hco : v6 < 0 ∨ ¬ v6 < σ 1 10
      · rw [if_pos hco, if_neg (by decide)]
        refine pk_s ⟨hs, Or.inr ⟨rfl, x4.toInt.toNat, by omega, fun q => ?_⟩⟩
        have q1 := q.1
        rw [← h6] at q1
        rw [wn_lt, wn_lt, wn_0, h1] at hco
        omega
      · rw [if_neg hco, if_pos rfl]
        rw [not_or, Decidable.not_not, wn_lt, wn_lt, wn_0, h1] at hco
        refine pk_e (fun v10 e10 => pk_e (fun v11 e11 => ?_))
        have hb := qbit x3 v6.toInt.toNat (by omega)
        rw [← qof b6.1, ← e10, ← e11, hbits v6.toInt.toNat (by omega)] at hb
        refine pk_i (fun hs1 => ?_) (fun hs1 => ?_)
        · obtain ⟨j, hj, ej⟩ := hb.1 hs1
          refine pk_s ⟨hs, Or.inr ⟨rfl, x4.toInt.toNat, by omega, fun q => ?_⟩⟩
          refine q.2 j (by omega) ?_
          rw [← h6, wn_eq]; omega
        · have hno : ∀ j : Nat, (j : Int) < x4.toInt → qd x j ≠ v6 := by
            intro j hj q
            exact hs1 (hb.2 ⟨j, hj, by rw [q]; omega⟩)
          refine pk_e (fun v13 e13 => pk_e (fun v14 e14 => pk_g (fun _ => pk_e (fun σ16 e16 => pk_e (fun v17 e17 => ?_)))))
          have e17' : v17.toInt = x4.toInt + 1 := by rw [e17]; exact hup
          refine ih v14 v17 σ16 (fun k i hk => ?_) (by omega) (by omega) (fun p hp => ?_) (fun j hj => ?_) (fun c hc16 => ?_)
          · rw [e16, wu_other (Or.inl hk)]; exact hs k i hk
          · by_cases hp2 : (p : Int) < x4.toInt
            · exact hok p hp2
            · have ep : p = x4.toInt.toNat := by omega
              rw [ep]
              refine ⟨by rw [← h6]; omega, fun i hi => ?_⟩
              rw [← h6]; exact hno i (by omega)
          · by_cases hj2 : (j : Int) < x4.toInt
            · rw [e16, wu_other (Or.inr (by rw [wn_tn]; omega))]; exact hsc j hj2
            · have ep : j = x4.toInt.toNat := by omega
              rw [e16, ep, wn_tn, wu_same, h6]
          · have := qbit_or x3 v6.toInt.toNat c (by omega)
            rw [← qof b6.1, ← e13, ← e14] at this
            rw [this, Bool.or_eq_true, decide_eq_true_eq, hbits c hc16]
            constructor
            · intro q
              rcases q with ⟨j, hj, ej⟩ | q
              · exact ⟨j, by omega, ej⟩
              · exact ⟨x4.toInt.toNat, by omega, by rw [← h6]; omega⟩
            · rintro ⟨j, hj, ej⟩
              by_cases hj2 : (j : Int) < x4.toInt
              · exact Or.inl ⟨j, hj2, ej⟩
              · have ep : j = x4.toInt.toNat := by omega
                rw [ep, ← h6] at ej
                exact Or.inr (by omega)
/-- coil c may come behind coil a at place p -/
def qF (σ : wc_S) (p : Int) (a c : Nat) : Prop := qj σ a c ≠ -1 ∧ (p < (σ 1 11).toInt → (σ 2 a).toInt ≤ (σ 2 c).toInt) ∧ (¬ p < (σ 1 11).toInt → (σ 2 c).toInt ≤ (σ 2 a).toInt)
def qM (σ : wc_S) (p : Int) (a c : Nat) : Prop := p ≤ (σ 6 c).toInt ∧ (p = 0 ∨ qF σ p a c)
theorem qM_eq {σ τ : wc_S} (h : ∀ k i, qD k i → τ k i = σ k i) (p : Int) (a c : Nat) : qM τ p a c ↔ qM σ p a c := by
  unfold qM qF
  rw [h 6 c (by unfold qD; omega), h 2 a (by unfold qD; omega), h 2 c (by unfold qD; omega), h 1 11 (by unfold qD; omega), qj_eq (σ := σ) (τ := τ) (fun k i hk => h k i (by unfold qD; omega))]
theorem pq_mayFollow {b : Nat} {σ : wc_S} (hJ : (σ 1 10).toInt ≤ 9) (hT : qT σ) {a c : Int32} (ha : 0 ≤ a.toInt ∧ a.toInt < (σ 1 10).toInt) (hc : 0 ≤ c.toInt ∧ c.toInt < (σ 1 10).toInt) : pk (wf_L_mayFollow b a c σ) (fun r => (r.1 = 1 ∧ qF σ (σ b 9).toInt a.toInt.toNat c.toInt.toNat) ∨ (r.1 = 0 ∧ ¬ qF σ (σ b 9).toInt a.toInt.toNat c.toInt.toNat)) := by
  unfold wf_L_mayFollow
  have hb := hT.2.2.2.1
  have w1 := (hb a.toInt.toNat).1
  have w2 := (hb c.toInt.toNat).1
  refine pk_g (fun _ => pk_g (fun _ => pk_e (fun v3 e3 => ?_)))
  rw [qP_at hJ hT (by rw [not_or, Decidable.not_not, wn_lt, wn_lt, wn_0]; omega) (by rw [not_or, Decidable.not_not, wn_lt, wn_lt, wn_0]; omega)] at e3
  refine pk_i (fun h3 => pk_s (Or.inr ⟨rfl, fun q => q.1 (e3 ▸ h3)⟩)) (fun h3 => ?_)
  refine pk_g (fun _ => pk_e (fun v6 e6 => pk_g (fun _ => pk_e (fun v8 e8 => pk_e (fun v9 e9 => pk_e (fun v10 e10 => pk_e (fun v11 e11 => ?_)))))))
  rw [wn_tn] at e6 e8
  have h9 : v9.toInt = (σ 2 c.toInt.toNat).toInt - (σ 2 a.toInt.toNat).toInt := by rw [e9, e6, e8]; exact wn_sub (by omega) (by omega)
  rw [e3] at h3
  refine pk_i (fun h4 => ?_) (fun h4 => ?_)
  · rw [e10, e11, wn_le] at h4
    refine pk_i (fun h5 => pk_s (Or.inr ⟨rfl, fun q => ?_⟩)) (fun h5 => pk_s (Or.inl ⟨rfl, h3, fun q => by omega, fun _ => ?_⟩))
    · rw [wn_lt, wn_0] at h5
      have := q.2.2 (by omega)
      omega
    · rw [wn_lt, wn_0] at h5; omega
  · rw [e10, e11, wn_le] at h4
    refine pk_i (fun h5 => pk_s (Or.inr ⟨rfl, fun q => ?_⟩)) (fun h5 => pk_s (Or.inl ⟨rfl, h3, fun _ => ?_, fun q => by omega⟩))
    · rw [wn_lt, wn_0] at h5
      have := q.2.1 (by omega)
      omega
    · rw [wn_lt, wn_0] at h5; omega
/-- mayPut, on the line at b: the coil ahead is the last that was put -/
theorem pq_mayPut {b : Nat} {σ : wc_S} (hJ : (σ 1 10).toInt ≤ 9) (hT : qT σ) {c : Int32} (hl : 0 ≤ (σ b 9).toInt ∧ (σ b 9).toInt ≤ 9) (hc : 0 ≤ c.toInt ∧ c.toInt < (σ 1 10).toInt) (ha : 0 < (σ b 9).toInt → 0 ≤ (σ (b + 1) ((σ b 9).toInt - 1).toNat).toInt ∧ (σ (b + 1) ((σ b 9).toInt - 1).toNat).toInt < (σ 1 10).toInt) : pk (wf_L_mayPut b c σ) (fun r => ((r.1 = 1 ∧ σ (b + 2) c.toInt.toNat = 0 ∧ qM σ (σ b 9).toInt (σ (b + 1) ((σ b 9).toInt - 1).toNat).toInt.toNat c.toInt.toNat) ∨ (r.1 = 0 ∧ ¬ (σ (b + 2) c.toInt.toNat = 0 ∧ qM σ (σ b 9).toInt (σ (b + 1) ((σ b 9).toInt - 1).toNat).toInt.toNat c.toInt.toNat))) ∧ r.2 = σ) := by
  refine same_q (fun x e => wr_L_mayPut b c σ x e) (fun _ _ h => h) ?_
  unfold wf_L_mayPut
  refine pk_g (fun _ => pk_e (fun v2 e2 => ?_))
  rw [wn_tn] at e2
  refine pk_i (fun h2 => ?_) (fun h2 => pk_s (Or.inr ⟨rfl, fun q => h2 (e2 ▸ q.1)⟩))
  rw [e2] at h2
  refine pk_e (fun v4 e4 => pk_g (fun _ => pk_e (fun v6 e6 => ?_)))
  rw [wn_tn] at e6
  refine pk_i (fun h6 => ?_) (fun h6 => pk_s (Or.inr ⟨rfl, fun q => h6 ?_⟩))
  · rw [e4, e6, wn_le] at h6
    refine pk_e (fun v8 e8 => ?_)
    refine pk_i (fun h8 => pk_s (Or.inl ⟨rfl, h2, h6, Or.inl ?_⟩)) (fun h8 => ?_)
    · rw [e8, wn_eq, wn_0] at h8; exact h8
    · rw [e8, wn_eq, wn_0] at h8
      refine pk_e (fun v10 e10 => pk_e (fun v11 e11 => pk_g (fun _ => pk_e (fun v13 e13 => ?_))))
      have h11 : v11.toInt = (σ b 9).toInt - 1 := by rw [e11, e10]; exact wn_dn hl.1 (by omega)
      rw [wn_tn, h11] at e13
      have ha' := ha (by omega)
      rw [← e13] at ha' ⊢
      refine pk_b2 (pq_mayFollow (b := b) hJ hT ha' hc) (fun r15 σ14 hq => ?_)
      rcases hq with ⟨q1, q2⟩ | ⟨q1, q2⟩
      · have q1 : r15 = 1 := q1
        rw [q1, if_neg (by decide)]
        exact pk_s (Or.inl ⟨rfl, h2, h6, Or.inr q2⟩)
      · have q1 : r15 = 0 := q1
        rw [q1, if_pos rfl]
        exact pk_s (Or.inr ⟨rfl, fun q => q2 (q.2.2.resolve_left h8)⟩)
  · rw [e4, e6, wn_le]; exact q.2.1
/-- put: the line is longer by the coil -/
theorem pq_put {b : Nat} {c : Int32} {σ : wc_S} : pk (wf_L_put b c σ) (fun τ => τ b 9 = σ b 9 + 1 ∧ (∀ i, τ (b + 1) i = if i = (σ b 9).toNatClampNeg then c else σ (b + 1) i) ∧ (∀ i, τ (b + 2) i = if i = c.toNatClampNeg then 1 else σ (b + 2) i)) := by
  have key : ∀ s, pk (wf_L_put_20 b c s σ) (fun τ => τ b 9 = σ b 9 + 1 ∧ (∀ i, τ (b + 1) i = if i = (σ b 9).toNatClampNeg then c else σ (b + 1) i) ∧ (∀ i, τ (b + 2) i = if i = c.toNatClampNeg then 1 else σ (b + 2) i)) := by
    intro s
    unfold wf_L_put_20
    refine pk_e (fun v3 e3 => pk_g (fun _ => pk_e (fun σ5 e5 => ?_)))
    refine pk_b1 (Q := fun u => u b 9 = σ b 9 ∧ (∀ i, u (b + 1) i = σ (b + 1) i) ∧ (∀ i, u (b + 2) i = σ (b + 2) i)) (fun u eu => ?_) (fun u hu => ?_)
    · have hw := wr_L_countKilometres b c s σ5 u eu
      refine ⟨?_, fun i => ?_, fun i => ?_⟩
      · rw [hw b 9 (fun q => by unfold wS_L_countKilometres at q; omega), e5, wu_other (Or.inl (by omega))]
      · rw [hw (b + 1) i (fun q => by unfold wS_L_countKilometres at q; omega), e5, wu_other (Or.inl (by omega))]
      · rw [hw (b + 2) i (fun q => by unfold wS_L_countKilometres at q; omega), e5, wu_other (Or.inl (by omega))]
    · refine pk_b1 (Q := fun w => w b 9 = σ b 9 ∧ (∀ i, w (b + 1) i = σ (b + 1) i) ∧ (∀ i, w (b + 2) i = σ (b + 2) i)) (fun w ew => ?_) (fun w hw => ?_)
      · have hw := wr_L_countCosts b c s u w ew
        refine ⟨?_, fun i => ?_, fun i => ?_⟩
        · rw [hw b 9 (fun q => by unfold wS_L_countCosts at q; omega)]; exact hu.1
        · rw [hw (b + 1) i (fun q => by unfold wS_L_countCosts at q; omega)]; exact hu.2.1 i
        · rw [hw (b + 2) i (fun q => by unfold wS_L_countCosts at q; omega)]; exact hu.2.2 i
      · refine pk_e (fun v8 e8 => pk_g (fun _ => pk_e (fun σ10 e10 => pk_g (fun _ => pk_e (fun σ12 e12 => pk_e (fun v13 e13 => pk_e (fun v14 e14 => pk_e (fun σ15 e15 => pk_s ?_))))))))
        rw [hw.1] at e8
        have h13 : v13 = σ b 9 := by rw [e13, e12, wu_other (Or.inl (by omega)), e10, wu_other (Or.inl (by omega)), hw.1]
        refine ⟨?_, fun i => ?_, fun i => ?_⟩
        · rw [e15, wu_same, e14, h13]
        · rw [e15, wu_other (Or.inl (by omega)), e12, wu_other (Or.inl (by omega)), e10, wu_at, e8, hw.2.1]
          simp
        · rw [e15, wu_other (Or.inl (by omega)), e12, wu_at, e10, wu_other (Or.inl (by omega)), hw.2.2]
          simp
          rfl
  unfold wf_L_put
  refine pk_e (fun v1 e1 => pk_i (fun _ => key 0) (fun _ => ?_))
  refine pk_b2 (Q := fun r => r.2 = σ) (fun x e => wr_same (wr_L_isWornWith b c σ x e) (fun _ _ h => h)) (fun r u hu => ?_)
  have hu : u = σ := hu
  rw [hu]
  exact pk_i (fun _ => key 0) (fun _ => key 1)
theorem pq_clear7 {b : Nat} : ∀ (n : Nat) (x1 : Int32) (σ : wc_S), 0 ≤ x1.toInt → x1.toInt ≤ 9 → (∀ i : Nat, (i : Int) < x1.toInt → σ (b + 2) i = 0) → pk (wf_L_clear_7 b n x1 σ) (fun τ => τ b 9 = σ b 9 ∧ ∀ i, i < 9 → τ (b + 2) i = 0) := by
  intro n
  induction n with
  | zero => intro x1 σ _ _ _; exact pk_n
  | succ n ih =>
    intro x1 σ g0 g1 hz
    show pk (wf_L_clear_7_b b (wf_L_clear_7 b n) x1 σ) _
    unfold wf_L_clear_7_b
    refine pk_i (fun hc => pk_s ⟨rfl, fun i hi => hz i ?_⟩) (fun hc => ?_)
    · rw [wn_le, wn_9] at hc; omega
    · rw [wn_le, wn_9] at hc
      refine pk_g (fun _ => pk_e (fun σ4 e4 => pk_e (fun v5 e5 => ?_)))
      have h5 : v5.toInt = x1.toInt + 1 := by rw [e5]; exact wn_up g0 (by omega)
      refine pk_mono (ih v5 σ4 (by omega) (by omega) (fun i hi => ?_)) (fun τ hτ => ⟨?_, hτ.2⟩)
      · rw [e4, wu_at]
        split
        · rfl
        · rename_i hne
          exact hz i (by rw [wn_tn] at hne; omega)
      · rw [hτ.1, e4, wu_other (Or.inl (by omega))]
theorem pq_clear {b : Nat} {σ : wc_S} : pk (wf_L_clear b σ) (fun τ => τ b 9 = 0 ∧ ∀ i, i < 9 → τ (b + 2) i = 0) := by
  unfold wf_L_clear
  refine pk_e (fun σ1 e1 => pk_mono (pq_clear7 16 0 σ1 (by decide) (by decide) (fun i hi => by rw [wn_0] at hi; omega)) (fun τ hτ => ⟨?_, hτ.2⟩))
  rw [hτ.1, e1, wu_same]
/-! good orders: the class's line and the model's row -/
def qMd (σ : wc_S) (d : Nat → Int32) (p : Nat) : Prop := qM σ p (d (p - 1)).toInt.toNat (d p).toInt.toNat
def qLn (σ : wc_S) (b : Nat) (d : Nat → Int32) (p : Int) : Prop := (σ b 9).toInt = p ∧ (∀ j : Nat, (j : Int) < p → σ (b + 1) j = d j) ∧ (∀ c : Nat, c < 9 → (σ (b + 2) c = 0 ↔ ∀ j : Nat, (j : Int) < p → (d j).toInt ≠ c))
theorem qLn_put {b : Nat} {σ τ : wc_S} {d : Nat → Int32} {p : Int} {c : Int32} (h : qLn σ b d p) (hp : 0 ≤ p ∧ p < 9) (hc : 0 ≤ c.toInt ∧ c.toInt < 9) (hd : d p.toNat = c) (h1 : τ b 9 = σ b 9 + 1) (h2 : ∀ i, τ (b + 1) i = if i = (σ b 9).toNatClampNeg then c else σ (b + 1) i) (h3 : ∀ i, τ (b + 2) i = if i = c.toNatClampNeg then 1 else σ (b + 2) i) : qLn τ b d (p + 1) := by
  obtain ⟨g1, g2, g3⟩ := h
  refine ⟨?_, fun j hj => ?_, fun e he => ?_⟩
  · rw [h1, wn_up (by omega) (by omega), g1]
  · rw [h2, wn_tn, g1]
    by_cases hj2 : j = p.toNat
    · rw [if_pos hj2, hj2, hd]
    · rw [if_neg hj2]; exact g2 j (by omega)
  · rw [h3, wn_tn]
    by_cases he2 : e = c.toInt.toNat
    · rw [if_pos he2]
      refine ⟨fun q => absurd q (by decide), fun q => absurd ?_ (q p.toNat (by omega))⟩
      rw [hd]; omega
    · rw [if_neg he2, g3 e he]
      refine ⟨fun q j hj => ?_, fun q j hj => q j (by omega)⟩
      by_cases hj2 : (j : Int) < p
      · exact q j hj2
      · rw [show j = p.toNat by omega, hd]; omega
theorem pq_layAll6 {b k1 : Nat} (hb : b = 30 ∨ b = 49) (hk1 : k1 = 69 ∨ k1 = 70) {σ0 : wc_S} (hn : (σ0 1 10).toInt ≤ 9) (hT0 : qT σ0) {d : Nat → Int32} (hd : ∀ j : Nat, (j : Int) < (σ0 1 10).toInt → σ0 k1 j = d j) (hok : ∀ p : Nat, (p : Int) < (σ0 1 10).toInt → 0 ≤ (d p).toInt ∧ qOK d (σ0 1 10).toInt p) : ∀ (n : Nat) (x2 : Int32) (σ : wc_S), (∀ k i, k < b ∨ b + 18 < k → σ k i = σ0 k i) → 0 ≤ x2.toInt → x2.toInt ≤ (σ0 1 10).toInt → qLn σ b d x2.toInt → (∀ p : Nat, (p : Int) < x2.toInt → qMd σ0 d p) → pk (wf_L_layAll_6 b k1 n x2 σ) (fun r => (∀ k i, k < b ∨ b + 18 < k → r.2 k i = σ0 k i) ∧ ((r.1 = 1 ∧ ∀ p : Nat, (p : Int) < (σ0 1 10).toInt → qMd σ0 d p) ∨ (r.1 = 0 ∧ ∃ p : Nat, (p : Int) < (σ0 1 10).toInt ∧ ¬ qMd σ0 d p))) := by
  intro n
  induction n with
  | zero => intro x2 σ _ _ _ _ _; exact pk_n
  | succ n ih =>
    intro x2 σ hs g0 g1 hL hg
    show pk (wf_L_layAll_6_b b k1 (wf_L_layAll_6 b k1 n) x2 σ) _
    unfold wf_L_layAll_6_b
    have h1 : σ 1 10 = σ0 1 10 := hs 1 10 (by omega)
    have hD : ∀ k i, qD k i → σ k i = σ0 k i := fun k i hk => hs k i (by unfold qD at hk; omega)
    have hT : qT σ := qT_keep hD hT0
    refine pk_e (fun v2 e2 => pk_i (fun hc => pk_s ⟨hs, Or.inl ⟨rfl, fun p hp => hg p ?_⟩⟩) (fun hc => ?_))
    · rw [e2, h1, wn_le] at hc; omega
    · rw [e2, h1, wn_le] at hc
      refine pk_g (fun _ => pk_e (fun v5 e5 => ?_))
      rw [wn_tn, hs k1 _ (by omega), hd _ (by omega)] at e5
      have hp := hok x2.toInt.toNat (by omega)
      have hup : (x2 + 1).toInt = x2.toInt + 1 := wn_up g0 (by omega)
      have el : (σ b 9).toInt = x2.toInt := hL.1
      have hprev : 0 < (σ b 9).toInt → σ (b + 1) ((σ b 9).toInt - 1).toNat = d (x2.toInt.toNat - 1) := fun h0 => by
        rw [el, hL.2.1 _ (by omega)]
        rw [show (x2.toInt - 1).toNat = x2.toInt.toNat - 1 by omega]
      have hlt := hp.2.1
      have hst : σ (b + 2) v5.toInt.toNat = 0 := by
        rw [hL.2.2 _ (by rw [e5]; omega)]
        intro j hj q
        refine hp.2.2 j (by omega) ?_
        have hj' := hok j (by omega)
        rw [wn_eq]; rw [e5] at q; omega
      have hmd : qM σ (σ b 9).toInt (σ (b + 1) ((σ b 9).toInt - 1).toNat).toInt.toNat v5.toInt.toNat ↔ qMd σ0 d x2.toInt.toNat := by
        unfold qMd
        rw [qM_eq hD, el, e5, show ((x2.toInt.toNat : Nat) : Int) = x2.toInt by omega]
        by_cases h0 : 0 < x2.toInt
        · have hp' := hprev (by omega)
          rw [el] at hp'
          rw [hp']
        · unfold qM
          have : x2.toInt = 0 := by omega
          simp [this]
      refine pk_b2 (pq_mayPut (b := b) (c := v5) (by rw [h1]; exact hn) hT ⟨by omega, by omega⟩ (by rw [e5, h1]; omega) (fun h0 => ?_)) (fun r7 σ6 hq => ?_)
      · rw [hprev h0, h1]
        have := hok (x2.toInt.toNat - 1) (by omega)
        exact ⟨this.1, this.2.1⟩
      · obtain ⟨hq, hq2⟩ := hq
        have hq2 : σ6 = σ := hq2
        subst hq2
        rcases hq with ⟨q1, q2, q3⟩ | ⟨q1, q2⟩
        · have q1 : r7 = 1 := q1
          rw [q1, if_neg (by decide)]
          refine pk_g (fun _ => pk_e (fun v10 e10 => ?_))
          rw [wn_tn, hs k1 _ (by omega), hd _ (by omega)] at e10
          refine pk_b1 (Q := fun τ => (τ b 9 = σ6 b 9 + 1 ∧ (∀ i, τ (b + 1) i = if i = (σ6 b 9).toNatClampNeg then v10 else σ6 (b + 1) i) ∧ (∀ i, τ (b + 2) i = if i = v10.toNatClampNeg then 1 else σ6 (b + 2) i)) ∧ ∀ k i, k < b ∨ b + 18 < k → τ k i = σ6 k i) (fun τ eτ => ⟨pq_put τ eτ, fun k i hk => wr_L_put b v10 σ6 τ eτ k i (fun q => by unfold wS_L_put at q; omega)⟩) (fun τ hτ => ?_)
          obtain ⟨⟨p1, p2, p3⟩, hfr⟩ := hτ
          refine pk_e (fun v12 e12 => ?_)
          rw [e12]
          refine ih (x2 + 1) τ (fun k i hk => (hfr k i hk).trans (hs k i hk)) (by omega) (by omega) ?_ (fun p hp2 => ?_)
          · rw [hup]
            exact qLn_put hL ⟨g0, by omega⟩ (by rw [e10]; omega) e10.symm p1 p2 p3
          · by_cases hp3 : (p : Int) < x2.toInt
            · exact hg p hp3
            · rw [show p = x2.toInt.toNat by omega]; exact hmd.1 q3
        · have q1 : r7 = 0 := q1
          rw [q1, if_pos rfl]
          exact pk_s ⟨hs, Or.inr ⟨rfl, x2.toInt.toNat, by omega, fun q => q2 ⟨hst, hmd.2 q⟩⟩⟩
theorem pq_layAll {b k1 : Nat} (hb : b = 30 ∨ b = 49) (hk1 : k1 = 69 ∨ k1 = 70) {σ : wc_S} (hn : 0 ≤ (σ 1 10).toInt ∧ (σ 1 10).toInt ≤ 9) (hT : qT σ) {d : Nat → Int32} (hd : ∀ j : Nat, (j : Int) < (σ 1 10).toInt → σ k1 j = d j) (hok : ∀ p : Nat, (p : Int) < (σ 1 10).toInt → 0 ≤ (d p).toInt ∧ qOK d (σ 1 10).toInt p) : pk (wf_L_layAll b k1 σ) (fun r => (∀ k i, k < b ∨ b + 18 < k → r.2 k i = σ k i) ∧ ((r.1 = 1 ∧ ∀ p : Nat, (p : Int) < (σ 1 10).toInt → qMd σ d p) ∨ (r.1 = 0 ∧ ∃ p : Nat, (p : Int) < (σ 1 10).toInt ∧ ¬ qMd σ d p))) := by
  unfold wf_L_layAll
  refine pk_b1 (Q := fun τ => (τ b 9 = 0 ∧ ∀ i, i < 9 → τ (b + 2) i = 0) ∧ ∀ k i, k < b ∨ b + 18 < k → τ k i = σ k i) (fun τ eτ => ⟨pq_clear τ eτ, fun k i hk => wr_L_clear b σ τ eτ k i (fun q => by unfold wS_L_clear at q; omega)⟩) (fun τ hτ => ?_)
  obtain ⟨⟨c1, c2⟩, hfr⟩ := hτ
  refine pq_layAll6 hb hk1 hn.2 hT hd hok 16 0 τ hfr (by decide) (by rw [wn_0]; omega) ⟨by rw [c1], fun j hj => ?_, fun c hc => ?_⟩ (fun p hp => ?_)
  · rw [wn_0] at hj; omega
  · rw [c2 c hc]
    refine ⟨fun _ j hj => ?_, fun _ => rfl⟩
    rw [wn_0] at hj; omega
  · rw [wn_0] at hp; omega
theorem pq_mayBe {k1 : Nat} {σ : wc_S} (hJ : q78 σ) (hT : qT σ) {p : Int32} (hp : 0 ≤ p.toInt ∧ p.toInt ≤ 9) : pk (wf_M_mayBe k1 p σ) (fun r => ((r.1 = 1 ∧ qM σ p.toInt (σ k1 (p.toInt - 1).toNat).toInt.toNat (σ k1 p.toInt.toNat).toInt.toNat) ∨ (r.1 = 0 ∧ ¬ qM σ p.toInt (σ k1 (p.toInt - 1).toNat).toInt.toNat (σ k1 p.toInt.toNat).toInt.toNat)) ∧ r.2 = σ) := by
  refine same_q (fun x e => wr_M_mayBe k1 p σ x e) (fun _ _ h => h) ?_
  have hc := hT.2.1
  unfold wf_M_mayBe
  refine pk_g (fun _ => pk_e (fun v2 e2 => pk_g (fun _ => pk_e (fun v4 e4 => ?_))))
  rw [wn_tn] at e2
  rw [wn_tn, ← hc 6 _ (by omega) (by omega)] at e4
  rw [← e2]
  refine pk_i (fun h4 => ?_) (fun h4 => pk_s (Or.inr ⟨rfl, fun q => h4 ?_⟩))
  · rw [e4, wn_le] at h4
    refine pk_i (fun h0 => pk_s (Or.inl ⟨rfl, h4, Or.inl ?_⟩)) (fun h0 => ?_)
    · rw [h0]; rfl
    · rw [wn_eq, wn_0] at h0
      refine pk_e (fun v7 e7 => pk_g (fun _ => pk_e (fun v9 e9 => ?_)))
      have h7 : v7.toInt = p.toInt - 1 := by rw [e7]; exact wn_dn hp.1 (by omega)
      rw [wn_tn, h7] at e9
      rw [← e9]
      refine pk_b2 (pq_M_jumpOf hJ hT v9 v2) (fun r11 σ10 hq => ?_)
      obtain ⟨q1, q2⟩ := hq
      have q1 : r11 = qj σ v9.toInt.toNat v2.toInt.toNat := q1
      have q2 : σ10 = σ := q2
      subst q2
      have pj : r11 = -1 ∨ (0 ≤ r11.toInt ∧ r11.toInt ≤ 20000) := by rw [q1]; exact qj_pos hT _ _
      refine pk_i (fun h11 => ?_) (fun h11 => pk_s (Or.inr ⟨rfl, fun q => ?_⟩))
      · rw [wn_le, wn_0] at h11
        have nj : qj σ10 v9.toInt.toNat v2.toInt.toNat ≠ -1 := by
          rw [← q1]; intro q; rw [q, wn_m1] at h11; omega
        refine pk_e (fun v13 e13 => ?_)
        rw [← hT.1.2.1] at e13
        refine pk_i (fun h13 => pk_g (fun _ => pk_e (fun v16 e16 => pk_g (fun _ => pk_e (fun v18 e18 => ?_))))) (fun h13 => pk_g (fun _ => pk_e (fun v16 e16 => pk_g (fun _ => pk_e (fun v18 e18 => ?_)))))
        · rw [wn_tn, ← hc 2 _ (by omega) (by omega)] at e16 e18
          rw [e13, wn_le] at h13
          refine pk_i (fun h => pk_s (Or.inr ⟨rfl, fun q => ?_⟩)) (fun h => pk_s (Or.inl ⟨rfl, h4, Or.inr ⟨nj, fun q => by omega, fun _ => ?_⟩⟩))
          · have := (q.2.resolve_left h0).2.2 (by omega)
            rw [wn_lt, e16, e18] at h; omega
          · rw [wn_lt, e16, e18] at h; omega
        · rw [wn_tn, ← hc 2 _ (by omega) (by omega)] at e16 e18
          rw [e13, wn_le] at h13
          refine pk_i (fun h => pk_s (Or.inr ⟨rfl, fun q => ?_⟩)) (fun h => pk_s (Or.inl ⟨rfl, h4, Or.inr ⟨nj, fun _ => ?_, fun q => by omega⟩⟩))
          · have := (q.2.resolve_left h0).2.1 (by omega)
            rw [wn_lt, e16, e18] at h; omega
          · rw [wn_lt, e16, e18] at h; omega
      · rw [wn_le, wn_0] at h11
        exact (q.2.resolve_left h0).1 (q1 ▸ pj.resolve_right (by omega))
  · rw [e4, wn_le]; exact q.1
theorem pq_isGood2 {k1 : Nat} {σ : wc_S} (hJ : wJ 0 σ) (hT : qT σ) : ∀ (n : Nat) (x2 : Int32), 0 ≤ x2.toInt → x2.toInt ≤ (σ 71 1).toInt → (∀ p : Nat, (p : Int) < x2.toInt → qMd σ (σ k1) p) → pk (wf_M_isGood_2 k1 n x2 σ) (fun r => (r.1 = 1 ∧ ∀ p : Nat, (p : Int) < (σ 71 1).toInt → qMd σ (σ k1) p) ∨ (r.1 = 0 ∧ ∃ p : Nat, (p : Int) < (σ 71 1).toInt ∧ ¬ qMd σ (σ k1) p)) := by
  have hm := i_m hJ
  intro n
  induction n with
  | zero => intro x2 _ _ _; exact pk_n
  | succ n ih =>
    intro x2 g0 g1 hg
    show pk (wf_M_isGood_2_b k1 (wf_M_isGood_2 k1 n) x2 σ) _
    unfold wf_M_isGood_2_b
    refine pk_e (fun v1 e1 => pk_i (fun hc => pk_s (Or.inl ⟨rfl, fun p hp => hg p ?_⟩)) (fun hc => ?_))
    · rw [e1, wn_le] at hc; omega
    · rw [e1, wn_le] at hc
      have hup : (x2 + 1).toInt = x2.toInt + 1 := wn_up g0 (by omega)
      have hmd : qM σ x2.toInt (σ k1 (x2.toInt - 1).toNat).toInt.toNat (σ k1 x2.toInt.toNat).toInt.toNat ↔ qMd σ (σ k1) x2.toInt.toNat := by
        unfold qMd
        rw [show ((x2.toInt.toNat : Nat) : Int) = x2.toInt by omega, show (x2.toInt - 1).toNat = x2.toInt.toNat - 1 by omega]
      refine pk_b2 (pq_mayBe (k1 := k1) (j78 hJ) hT ⟨g0, by omega⟩) (fun r4 σ3 hq => ?_)
      obtain ⟨hq, hq2⟩ := hq
      have hq2 : σ3 = σ := hq2
      subst hq2
      rcases hq with ⟨q1, q2⟩ | ⟨q1, q2⟩
      · have q1 : r4 = 1 := q1
        rw [q1, if_neg (by decide)]
        refine pk_e (fun v6 e6 => ?_)
        rw [e6]
        refine ih (x2 + 1) (by omega) (by omega) (fun p hp => ?_)
        by_cases hp3 : (p : Int) < x2.toInt
        · exact hg p hp3
        · rw [show p = x2.toInt.toNat by omega]; exact hmd.1 q2
      · have q1 : r4 = 0 := q1
        rw [q1, if_pos rfl]
        exact pk_s (Or.inr ⟨rfl, x2.toInt.toNat, by omega, fun q => q2 (hmd.2 q)⟩)
theorem pq_isGood {k1 : Nat} {σ : wc_S} (hJ : wJ 0 σ) (hT : qT σ) : pk (wf_M_isGood k1 σ) (fun r => ((r.1 = 1 ∧ ∀ p : Nat, (p : Int) < (σ 71 1).toInt → qMd σ (σ k1) p) ∨ (r.1 = 0 ∧ ∃ p : Nat, (p : Int) < (σ 71 1).toInt ∧ ¬ qMd σ (σ k1) p)) ∧ r.2 = σ) := by
  refine same_q (fun x e => wr_M_isGood k1 σ x e) (fun _ _ h => h) ?_
  have hm := i_m hJ
  exact pq_isGood2 hJ hT 16 0 (by decide) (by rw [wn_0]; omega) (fun p hp => by rw [wn_0] at hp; omega)
theorem pq_stands2 {σ : wc_S} (c : Int32) (x2 : Int32) (h9 : x2.toInt ≤ 9) : ∀ (n : Nat) (x3 : Int32), 0 ≤ x3.toInt → x3.toInt ≤ x2.toInt → (∀ j : Nat, (j : Int) < x3.toInt → σ 86 j ≠ c) → pk (wf_M_stands_2 n c x2 x3 σ) (fun r => (r.1 = 1 ∧ ∃ j : Nat, (j : Int) < x2.toInt ∧ σ 86 j = c) ∨ (r.1 = 0 ∧ ∀ j : Nat, (j : Int) < x2.toInt → σ 86 j ≠ c)) := by
  intro n
  induction n with
  | zero => intro x3 _ _ _; exact pk_n
  | succ n ih =>
    intro x3 g0 g1 hg
    show pk (wf_M_stands_2_b (wf_M_stands_2 n) c x2 x3 σ) _
    unfold wf_M_stands_2_b
    refine pk_i (fun hc => pk_s (Or.inr ⟨rfl, fun j hj => hg j ?_⟩)) (fun hc => ?_)
    · rw [wn_le] at hc; omega
    · rw [wn_le] at hc
      have hup : (x3 + 1).toInt = x3.toInt + 1 := wn_up g0 (by omega)
      refine pk_g (fun _ => pk_e (fun v3 e3 => ?_))
      rw [wn_tn] at e3
      refine pk_i (fun h3 => pk_s (Or.inl ⟨rfl, x3.toInt.toNat, by omega, e3 ▸ h3⟩)) (fun h3 => pk_e (fun v5 e5 => ?_))
      rw [e5]
      refine ih (x3 + 1) (by omega) (by omega) (fun j hj => ?_)
      by_cases hj3 : (j : Int) < x3.toInt
      · exact hg j hj3
      · rw [show j = x3.toInt.toNat by omega, ← e3]; exact h3
theorem pq_stands {σ : wc_S} (c : Int32) (p : Int32) (h : 0 ≤ p.toInt ∧ p.toInt ≤ 9) : pk (wf_M_stands c p σ) (fun r => ((r.1 = 1 ∧ ∃ j : Nat, (j : Int) < p.toInt ∧ σ 86 j = c) ∨ (r.1 = 0 ∧ ∀ j : Nat, (j : Int) < p.toInt → σ 86 j ≠ c)) ∧ r.2 = σ) := by
  refine same_q (fun x e => wr_M_stands c p σ x e) (fun _ _ h => h) ?_
  exact pq_stands2 c p h.2 16 0 (by decide) (by rw [wn_0]; omega) (fun j hj => by rw [wn_0] at hj; omega)
theorem pq_tell108 : ∀ (n : Nat) (x4 : Int32) (σ : wc_S), pk (wf_M_tell_108 n x4 σ) (fun τ => τ 71 0 = σ 71 0) := by
  intro n
  induction n with
  | zero => intro x4 σ; exact pk_n
  | succ n ih =>
    intro x4 σ
    show pk (wf_M_tell_108_b (wf_M_tell_108 n) x4 σ) _
    unfold wf_M_tell_108_b
    refine pk_e (fun v8 e8 => pk_i (fun _ => pk_s rfl) (fun _ => pk_g (fun _ => pk_e (fun v11 e11 => pk_g (fun _ => pk_e (fun σ13 e13 => pk_e (fun v14 e14 => ?_)))))))
    refine pk_mono (ih v14 σ13) (fun τ hτ => ?_)
    rw [hτ, e13, wu_other (Or.inl (by decide))]
theorem pq_tell92 (s1 s2 : Int32) (σ : wc_S) : pk (wf_M_tell_92 s1 s2 σ) (fun τ => τ 71 0 = if s1 = 0 then 1 else if s2 = 0 then 2 else 0) := by
  unfold wf_M_tell_92
  rw [e_goes]
  by_cases h1 : s1 = 0
  · rw [if_pos h1, if_pos h1, b2s, if_pos rfl]; exact pk_s wu_same
  · rw [if_neg h1, if_neg h1]
    by_cases h2 : s2 = 0
    · rw [if_pos h2, if_pos h2, b2s, if_pos rfl]; exact pk_s wu_same
    · rw [if_neg h2, if_neg h2, if_neg (by decide), b2s, if_neg (by decide)]
      refine pk_e (fun σ7 e7 => pk_mono (pq_tell108 16 0 σ7) (fun τ hτ => ?_))
      rw [hτ, e7, wu_other (Or.inr (by decide)), wu_same]
/-- what is told are coils, each once -/
def qKn (x : Int64) (N : Int) : Prop := ∀ p : Nat, (p : Int) < N → qOK (qd x) N p
def qGd (σ : wc_S) (x : Int64) (N : Int) : Prop := ∀ p : Nat, (p : Int) < N → qMd σ (qd x) p
theorem pq_tell5 (x : Int64) {σ0 : wc_S} (hJ0 : wJ 0 σ0) (hT0 : qT σ0) : ∀ (n : Nat) (x3 x4 : Int32) (σ : wc_S), (∀ k i, k ≠ 86 → σ k i = σ0 k i) → 0 ≤ x4.toInt → x4.toInt ≤ (σ0 71 1).toInt → (∀ j : Nat, (j : Int) < x4.toInt → σ 86 j = qd x j) → ((x3 = 1 ∧ ∀ p : Nat, (p : Int) < x4.toInt → qOK (qd x) (σ0 71 1).toInt p) ∨ (x3 = 0 ∧ ∃ p : Nat, (p : Int) < x4.toInt ∧ ¬ qOK (qd x) (σ0 71 1).toInt p)) → pk (wf_M_tell_5 n x x3 x4 σ) (fun τ => (qKn x (σ0 71 1).toInt → qGd σ0 x (σ0 71 1).toInt → τ 71 0 = 0) ∧ (qKn x (σ0 71 1).toInt → ¬ qGd σ0 x (σ0 71 1).toInt → τ 71 0 = 2) ∧ (¬ qKn x (σ0 71 1).toInt → τ 71 0 = 1)) := by
  have hm := i_m hJ0
  intro n
  induction n with
  | zero => intro x3 x4 σ _ _ _ _ _; exact pk_n
  | succ n ih =>
    intro x3 x4 σ hs g0 g1 ht hkn
    show pk (wf_M_tell_5_b (wf_M_tell_5 n) x x3 x4 σ) _
    unfold wf_M_tell_5_b
    have h1 : σ 71 1 = σ0 71 1 := hs 71 1 (by decide)
    have hJ : wJ 0 σ := by
      intro k i
      by_cases h : k = 86
      · subst h; exact wJ_o (by decide)
      · rw [hs k i h]; exact hJ0 k i
    have hD : ∀ k i, qD k i → σ k i = σ0 k i := fun k i hk => hs k i (by unfold qD at hk; omega)
    have hT : qT σ := qT_keep hD hT0
    refine pk_e (fun v1 e1 => pk_i (fun hc => ?_) (fun hc => ?_))
    · rw [e1, h1, wn_le] at hc
      have eN : x4.toInt = (σ0 71 1).toInt := by omega
      rcases hkn with ⟨rfl, hk⟩ | ⟨rfl, hk⟩
      · rw [if_neg (by decide)]
        have known : qKn x (σ0 71 1).toInt := fun p hp => hk p (by omega)
        have hgd : (∀ p : Nat, (p : Int) < (σ 71 1).toInt → qMd σ (σ 86) p) ↔ qGd σ0 x (σ0 71 1).toInt := by
          unfold qGd
          rw [h1]
          have ee : ∀ p : Nat, (p : Int) < (σ0 71 1).toInt → (qMd σ (σ 86) p ↔ qMd σ0 (qd x) p) := by
            intro p hp
            unfold qMd
            rw [qM_eq hD, ht p (by omega), ht (p - 1) (by omega)]
          exact ⟨fun q p hp => (ee p hp).1 (q p hp), fun q p hp => (ee p hp).2 (q p hp)⟩
        refine pk_b2 (pq_isGood (k1 := 86) hJ hT) (fun r16 σ15 hq => ?_)
        obtain ⟨hq, hq2⟩ := hq
        rcases hq with ⟨q1, q2⟩ | ⟨q1, p, q2, q3⟩
        · have q1 : r16 = 1 := q1
          rw [q1, if_neg (by decide)]
          refine pk_mono (pq_tell92 1 1 σ15) (fun τ hτ => ?_)
          rw [if_neg (by decide), if_neg (by decide)] at hτ
          exact ⟨fun _ _ => hτ, fun _ h => absurd (hgd.1 q2) h, fun h => absurd known h⟩
        · have q1 : r16 = 0 := q1
          rw [q1, if_pos rfl]
          refine pk_mono (pq_tell92 1 0 σ15) (fun τ hτ => ?_)
          rw [if_neg (by decide), if_pos rfl] at hτ
          exact ⟨fun _ h => absurd (hgd.2 h p q2) q3, fun _ _ => hτ, fun h => absurd known h⟩
      · rw [if_pos rfl]
        obtain ⟨p, hp, hnp⟩ := hk
        have nk : ¬ qKn x (σ0 71 1).toInt := fun q => hnp (q p (by omega))
        refine pk_mono (pq_tell92 0 0 σ) (fun τ hτ => ?_)
        rw [if_pos rfl] at hτ
        exact ⟨fun h _ => absurd h nk, fun h _ => absurd h nk, fun _ => hτ⟩
    · rw [e1, h1, wn_le] at hc
      have hup : (x4 + 1).toInt = x4.toInt + 1 := wn_up g0 (by omega)
      refine pk_e (fun v18 e18 => pk_e (fun v19 e19 => pk_e (fun v20 e20 => pk_e (fun v21 e21 => ?_))))
      have h21 : v21 = qd x x4.toInt.toNat := by
        rw [e21, e20, e19, e18]
        unfold qd
        rw [← qof g0]
      refine pk_g (fun _ => pk_e (fun σ23 e23 => pk_g (fun _ => pk_e (fun v25 e25 => pk_e (fun v26 e26 => ?_)))))
      have h25 : v25 = qd x x4.toInt.toNat := by rw [e25, e23, wu_same, h21]
      have hs' : ∀ k i, k ≠ 86 → σ23 k i = σ0 k i := fun k i hk => by rw [e23, wu_other (Or.inl hk)]; exact hs k i hk
      have ht' : ∀ j : Nat, (j : Int) < (x4 + 1).toInt → σ23 86 j = qd x j := by
        intro j hj
        by_cases hj2 : (j : Int) < x4.toInt
        · rw [e23, wu_other (Or.inr (by rw [wn_tn]; omega))]; exact ht j hj2
        · rw [e23, wn_tn, show j = x4.toInt.toNat by omega, wu_same, h21]
      rw [hs' 71 1 (by decide)] at e26
      have bad : ¬ qOK (qd x) (σ0 71 1).toInt x4.toInt.toNat → pk (wf_M_tell_62 (wf_M_tell_5 n) x x4 σ23) (fun τ => (qKn x (σ0 71 1).toInt → qGd σ0 x (σ0 71 1).toInt → τ 71 0 = 0) ∧ (qKn x (σ0 71 1).toInt → ¬ qGd σ0 x (σ0 71 1).toInt → τ 71 0 = 2) ∧ (¬ qKn x (σ0 71 1).toInt → τ 71 0 = 1)) := by
        intro hb
        unfold wf_M_tell_62 wf_M_tell_64
        refine pk_e (fun v28 e28 => ?_)
        rw [e28]
        exact ih 0 (x4 + 1) σ23 hs' (by omega) (by omega) ht' (Or.inr ⟨rfl, x4.toInt.toNat, by omega, hb⟩)
      refine pk_i (fun h26 => ?_) (fun h26 => ?_)
      · rw [e26, h25, wn_le] at h26
        exact bad (fun q => by have := q.1; omega)
      · rw [e26, h25, wn_le] at h26
        refine pk_g (fun _ => pk_e (fun v30 e30 => ?_))
        have h30 : v30 = qd x x4.toInt.toNat := by rw [e30, e23, wu_same, h21]
        refine pk_b2 (pq_stands v30 x4 ⟨g0, by omega⟩) (fun r32 σ31 hq => ?_)
        obtain ⟨hq, hq2⟩ := hq
        have hq2 : σ31 = σ23 := hq2
        subst hq2
        rcases hq with ⟨q1, j, q2, q3⟩ | ⟨q1, q2⟩
        · have q1 : r32 = 1 := q1
          rw [q1, if_neg (by decide)]
          refine bad (fun q => q.2 j (by omega) ?_)
          rw [← ht' j (by omega), q3, h30]
        · have q1 : r32 = 0 := q1
          rw [q1, if_pos rfl]
          unfold wf_M_tell_64
          refine pk_e (fun v28 e28 => ?_)
          rw [e28]
          refine ih x3 (x4 + 1) σ31 hs' (by omega) (by omega) ht' ?_
          rcases hkn with ⟨k1, k2⟩ | ⟨k1, p, k2, k3⟩
          · refine Or.inl ⟨k1, fun p hp => ?_⟩
            by_cases hp2 : (p : Int) < x4.toInt
            · exact k2 p hp2
            · rw [show p = x4.toInt.toNat by omega]
              refine ⟨by omega, fun i hi => ?_⟩
              have := q2 i (by omega)
              rw [ht' i (by omega), h30] at this
              exact this
          · exact Or.inr ⟨k1, p, by omega, k3⟩
theorem pq_Mtell (x : Int64) {σ : wc_S} (hJ : wJ 0 σ) (hT : qT σ) : pk (wf_M_tell x σ) (fun τ => (qKn x (σ 71 1).toInt → qGd σ x (σ 71 1).toInt → τ 71 0 = 0) ∧ (qKn x (σ 71 1).toInt → ¬ qGd σ x (σ 71 1).toInt → τ 71 0 = 2) ∧ (¬ qKn x (σ 71 1).toInt → τ 71 0 = 1)) := by
  have hm := i_m hJ
  exact pq_tell5 x hJ hT 16 1 0 σ (fun _ _ _ => rfl) (by decide) (by rw [wn_0]; omega) (fun j hj => by rw [wn_0] at hj; omega) (Or.inl ⟨rfl, fun p hp => by rw [wn_0] at hp; omega⟩)
theorem pq_Ktell (x : Int64) {σ : wc_S} (hJ : wJ 0 σ) (hT : qT σ) : pk (wf_K_tell x σ) (fun r => (qKn x (σ 1 10).toInt → qGd σ x (σ 1 10).toInt → r.1 = 0) ∧ (qKn x (σ 1 10).toInt → ¬ qGd σ x (σ 1 10).toInt → r.1 = 2) ∧ (¬ qKn x (σ 1 10).toInt → r.1 = 1)) := by
  have hn := i_n hJ
  unfold wf_K_tell wf_W_tell
  refine pk_ctv (Q := fun q => (∃ u, q = .inr u ∧ qKn x (σ 1 10).toInt ∧ qGd σ x (σ 1 10).toInt) ∨ (∃ u, q = .inl (3, u) ∧ qKn x (σ 1 10).toInt ∧ ¬ qGd σ x (σ 1 10).toInt) ∨ (∃ u, q = .inl (0, u) ∧ ¬ qKn x (σ 1 10).toInt)) ?_ ?_ ?_
  · refine pk_b2 (o := wf_W_readIntoScratch x σ) (pq_read x (σ0 := σ) hn.2.1 16 0 0 σ (fun _ _ _ => rfl) (by decide) (by rw [wn_0]; omega) (fun p hp => by rw [wn_0] at hp; omega) (fun p hp => by rw [wn_0] at hp; omega) (fun c hc => ?_)) (fun r2 σ1 hq => ?_)
    · refine ⟨fun q => ?_, fun q => ?_⟩
      · have : (0 : Int32).toBitVec.getLsbD c = false := by simp
        rw [this] at q; cases q
      · obtain ⟨j, hj, _⟩ := q
        rw [wn_0] at hj; omega
    · obtain ⟨hs, hq⟩ := hq
      have hs : ∀ k i, k ≠ 70 → σ1 k i = σ k i := hs
      rcases hq with ⟨q1, q2, q3⟩ | ⟨q1, p, q2, q3⟩
      · have q1 : r2 = 1 := q1
        have q3 : ∀ j : Nat, (j : Int) < (σ 1 10).toInt → σ1 70 j = qd x j := q3
        rw [q1, if_neg (by decide)]
        have h1 : σ1 1 10 = σ 1 10 := hs 1 10 (by decide)
        have hD : ∀ k i, qD k i → σ1 k i = σ k i := fun k i hk => hs k i (by unfold qD at hk; omega)
        have hT1 : qT σ1 := qT_keep hD hT
        have hgd : ∀ p, qMd σ1 (qd x) p ↔ qMd σ (qd x) p := fun p => qM_eq hD _ _ _
        refine pk_b2 (pq_layAll (b := 30) (k1 := 70) (Or.inl rfl) (Or.inr rfl) (d := qd x) (by rw [h1]; omega) hT1 (by rw [h1]; exact q3) (by rw [h1]; exact fun p hp => ⟨(qd_pos x p (by omega)).1, q2 p hp⟩)) (fun r5 σ4 hq => ?_)
        obtain ⟨hs4, hq⟩ := hq
        rw [h1] at hq
        rcases hq with ⟨w1, w2⟩ | ⟨w1, p, w2, w3⟩
        · have w1 : r5 = 1 := w1
          rw [w1, if_neg (by decide)]
          exact pk_b2 (Q := fun _ => True) (fun _ _ => trivial) (fun r8 σ7 _ => pk_e (fun σ9 e9 => pk_s (Or.inl ⟨σ9, rfl, q2, fun p hp => (hgd p).1 (w2 p hp)⟩)))
        · have w1 : r5 = 0 := w1
          rw [w1, if_pos rfl]
          exact pk_s (Or.inr (Or.inl ⟨σ4, rfl, q2, fun h => w3 ((hgd p).2 (h p w2))⟩))
      · have q1 : r2 = 0 := q1
        rw [q1, if_pos rfl]
        exact pk_s (Or.inr (Or.inr ⟨σ1, rfl, fun h => q3 (h p q2)⟩))
  · intro k u hq
    rcases hq with ⟨v, hq, _⟩ | ⟨v, hq, h1, h2⟩ | ⟨v, hq, h1⟩
    · cases hq
    · cases hq
      exact pk_s ⟨fun _ h => absurd h h2, fun _ _ => rfl, fun h => absurd h1 h⟩
    · cases hq
      exact pk_s ⟨fun h => absurd h h1, fun h => absurd h h1, fun _ => rfl⟩
  · intro u hq
    rcases hq with ⟨v, hq, h1, h2⟩ | ⟨v, hq, _⟩ | ⟨v, hq, _⟩
    · cases hq
      exact pk_s ⟨fun _ _ => rfl, fun _ h => absurd h2 h, fun h => absurd h1 h⟩
    · cases hq
    · cases hq
theorem tQ_tell {x : Int64} {σ : wc_S} (hσ : wQ σ) : wk (wf_K_tell x σ) (fun r => wJ 0 r.2 ∧ wk (wf_M_tell x r.2) (fun τ => wQ τ ∧ τ 71 0 = r.1)) := by
  obtain ⟨q, e, h, hx⟩ := wk_pk (tI_K_tell (a1 := x) hσ) (pq_Ktell x hσ.1 hσ.2)
  have hw := wr_K_tell x σ q e
  refine ⟨q, e, h.1, ?_⟩
  obtain ⟨y, e2, h2, hy⟩ := wk_pk (tI_M_tell (a1 := x) h) (pq_Mtell x h.1 h.2)
  refine ⟨y, e2, h2, ?_⟩
  have hD : ∀ k i, qD k i → q.2 k i = σ k i := fun k i hd => hw k i (fun z => by unfold wS_K_tell at z; unfold qD at hd; omega)
  have e71 : q.2 71 1 = σ 1 10 := by rw [hD 71 1 (by unfold qD; omega)]; exact hσ.2.1.1.symm
  have hg : qGd q.2 x (σ 1 10).toInt ↔ qGd σ x (σ 1 10).toInt := by
    unfold qGd
    have ee : ∀ p, qMd q.2 (qd x) p ↔ qMd σ (qd x) p := fun p => qM_eq hD _ _ _
    exact ⟨fun z p hp => (ee p).1 (z p hp), fun z p hp => (ee p).2 (z p hp)⟩
  rw [e71, hg] at hy
  by_cases k : qKn x (σ 1 10).toInt
  · by_cases g : qGd σ x (σ 1 10).toInt
    · rw [hy.1 k g, hx.1 k g]
    · rw [hy.2.1 k g, hx.2.1 k g]
  · rw [hy.2.2 k, hx.2.2 k]
/-! the search up to its first order, as a function; the class's search -/
abbrev qO : Type := Option (Option Nat)
def qUp (d : Nat → Int32) (p : Nat) (c : Int32) : Nat → Int32 := fun j => if j = p then c else d j
/-- k coils from c on are tried, with m nodes left: none, an order was found; some none, no node was left; some (some m), all are tried -/
def qLoop (may : Int32 → Bool) (g : Int32 → Nat → qO) : Nat → Int32 → Nat → qO
  | 0, _, m => some (some m)
  | k + 1, c, m => if may c = true then (match m with
    | 0 => some none
    | m' + 1 => match g c m' with
      | none => none
      | some none => some none
      | some (some m2) => qLoop may g k (c + 1) m2) else qLoop may g k (c + 1) m
def qE (may : (Nat → Int32) → Nat → Int32 → Bool) (N : Nat) : Nat → (Nat → Int32) → Nat → Nat → qO
  | 0, _, _, _ => none
  | f + 1, d, p, m => qLoop (may d p) (fun c m' => qE may N f (qUp d p c) (p + 1) m') N 0 m
def qLA (may : (Nat → Int32) → Nat → Int32 → Bool) (N : Nat) (d : Nat → Int32) (p : Nat) (c : Int32) (m : Nat) : qO := qLoop (may d p) (fun c m' => qE may N (N - p - 1) (qUp d p c) (p + 1) m') (N - c.toInt.toNat) c m
def qU (may : (Nat → Int32) → Nat → Int32 → Bool) (N : Nat) : Nat → (Nat → Int32) → Int32 → Nat → Prop
  | 0, d, c, m => qLA may N d 0 c m = none
  | p + 1, d, c, m => qLA may N d (p + 1) c m = none ∨ ∃ m', qLA may N d (p + 1) c m = some (some m') ∧ qU may N p d (d p + 1) m'
theorem qE_LA {may : (Nat → Int32) → Nat → Int32 → Bool} {N : Nat} {d : Nat → Int32} {p m : Nat} (h : p < N) : qE may N (N - p) d p m = qLA may N d p 0 m := by
  rw [show N - p = (N - p - 1) + 1 by omega]
  rfl
theorem qLA_end {may : (Nat → Int32) → Nat → Int32 → Bool} {N : Nat} {d : Nat → Int32} {p m : Nat} {c : Int32} (h : (N : Int) ≤ c.toInt) : qLA may N d p c m = some (some m) := by
  unfold qLA
  rw [show N - c.toInt.toNat = 0 by omega]
  rfl
theorem qLA_no {may : (Nat → Int32) → Nat → Int32 → Bool} {N : Nat} (hN : N ≤ 9) {d : Nat → Int32} {p m : Nat} {c : Int32} (h0 : 0 ≤ c.toInt) (h : c.toInt < N) (hm : may d p c = false) : qLA may N d p c m = qLA may N d p (c + 1) m := by
  have hup : (c + 1).toInt = c.toInt + 1 := wn_up h0 (by omega)
  unfold qLA
  rw [show N - c.toInt.toNat = (N - (c + 1).toInt.toNat) + 1 by omega]
  show (if may d p c = true then _ else _) = _
  rw [if_neg (by rw [hm]; decide)]
theorem qLA_0 {may : (Nat → Int32) → Nat → Int32 → Bool} {N : Nat} {d : Nat → Int32} {p : Nat} {c : Int32} (h0 : 0 ≤ c.toInt) (h : c.toInt < N) (hm : may d p c = true) : qLA may N d p c 0 = some none := by
  unfold qLA
  rw [show N - c.toInt.toNat = (N - c.toInt.toNat - 1) + 1 by omega]
  show (if may d p c = true then _ else _) = _
  rw [if_pos hm]
theorem qLA_s {may : (Nat → Int32) → Nat → Int32 → Bool} {N : Nat} (hN : N ≤ 9) {d : Nat → Int32} {p m : Nat} {c : Int32} (h0 : 0 ≤ c.toInt) (h : c.toInt < N) (hm : may d p c = true) : qLA may N d p c (m + 1) = match qE may N (N - p - 1) (qUp d p c) (p + 1) m with
      | none => none
      | some none => some none
      | some (some m2) => qLA may N d p (c + 1) m2 := by
  have hup : (c + 1).toInt = c.toInt + 1 := wn_up h0 (by omega)
  unfold qLA
  rw [show N - c.toInt.toNat = (N - (c + 1).toInt.toNat) + 1 by omega]
  show (if may d p c = true then _ else _) = _
  rw [if_pos hm]
/-- what the class holds of the search, with the coils d ahead of place p and m nodes left -/
def qV (σ0 : wc_S) (d : Nat → Int32) (p m : Nat) (σ : wc_S) : Prop := (∀ k i, k < 30 ∨ 48 < k → k ≠ 68 → k ≠ 69 → σ k i = σ0 k i) ∧ (σ 68 3 = 2147483647 ∧ (σ 68 4).toInt = m ∧ σ 68 5 = 0 ∧ σ 68 6 = 0) ∧ qLn σ 30 d p ∧ (∀ j : Nat, j ≤ p → -(j : Int) ≤ (σ 34 j).toInt ∧ (σ 34 j).toInt ≤ 40000 * j) ∧ (∀ j : Nat, j < p → 0 ≤ (d j).toInt ∧ (d j).toInt < (σ0 1 10).toInt)
def qPo (σ0 : wc_S) (d : Nat → Int32) (p : Nat) (o : qO) (τ : wc_S) : Prop := match o with
  | none => τ 68 5 = 1
  | some none => τ 68 5 = 0 ∧ τ 68 6 = 1
  | some (some m) => qV σ0 d p m τ
/-- what a jump, a change and a moved coil may add to the penalty -/
theorem pq_c157 {b : Nat} {x5 s1 s2 s3 : Int32} {σ : wc_S} (h2 : -10 ≤ s2.toInt ∧ s2.toInt ≤ 1000000) (h3 : 0 ≤ s3.toInt ∧ s3.toInt ≤ 10000) (h14 : 0 ≤ (σ 1 14).toInt ∧ (σ 1 14).toInt ≤ 10000) : pk (wf_L_countCosts_157 b x5 s1 s2 s3 σ) (fun τ => ∃ v : Int32, s2.toInt ≤ v.toInt ∧ v.toInt ≤ s2.toInt + 20000 ∧ τ = wc_u σ (b + 4) s1.toNatClampNeg v) := by
  unfold wf_L_countCosts_157
  refine pk_e (fun v27 e27 => ?_)
  have h27 : v27.toInt = s2.toInt + s3.toInt := by rw [e27]; exact wn_add (by omega) (by omega)
  refine pk_i (fun _ => pk_e (fun v29 e29 => pk_g (fun _ => pk_e (fun σ31 e31 => pk_s ⟨v29, ?_, ?_, e31⟩)))) (fun _ => pk_e (fun v32 e32 => pk_e (fun v33 e33 => pk_g (fun _ => pk_e (fun σ35 e35 => pk_s ⟨v33, ?_, ?_, e35⟩)))))
  · have : v29.toInt = v27.toInt := by rw [e29]; exact (wn_add (by rw [wn_0]; omega) (by rw [wn_0]; omega)).trans (by rw [wn_0]; omega)
    omega
  · have : v29.toInt = v27.toInt := by rw [e29]; exact (wn_add (by rw [wn_0]; omega) (by rw [wn_0]; omega)).trans (by rw [wn_0]; omega)
    omega
  · have : v33.toInt = v27.toInt + (σ 1 14).toInt := by rw [e33, e32]; exact wn_add (by omega) (by omega)
    omega
  · have : v33.toInt = v27.toInt + (σ 1 14).toInt := by rw [e33, e32]; exact wn_add (by omega) (by omega)
    omega
/-- countCosts writes the penalty behind the last, and no other -/
theorem pq_costs {b : Nat} (hb : b = 30 ∨ b = 49) {c s : Int32} {σ : wc_S} (hl : 0 ≤ (σ b 9).toInt ∧ (σ b 9).toInt ≤ 9) (hp : -9 ≤ (σ (b + 4) (σ b 9).toInt.toNat).toInt ∧ (σ (b + 4) (σ b 9).toInt.toNat).toInt ≤ 900000) (hj : 0 < (σ b 9).toInt → -1 ≤ (σ (9 + (σ (b + 1) ((σ b 9).toInt - 1).toNat).toInt.toNat) c.toInt.toNat).toInt ∧ (σ (9 + (σ (b + 1) ((σ b 9).toInt - 1).toNat).toInt.toNat) c.toInt.toNat).toInt ≤ 20000) (h13 : 0 ≤ (σ 1 13).toInt ∧ (σ 1 13).toInt ≤ 10000) (h14 : 0 ≤ (σ 1 14).toInt ∧ (σ 1 14).toInt ≤ 10000) : pk (wf_L_countCosts b c s σ) (fun τ => (∀ j, j ≠ (σ b 9).toInt.toNat + 1 → τ (b + 4) j = σ (b + 4) j) ∧ (σ (b + 4) (σ b 9).toInt.toNat).toInt - 1 ≤ (τ (b + 4) ((σ b 9).toInt.toNat + 1)).toInt ∧ (τ (b + 4) ((σ b 9).toInt.toNat + 1)).toInt ≤ (σ (b + 4) (σ b 9).toInt.toNat).toInt + 40000) := by
  have hup := wn_up1 hl.1 hl.2
  have c123 : ∀ (x2 x5 x6 s2 s3 : Int32) (u : wc_S), (-1 ≤ x6.toInt ∧ x6.toInt ≤ 20000) → u b 9 = σ b 9 → (∀ j, u (b + 4) j = σ (b + 4) j) → u 1 13 = σ 1 13 → u 1 14 = σ 1 14 → pk (wf_L_countCosts_123 b x2 (σ b 9 + 1) x5 x6 (σ b 9 + 1) s2 s3 u) (fun τ => (∀ j, j ≠ (σ b 9).toInt.toNat + 1 → τ (b + 4) j = σ (b + 4) j) ∧ (σ (b + 4) (σ b 9).toInt.toNat).toInt - 1 ≤ (τ (b + 4) ((σ b 9).toInt.toNat + 1)).toInt ∧ (τ (b + 4) ((σ b 9).toInt.toNat + 1)).toInt ≤ (σ (b + 4) (σ b 9).toInt.toNat).toInt + 40000) := by
    intro x2 x5 x6 s2 s3 u hx u9 u4 u13 u14
    unfold wf_L_countCosts_123
    refine pk_e (fun v19 e19 => pk_g (fun _ => pk_e (fun σ21 e21 => pk_e (fun v22 e22 => pk_g (fun _ => pk_e (fun v24 e24 => pk_e (fun v25 e25 => ?_)))))))
    have k9 : σ21 b 9 = σ b 9 := by rw [e21, wu_other (Or.inl (by omega)), u9]
    have k4 : ∀ j, σ21 (b + 4) j = σ (b + 4) j := fun j => by rw [e21, wu_other (Or.inl (by omega)), u4]
    have k13 : σ21 1 13 = σ 1 13 := by rw [e21, wu_other (Or.inl (by omega)), u13]
    have k14 : σ21 1 14 = σ 1 14 := by rw [e21, wu_other (Or.inl (by omega)), u14]
    have h25 : v25.toInt = (σ (b + 4) (σ b 9).toInt.toNat).toInt + x6.toInt := by
      rw [e25, e24, e22, k9, k4, wn_tn]; exact wn_add (by omega) (by omega)
    have fin : ∀ w : Int32, (0 ≤ w.toInt ∧ w.toInt ≤ 10000) → pk (wf_L_countCosts_157 b x5 (σ b 9 + 1) v25 w σ21) (fun τ => (∀ j, j ≠ (σ b 9).toInt.toNat + 1 → τ (b + 4) j = σ (b + 4) j) ∧ (σ (b + 4) (σ b 9).toInt.toNat).toInt - 1 ≤ (τ (b + 4) ((σ b 9).toInt.toNat + 1)).toInt ∧ (τ (b + 4) ((σ b 9).toInt.toNat + 1)).toInt ≤ (σ (b + 4) (σ b 9).toInt.toNat).toInt + 40000) := by
      intro w hw
      refine pk_mono (pq_c157 (b := b) (by omega) hw (by rw [k14]; exact h14)) (fun τ hτ => ?_)
      obtain ⟨v, w1, w2, rfl⟩ := hτ
      have ei : (σ b 9 + 1).toNatClampNeg = (σ b 9).toInt.toNat + 1 := by rw [wn_tn]; omega
      rw [ei]
      refine ⟨fun j hj => by rw [wu_other (Or.inr hj), k4], ?_, ?_⟩
      · rw [wu_same]; omega
      · rw [wu_same]; omega
    refine pk_i (fun _ => fin 0 (by decide)) (fun _ => pk_e (fun v36 e36 => ?_))
    exact fin v36 (by rw [e36, k13]; exact h13)
  have c72 : ∀ (x2 x5 x6 : Int32), (-1 ≤ x6.toInt ∧ x6.toInt ≤ 20000) → pk (wf_L_countCosts_72 b x2 (σ b 9 + 1) x5 x6 σ) (fun τ => (∀ j, j ≠ (σ b 9).toInt.toNat + 1 → τ (b + 4) j = σ (b + 4) j) ∧ (σ (b + 4) (σ b 9).toInt.toNat).toInt - 1 ≤ (τ (b + 4) ((σ b 9).toInt.toNat + 1)).toInt ∧ (τ (b + 4) ((σ b 9).toInt.toNat + 1)).toInt ≤ (σ (b + 4) (σ b 9).toInt.toNat).toInt + 40000) := by
    intro x2 x5 x6 hx
    unfold wf_L_countCosts_72
    refine pk_e (fun v8 e8 => pk_g (fun _ => pk_e (fun v10 e10 => ?_)))
    have c97 : ∀ s3, pk (wf_L_countCosts_97 b x2 (σ b 9 + 1) x5 x6 (σ b 9 + 1) v10 s3 σ) (fun τ => (∀ j, j ≠ (σ b 9).toInt.toNat + 1 → τ (b + 4) j = σ (b + 4) j) ∧ (σ (b + 4) (σ b 9).toInt.toNat).toInt - 1 ≤ (τ (b + 4) ((σ b 9).toInt.toNat + 1)).toInt ∧ (τ (b + 4) ((σ b 9).toInt.toNat + 1)).toInt ≤ (σ (b + 4) (σ b 9).toInt.toNat).toInt + 40000) := by
      intro s3
      unfold wf_L_countCosts_97
      refine pk_e (fun v12 e12 => pk_g (fun _ => pk_e (fun σ14 e14 => pk_e (fun v15 e15 => pk_g (fun _ => pk_e (fun v17 e17 => ?_))))))
      have k9 : σ14 b 9 = σ b 9 := by rw [e14, wu_other (Or.inl (by omega))]
      have k4 : ∀ j, σ14 (b + 4) j = σ (b + 4) j := fun j => by rw [e14, wu_other (Or.inl (by omega))]
      have k13 : σ14 1 13 = σ 1 13 := by rw [e14, wu_other (Or.inl (by omega))]
      have k14 : σ14 1 14 = σ 1 14 := by rw [e14, wu_other (Or.inl (by omega))]
      exact pk_i (fun _ => c123 _ _ _ _ _ _ hx k9 k4 k13 k14) (fun _ => c123 _ _ _ _ _ _ hx k9 k4 k13 k14)
    exact pk_i (fun _ => c97 0) (fun _ => c97 1)
  have c38 : ∀ s0, pk (wf_L_countCosts_38 b c s (σ b 9 + 1) s0 σ) (fun τ => (∀ j, j ≠ (σ b 9).toInt.toNat + 1 → τ (b + 4) j = σ (b + 4) j) ∧ (σ (b + 4) (σ b 9).toInt.toNat).toInt - 1 ≤ (τ (b + 4) ((σ b 9).toInt.toNat + 1)).toInt ∧ (τ (b + 4) ((σ b 9).toInt.toNat + 1)).toInt ≤ (σ (b + 4) (σ b 9).toInt.toNat).toInt + 40000) := by
    intro s0
    unfold wf_L_countCosts_38
    refine pk_e (fun v6 e6 => pk_i (fun _ => c72 _ _ 0 (by decide)) (fun h6 => ?_))
    rw [e6, wn_le, wn_0] at h6
    refine pk_e (fun v37 e37 => pk_e (fun v38 e38 => pk_g (fun _ => pk_e (fun v40 e40 => pk_g (fun h40 => pk_g (fun _ => pk_e (fun v43 e43 => ?_)))))))
    refine c72 _ _ v43 ?_
    have h38 : v38.toInt = (σ b 9).toInt - 1 := by rw [e38, e37]; exact wn_dn hl.1 (by omega)
    rw [e43, wn_tn, wn_tn, e40, wn_tn, h38]
    exact hj (by omega)
  unfold wf_L_countCosts
  refine pk_e (fun v1 e1 => pk_e (fun v2 e2 => pk_g (fun _ => pk_e (fun v4 e4 => ?_))))
  rw [e2, e1]
  refine pk_i (fun _ => c38 0) (fun _ => pk_e (fun v44 e44 => pk_i (fun _ => c38 0) (fun _ => c38 1)))
/-- put: the penalty behind the last is within bounds, the others stay -/
theorem pq_putc {b : Nat} (hb : b = 30 ∨ b = 49) {c : Int32} {σ : wc_S} (hl : 0 ≤ (σ b 9).toInt ∧ (σ b 9).toInt ≤ 9) (h9 : 0 < (σ b 9).toInt → (σ (b + 1) ((σ b 9).toInt - 1).toNat).toInt ≤ 8) (hp : -9 ≤ (σ (b + 4) (σ b 9).toInt.toNat).toInt ∧ (σ (b + 4) (σ b 9).toInt.toNat).toInt ≤ 900000) (hj : 0 < (σ b 9).toInt → -1 ≤ (σ (9 + (σ (b + 1) ((σ b 9).toInt - 1).toNat).toInt.toNat) c.toInt.toNat).toInt ∧ (σ (9 + (σ (b + 1) ((σ b 9).toInt - 1).toNat).toInt.toNat) c.toInt.toNat).toInt ≤ 20000) (h13 : 0 ≤ (σ 1 13).toInt ∧ (σ 1 13).toInt ≤ 10000) (h14 : 0 ≤ (σ 1 14).toInt ∧ (σ 1 14).toInt ≤ 10000) : pk (wf_L_put b c σ) (fun τ => (∀ j, j ≠ (σ b 9).toInt.toNat + 1 → τ (b + 4) j = σ (b + 4) j) ∧ (σ (b + 4) (σ b 9).toInt.toNat).toInt - 1 ≤ (τ (b + 4) ((σ b 9).toInt.toNat + 1)).toInt ∧ (τ (b + 4) ((σ b 9).toInt.toNat + 1)).toInt ≤ (σ (b + 4) (σ b 9).toInt.toNat).toInt + 40000) := by
  have key : ∀ s, pk (wf_L_put_20 b c s σ) (fun τ => (∀ j, j ≠ (σ b 9).toInt.toNat + 1 → τ (b + 4) j = σ (b + 4) j) ∧ (σ (b + 4) (σ b 9).toInt.toNat).toInt - 1 ≤ (τ (b + 4) ((σ b 9).toInt.toNat + 1)).toInt ∧ (τ (b + 4) ((σ b 9).toInt.toNat + 1)).toInt ≤ (σ (b + 4) (σ b 9).toInt.toNat).toInt + 40000) := by
    intro s
    unfold wf_L_put_20
    refine pk_e (fun v3 e3 => pk_g (fun _ => pk_e (fun σ5 e5 => ?_)))
    refine pk_b1 (Q := fun u => ∀ k i, k < 30 ∨ (k = b ∧ i = 9) ∨ k = b + 1 ∨ k = b + 4 → u k i = σ k i) (fun u eu k i hk => ?_) (fun u hu => ?_)
    · rw [wr_L_countKilometres b c s σ5 u eu k i (fun q => by unfold wS_L_countKilometres at q; omega), e5, wu_other (Or.inl (by omega))]
    · have u9 := hu b 9 (by omega)
      have u4 : ∀ j, u (b + 4) j = σ (b + 4) j := fun j => hu (b + 4) j (by omega)
      have hu1 : ∀ j, u (b + 1) j = σ (b + 1) j := fun j => hu (b + 1) j (by omega)
      have hu9 : ∀ a j, a ≤ 8 → u (9 + a) j = σ (9 + a) j := fun a j ha => hu (9 + a) j (by omega)
      have hc := pq_costs hb (c := c) (s := s) (σ := u) (by rw [u9]; exact hl) (by rw [u9, u4]; exact hp) (fun h0 => by
        rw [u9] at h0 ⊢
        rw [hu1, hu9 _ _ (by have := h9 h0; omega)]; exact hj h0) (by rw [hu 1 13 (by omega)]; exact h13) (by rw [hu 1 14 (by omega)]; exact h14)
      rw [u9, u4] at hc
      refine pk_b1 hc (fun w hw => ?_)
      refine pk_e (fun v8 e8 => pk_g (fun _ => pk_e (fun σ10 e10 => pk_g (fun _ => pk_e (fun σ12 e12 => pk_e (fun v13 e13 => pk_e (fun v14 e14 => pk_e (fun σ15 e15 => pk_s ?_))))))))
      have k : ∀ j, σ15 (b + 4) j = w (b + 4) j := fun j => by
        rw [e15, wu_other (Or.inl (by omega)), e12, wu_other (Or.inl (by omega)), e10, wu_other (Or.inl (by omega))]
      refine ⟨fun j hj => ?_, ?_, ?_⟩
      · rw [k, hw.1 j hj, u4]
      · rw [k]; exact hw.2.1
      · rw [k]; exact hw.2.2
  unfold wf_L_put
  refine pk_e (fun v1 e1 => pk_i (fun _ => key 0) (fun _ => ?_))
  refine pk_b2 (Q := fun r => r.2 = σ) (fun x e => wr_same (wr_L_isWornWith b c σ x e) (fun _ _ h => h)) (fun r u hu => ?_)
  have hu : u = σ := hu
  rw [hu]
  exact pk_i (fun _ => key 0) (fun _ => key 1)
theorem pq_takeBack {b : Nat} {σ : wc_S} (hl : 0 < (σ b 9).toInt ∧ (σ b 9).toInt ≤ 9) : pk (wf_L_takeBack b σ) (fun τ => (τ b 9).toInt = (σ b 9).toInt - 1 ∧ (∀ i, τ (b + 1) i = σ (b + 1) i) ∧ (∀ i, τ (b + 2) i = if i = (σ (b + 1) ((σ b 9).toInt - 1).toNat).toInt.toNat then 0 else σ (b + 2) i) ∧ ∀ k i, k ≠ b → k ≠ b + 2 → τ k i = σ k i) := by
  unfold wf_L_takeBack
  refine pk_e (fun v1 e1 => pk_i (fun hc => ?_) (fun hc => ?_))
  · rw [e1, wn_le, wn_0] at hc; omega
  · refine pk_e (fun v3 e3 => pk_e (fun v4 e4 => pk_e (fun σ5 e5 => pk_e (fun v6 e6 => pk_g (fun _ => pk_e (fun v8 e8 => pk_g (fun _ => pk_e (fun σ10 e10 => pk_s ?_))))))))
    have h4 : v4.toInt = (σ b 9).toInt - 1 := by rw [e4, e3]; exact wn_dn (by omega) (by omega)
    have h6 : v6 = v4 := by rw [e6, e5, wu_same]
    have h8 : v8 = σ (b + 1) ((σ b 9).toInt - 1).toNat := by rw [e8, h6, wn_tn, h4, e5, wu_other (Or.inl (by omega))]
    refine ⟨?_, fun i => ?_, fun i => ?_, fun k i h1 h2 => ?_⟩
    · rw [e10, wu_other (Or.inl (by omega)), e5, wu_same, h4]
    · rw [e10, wu_other (Or.inl (by omega)), e5, wu_other (Or.inl (by omega))]
    · rw [e10, wu_at, wn_tn, h8, e5]
      by_cases hi : i = (σ (b + 1) ((σ b 9).toInt - 1).toNat).toInt.toNat
      · rw [if_pos ⟨rfl, hi⟩, if_pos hi]; rfl
      · rw [if_neg (fun q => hi q.2), if_neg hi, wu_other (Or.inl (by omega))]
    · rw [e10, wu_other (Or.inl h2), e5, wu_other (Or.inl h1)]
/-! the class's search finds an order where the function does -/
/-- what stands told while the search goes on -/
def qW (σ0 : wc_S) : Prop := qT σ0 ∧ (0 ≤ (σ0 1 10).toInt ∧ (σ0 1 10).toInt ≤ 9) ∧ (0 ≤ (σ0 1 13).toInt ∧ (σ0 1 13).toInt ≤ 10000) ∧ (0 ≤ (σ0 1 14).toInt ∧ (σ0 1 14).toInt ≤ 10000)
/-- coil c may come at place p behind the coils d -/
def qMy (σ0 : wc_S) (may : (Nat → Int32) → Nat → Int32 → Bool) : Prop := ∀ d p c, may d p c = true ↔ ((∀ j : Nat, j < p → d j ≠ c) ∧ qM σ0 p (d (p - 1)).toInt.toNat c.toInt.toNat)
theorem qMy_cong {σ0 : wc_S} {may : (Nat → Int32) → Nat → Int32 → Bool} (hm : qMy σ0 may) {d d' : Nat → Int32} {p : Nat} (h : ∀ j, j < p → d j = d' j) : may d p = may d' p := by
  funext c
  rw [Bool.eq_iff_iff, hm, hm]
  have e1 : (∀ j : Nat, j < p → d j ≠ c) ↔ (∀ j : Nat, j < p → d' j ≠ c) := ⟨fun q j hj => by rw [← h j hj]; exact q j hj, fun q j hj => by rw [h j hj]; exact q j hj⟩
  have e2 : qM σ0 p (d (p - 1)).toInt.toNat c.toInt.toNat ↔ qM σ0 p (d' (p - 1)).toInt.toNat c.toInt.toNat := by
    by_cases h0 : p = 0
    · subst h0; unfold qM; simp
    · rw [h (p - 1) (by omega)]
  rw [e1, e2]
theorem qUp_lt {d : Nat → Int32} {p j : Nat} {c : Int32} (h : j < p) : qUp d p c j = d j := by
  unfold qUp; rw [if_neg (by omega)]
theorem qUp_at {d : Nat → Int32} {p : Nat} {c : Int32} : qUp d p c p = c := by
  unfold qUp; rw [if_pos rfl]
/-- found stays found -/
theorem pq_found_put {g : Int32 → wc_S → Option wc_S} (hg : ∀ v τ, τ 68 5 = 1 → pk (g v τ) (fun u => u 68 5 = 1)) {a1 a2 : Int32} {σ : wc_S} (h : σ 68 5 = 1) : pk (wf_S_putAndGoOn g a1 a2 σ) (fun u => u 68 5 = 1) := by
  have tb : ∀ u : wc_S, u 68 5 = 1 → pk (wf_S_putAndGoOn_52 g u) (fun u => u 68 5 = 1) := by
    intro u hu
    unfold wf_S_putAndGoOn_52
    refine pk_b1 (Q := fun w => w 68 5 = 1) (fun w ew => ?_) (fun w hw => pk_s hw)
    show w 68 5 = 1
    rw [wr_L_takeBack 30 u w ew 68 5 (fun q => by unfold wS_L_takeBack at q; omega)]; exact hu
  unfold wf_S_putAndGoOn
  refine pk_e (fun v1 e1 => pk_i (fun _ => ?_) (fun _ => pk_e (fun σ14 e14 => pk_s ?_)))
  · refine pk_e (fun v3 e3 => pk_e (fun v4 e4 => pk_e (fun σ5 e5 => ?_)))
    refine pk_b1 (Q := fun w => w 68 5 = 1) (fun w ew => ?_) (fun w hw => ?_)
    · show w 68 5 = 1
      rw [wr_L_put 30 a1 σ5 w ew 68 5 (fun q => by unfold wS_L_put at q; omega), e5, wu_other (Or.inr (by decide))]; exact h
    · refine pk_b2 (Q := fun r => r.2 = w) (fun x e => wr_same (wr_L_penaltySoFar 30 w x e) (fun _ _ h => h)) (fun r8 u hu => ?_)
      have hu : u = w := hu
      rw [hu]
      refine pk_e (fun v9 e9 => pk_i (fun _ => tb w hw) (fun _ => pk_e (fun v12 e12 => ?_)))
      exact pk_b1 (hg v12 w hw) (fun u2 hu2 => tb u2 hu2)
  · rw [e14, wu_other (Or.inr (by decide))]; exact h
theorem pq_found18 {g : Int32 → wc_S → Option wc_S} (hg : ∀ v τ, τ 68 5 = 1 → pk (g v τ) (fun u => u 68 5 = 1)) {x1 : Int32} : ∀ (n : Nat) (x2 : Int32) (σ : wc_S), σ 68 5 = 1 → pk (wf_S_goOnAt_18 g n x1 x2 σ) (fun u => u 68 5 = 1) := by
  intro n
  induction n with
  | zero => intro x2 σ _; exact pk_n
  | succ n ih =>
    intro x2 σ h
    show pk (wf_S_goOnAt_18_b g (wf_S_goOnAt_18 g n) x1 x2 σ) _
    unfold wf_S_goOnAt_18_b
    refine pk_e (fun v3 e3 => pk_i (fun _ => pk_s h) (fun _ => pk_e (fun v5 e5 => pk_i (fun _ => ?_) (fun _ => pk_s h))))
    refine pk_b2 (Q := fun r => r.2 = σ) (fun x e => wr_same (wr_L_mayPut 30 x2 σ x e) (fun _ _ h => h)) (fun r8 u hu => ?_)
    have hu : u = σ := hu
    rw [hu]
    unfold wf_S_goOnAt_53
    refine pk_i (fun _ => pk_e (fun v10 _ => ih v10 σ h)) (fun _ => ?_)
    exact pk_b1 (pq_found_put hg h) (fun w hw => pk_e (fun v10 _ => ih v10 w hw))
theorem pq_keepBest {σ : wc_S} : pk (wf_S_keepBest σ) (fun τ => τ 68 5 = 1) := by
  unfold wf_S_keepBest
  refine pk_e (fun σ1 e1 => ?_)
  refine pk_b2 (Q := fun r => r.2 = σ1) (fun x e => wr_same (wr_L_penaltySoFar 30 σ1 x e) (fun _ _ h => h)) (fun r3 u hu => ?_)
  have hu : u = σ1 := hu
  refine pk_e (fun σ4 e4 => pk_e (fun v5 e5 => pk_g (fun _ => pk_e (fun σ7 e7 => pk_s ?_))))
  rw [e7]
  show wc_uA σ4 69 _ 68 5 = 1
  rw [show wc_uA σ4 69 (va_cpy (σ4 31) (σ4 69) 0 0 v5.toNatClampNeg) 68 5 = σ4 68 5 by simp [wc_uA], e4, wu_other (Or.inr (by decide)), hu, e1, wu_same]
theorem pq_found : ∀ (n : Nat) (a1 : Int32) (σ : wc_S), σ 68 5 = 1 → pk (wf_S_goOnAt n a1 σ) (fun u => u 68 5 = 1) := by
  intro n
  induction n with
  | zero => intro a1 σ _; exact pk_n
  | succ n ih =>
    intro a1 σ h
    show pk (wf_S_goOnAt_r (wf_S_goOnAt n) a1 σ) _
    unfold wf_S_goOnAt_r
    refine pk_e (fun v1 e1 => pk_i (fun _ => pq_found18 ih 16 0 σ h) (fun _ => ?_))
    exact pk_b1 pq_keepBest (fun u hu => pk_s hu)
/-- where no node was left the loop ends -/
theorem pq_out18 {g : Int32 → wc_S → Option wc_S} {x1 x2 : Int32} {σ : wc_S} (h : σ 68 6 = 1) (n : Nat) : pk (wf_S_goOnAt_18 g n x1 x2 σ) (fun u => u = σ) := by
  cases n with
  | zero => exact pk_n
  | succ n =>
    show pk (wf_S_goOnAt_18_b g (wf_S_goOnAt_18 g n) x1 x2 σ) _
    unfold wf_S_goOnAt_18_b
    refine pk_e (fun v3 e3 => pk_i (fun _ => pk_s rfl) (fun _ => pk_e (fun v5 e5 => ?_)))
    rw [e5, h, if_neg (by decide)]
    exact pk_s rfl
theorem qW_jump {σ0 σ : wc_S} (hW : qW σ0) (hs : ∀ k i, k < 30 ∨ 48 < k → k ≠ 68 → k ≠ 69 → σ k i = σ0 k i) {c : Nat} (hc : (c : Int) < (σ0 1 10).toInt) {a : Nat} (ha : (a : Int) < (σ0 1 10).toInt) : -1 ≤ (σ (9 + a) c).toInt ∧ (σ (9 + a) c).toInt ≤ 20000 := by
  have hn := hW.2.1
  rw [hs (9 + a) c (by omega) (by omega) (by omega), hW.1.2.2.2.2 a c (by omega) ha hc]
  rcases qj_pos hW.1 a c with q | q
  · rw [q]; exact ⟨by decide, by decide⟩
  · omega
/-- put and gone on: what the place behind it makes of it -/
theorem pq_pag {σ0 : wc_S} (hW : qW σ0) {g : Int32 → wc_S → Option wc_S} {d : Nat → Int32} {p m : Nat} {c a2 : Int32} {o : qO} {σ : wc_S} (hV : qV σ0 d p (m + 1) σ) (hp : (p : Int) < (σ0 1 10).toInt) (ha : a2.toInt = p) (hc : 0 ≤ c.toInt ∧ c.toInt < (σ0 1 10).toInt) (hst : ∀ j, j < p → d j ≠ c) (hg : ∀ (v : Int32) τ, v.toInt = (p : Int) + 1 → qV σ0 (qUp d p c) (p + 1) m τ → pk (g v τ) (qPo σ0 (qUp d p c) (p + 1) o)) : pk (wf_S_putAndGoOn g c a2 σ) (qPo σ0 d p o) := by
  obtain ⟨hs, ⟨v3, v4, v5, v6⟩, hL, hpen, hd⟩ := hV
  have hn := hW.2.1
  unfold wf_S_putAndGoOn
  refine pk_e (fun w1 e1 => ?_)
  rw [if_pos (by rw [e1, wn_lt, wn_0]; omega)]
  refine pk_e (fun w3 e3 => pk_e (fun w4 e4 => pk_e (fun σ5 e5 => ?_)))
  have h4 : w4.toInt = m := by
    rw [e4, e3]
    have : (1 : Int32).toInt = 1 := rfl
    have hu := Int32.toInt_lt (σ 68 4)
    rw [wn_sub (by rw [this]; omega) (by rw [this]; omega), this]; omega
  have k5 : ∀ k i, k ≠ 68 → σ5 k i = σ k i := fun k i hk => by rw [e5, wu_other (Or.inl hk)]
  have eL : (σ 30 9).toInt = p := hL.1
  have eLn : (σ 30 9).toInt.toNat = p := by omega
  have hpp := hpen p (by omega)
  have hprev : 0 < p → σ 31 ((σ 30 9).toInt - 1).toNat = d (p - 1) := fun h0 => by
    have := hL.2.1 ((σ 30 9).toInt - 1).toNat (by omega)
    rw [show ((σ 30 9).toInt - 1).toNat = p - 1 by omega] at this ⊢
    exact this
  refine pk_b1 (Q := fun w => qV σ0 (qUp d p c) (p + 1) m w ∧ w 31 p = c) (fun w ew => ?_) (fun w hw => ?_)
  · have fr := wr_L_put 30 c σ5 w ew
    have frk : ∀ k i, k < 30 ∨ 48 < k → w k i = σ5 k i := fun k i hk => fr k i (fun q => by unfold wS_L_put at q; omega)
    obtain ⟨p1, p2, p3⟩ := pq_put (b := 30) w ew
    have pc := pq_putc (b := 30) (Or.inl rfl) (c := c) (σ := σ5) (by rw [k5 30 9 (by decide)]; omega) (fun h0 => by
      rw [k5 30 9 (by decide)] at h0
      rw [k5 30 9 (by decide), k5 31 _ (by decide), hprev (by omega)]
      have := hd (p - 1) (by omega)
      omega) (by rw [k5 30 9 (by decide), k5 34 _ (by decide), eLn]; omega) (fun h0 => by
      rw [k5 30 9 (by decide)] at h0
      rw [k5 30 9 (by decide), k5 31 _ (by decide), hprev (by omega)]
      have := hd (p - 1) (by omega)
      rw [k5 (9 + (d (p - 1)).toInt.toNat) _ (by omega)]
      exact qW_jump hW hs (by omega) (by omega)) (by rw [k5 1 13 (by decide), hs 1 13 (by decide) (by decide) (by decide)]; exact hW.2.2.1) (by rw [k5 1 14 (by decide), hs 1 14 (by decide) (by decide) (by decide)]; exact hW.2.2.2) w ew
    rw [k5 30 9 (by decide), eLn, k5 34 p (by decide)] at pc
    have q2 : ∀ i, w 31 i = if i = (σ 30 9).toNatClampNeg then c else σ 31 i := fun i => by rw [p2 i, k5 30 9 (by decide), k5 31 i (by decide)]
    have q3 : ∀ i, w 32 i = if i = c.toNatClampNeg then 1 else σ 32 i := fun i => by rw [p3 i, k5 32 i (by decide)]
    refine ⟨⟨fun k i h1 h2 h3 => ?_, ⟨?_, ?_, ?_, ?_⟩, ?_, fun j hj => ?_, fun j hj => ?_⟩, ?_⟩
    · rw [frk k i h1, k5 k i h2]; exact hs k i h1 h2 h3
    · rw [frk 68 3 (by decide), e5, wu_other (Or.inr (by decide))]; exact v3
    · rw [frk 68 4 (by decide), e5, wu_same, h4]
    · rw [frk 68 5 (by decide), e5, wu_other (Or.inr (by decide))]; exact v5
    · rw [frk 68 6 (by decide), e5, wu_other (Or.inr (by decide))]; exact v6
    · have hL2 : qLn σ 30 (qUp d p c) p := by
        refine ⟨hL.1, fun j hj => ?_, fun e he => ?_⟩
        · rw [qUp_lt (by omega)]; exact hL.2.1 j hj
        · rw [hL.2.2 e he]
          exact ⟨fun q j hj => by rw [qUp_lt (by omega)]; exact q j hj, fun q j hj => by have := q j hj; rw [qUp_lt (by omega)] at this; exact this⟩
      have := qLn_put hL2 ⟨by omega, by omega⟩ (c := c) ⟨hc.1, by omega⟩ (by rw [show ((p : Nat) : Int).toNat = p by omega]; exact qUp_at) (by rw [p1, k5 30 9 (by decide)]) q2 q3
      rw [show ((p + 1 : Nat) : Int) = (p : Int) + 1 by omega]
      exact this
    · by_cases hj2 : j = p + 1
      · rw [hj2]
        have b1 : (σ 34 p).toInt - 1 ≤ (w 34 (p + 1)).toInt := pc.2.1
        have b2 : (w 34 (p + 1)).toInt ≤ (σ 34 p).toInt + 40000 := pc.2.2
        omega
      · have e34 : w 34 j = σ 34 j := by
          have := pc.1 j hj2
          rw [k5 34 j (by decide)] at this
          exact this
        rw [e34]; exact hpen j (by omega)
    · by_cases hj2 : j = p
      · rw [hj2, qUp_at]; exact hc
      · rw [qUp_lt (by omega)]; exact hd j (by omega)
    · rw [q2, wn_tn, eLn, if_pos rfl]
  · obtain ⟨hV2, h31⟩ := hw
    have hV2' := hV2
    obtain ⟨-, ⟨w3', -, -, -⟩, hL2, hpen2, -⟩ := hV2
    have lw : (w 30 9).toInt = p + 1 := by have := hL2.1; omega
    refine pk_b2 (Q := fun r => r.1.toInt ≤ 900000 ∧ r.2 = w) (fun x e => ⟨?_, wr_same (wr_L_penaltySoFar 30 w x e) (fun _ _ h => h)⟩) (fun r8 u hu => ?_)
    · have : pk (wf_L_penaltySoFar 30 w) (fun r => r.1.toInt ≤ 900000) := by
        unfold wf_L_penaltySoFar
        refine pk_e (fun y1 f1 => pk_g (fun _ => pk_e (fun y3 f3 => pk_s ?_)))
        have b := hpen2 (p + 1) (by omega)
        show y3.toInt ≤ 900000
        rw [f3, f1, wn_tn, lw, show ((p : Int) + 1).toNat = p + 1 by omega]
        have : (w (30 + 4) (p + 1)).toInt ≤ 40000 * ((p + 1 : Nat) : Int) := b.2
        omega
      exact this x e
    · obtain ⟨hr8, hu⟩ := hu
      have hu : u = w := hu
      have hr8 : r8.toInt ≤ 900000 := hr8
      rw [hu]
      refine pk_e (fun w9 e9 => ?_)
      rw [if_neg (by rw [e9, w3', wn_le, show (2147483647 : Int32).toInt = 2147483647 from rfl]; omega)]
      refine pk_e (fun w12 e12 => ?_)
      have h12 : w12.toInt = p + 1 := by rw [e12, wn_up (by omega) (by omega), ha]
      refine pk_b1 (hg w12 w h12 hV2') (fun z hz => ?_)
      unfold wf_S_putAndGoOn_52
      have tb68 : ∀ t, wf_L_takeBack 30 z = some t → ∀ i, t 68 i = z 68 i := fun t et i => wr_L_takeBack 30 z t et 68 i (fun q => by unfold wS_L_takeBack at q; omega)
      cases o with
      | none =>
        refine pk_b1 (Q := fun t => t 68 5 = 1) (fun t et => by show t 68 5 = 1; rw [tb68 t et]; exact hz) (fun t ht => pk_s ht)
      | some o2 => cases o2 with
        | none =>
          refine pk_b1 (Q := fun t => t 68 5 = 0 ∧ t 68 6 = 1) (fun t et => by show t 68 5 = 0 ∧ t 68 6 = 1; rw [tb68 t et, tb68 t et]; exact hz) (fun t ht => pk_s ht)
        | some m2 =>
          obtain ⟨zs, zv, zL, zpen, zd⟩ := hz
          have lz : (z 30 9).toInt = p + 1 := by have := zL.1; omega
          refine pk_b1 (Q := fun t => qV σ0 d p m2 t) (fun t et => ?_) (fun t ht => pk_s ht)
          obtain ⟨t1, t2, t3, t4⟩ := pq_takeBack (b := 30) (σ := z) (by omega) t et
          have zp : z 31 p = c := by rw [zL.2.1 p (by omega)]; exact qUp_at
          rw [lz, show ((p : Int) + 1 - 1).toNat = p by omega] at t3
          refine ⟨fun k i h1 h2 h3 => ?_, ⟨?_, ?_, ?_, ?_⟩, ⟨by omega, fun j hj => ?_, fun e he => ?_⟩, fun j hj => ?_, hd⟩
          · rw [t4 k i (by omega) (by omega)]; exact zs k i h1 h2 h3
          · rw [tb68 t et]; exact zv.1
          · rw [tb68 t et]; exact zv.2.1
          · rw [tb68 t et]; exact zv.2.2.1
          · rw [tb68 t et]; exact zv.2.2.2
          · rw [t2 j, zL.2.1 j (by omega), qUp_lt (by omega)]
          · have t3e := t3 e
            have z31 : z (30 + 1) p = c := zp
            rw [z31] at t3e
            by_cases hec : e = c.toInt.toNat
            · rw [if_pos hec] at t3e
              rw [t3e]
              refine ⟨fun _ j hj q => hst j (by omega) ?_, fun _ => rfl⟩
              rw [wn_eq]; omega
            · rw [if_neg hec] at t3e
              rw [t3e, zL.2.2 e he]
              constructor
              · intro q j hj
                have := q j (by omega)
                rw [qUp_lt (by omega)] at this
                exact this
              · intro q j hj
                by_cases hjp : j = p
                · rw [hjp, qUp_at]; omega
                · rw [qUp_lt (by omega)]; exact q j (by omega)
          · rw [t4 34 j (by decide) (by decide)]; exact zpen j (by omega)
theorem pq_go18 {σ0 : wc_S} (hW : qW σ0) {may : (Nat → Int32) → Nat → Int32 → Bool} (hm : qMy σ0 may) {g : Int32 → wc_S → Option wc_S} (hgf : ∀ v τ, τ 68 5 = 1 → pk (g v τ) (fun u => u 68 5 = 1)) {d : Nat → Int32} {p : Nat} {x1 : Int32} (hp : (p : Int) < (σ0 1 10).toInt) (h1 : x1.toInt = p) (hg : ∀ (c v : Int32) τ m, (0 ≤ c.toInt ∧ c.toInt < (σ0 1 10).toInt) → v.toInt = (p : Int) + 1 → qV σ0 (qUp d p c) (p + 1) m τ → pk (g v τ) (qPo σ0 (qUp d p c) (p + 1) (qE may (σ0 1 10).toInt.toNat ((σ0 1 10).toInt.toNat - p - 1) (qUp d p c) (p + 1) m))) : ∀ (n : Nat) (x2 : Int32) (m : Nat) (σ : wc_S), qV σ0 d p m σ → 0 ≤ x2.toInt → x2.toInt ≤ (σ0 1 10).toInt → pk (wf_S_goOnAt_18 g n x1 x2 σ) (qPo σ0 d p (qLA may (σ0 1 10).toInt.toNat d p x2 m)) := by
  have hn := hW.2.1
  intro n
  induction n with
  | zero => intro x2 m σ _ _ _; exact pk_n
  | succ n ih =>
    intro x2 m σ hV g0 g1
    have hV' := hV
    obtain ⟨hs, ⟨v3, v4, v5, v6⟩, hL, hpen, hd⟩ := hV'
    show pk (wf_S_goOnAt_18_b g (wf_S_goOnAt_18 g n) x1 x2 σ) _
    unfold wf_S_goOnAt_18_b
    have hc1 : σ 1 10 = σ0 1 10 := hs 1 10 (by decide) (by decide) (by decide)
    refine pk_e (fun w3 e3 => pk_i (fun hc => pk_s ?_) (fun hc => ?_))
    · rw [e3, hc1, wn_le] at hc
      rw [qLA_end (by omega)]
      exact hV
    · rw [e3, hc1, wn_le] at hc
      have hup : (x2 + 1).toInt = x2.toInt + 1 := wn_up g0 (by omega)
      refine pk_e (fun w5 e5 => ?_)
      rw [e5, v6, if_pos rfl]
      have hD : ∀ k i, qD k i → σ k i = σ0 k i := fun k i hk => hs k i (by unfold qD at hk; omega) (by unfold qD at hk; omega) (by unfold qD at hk; omega)
      have hT : qT σ := qT_keep hD hW.1
      have el : (σ 30 9).toInt = p := hL.1
      have hprev : 0 < (σ 30 9).toInt → σ 31 ((σ 30 9).toInt - 1).toNat = d (p - 1) := fun h0 => by
        have := hL.2.1 ((σ 30 9).toInt - 1).toNat (by omega)
        rw [show ((σ 30 9).toInt - 1).toNat = p - 1 by omega] at this ⊢
        exact this
      have hmay : (σ 32 x2.toInt.toNat = 0 ∧ qM σ (σ 30 9).toInt (σ 31 ((σ 30 9).toInt - 1).toNat).toInt.toNat x2.toInt.toNat) ↔ may d p x2 = true := by
        rw [hm, qM_eq hD, el]
        have s1 : σ 32 x2.toInt.toNat = 0 ↔ ∀ j : Nat, j < p → d j ≠ x2 := by
          have := hL.2.2 x2.toInt.toNat (by omega)
          rw [show σ 32 x2.toInt.toNat = σ (30 + 2) x2.toInt.toNat from rfl, this]
          constructor
          · intro q j hj e
            exact q j (by omega) (by rw [e]; omega)
          · intro q j hj e
            have := hd j (by omega)
            exact q j (by omega) (wn_eq.2 (by omega))
        rw [s1]
        by_cases h0 : p = 0
        · subst h0; unfold qM; simp
        · have := hprev (by omega)
          rw [el] at this
          rw [this]
      refine pk_b2 (pq_mayPut (b := 30) (c := x2) (by rw [hc1]; exact hn.2) hT (by omega) (by rw [hc1]; omega) (fun h0 => ?_)) (fun r8 u hq => ?_)
      · have := hprev h0
        rw [show σ (30 + 1) ((σ 30 9).toInt - 1).toNat = σ 31 ((σ 30 9).toInt - 1).toNat from rfl, this, hc1]
        exact hd (p - 1) (by omega)
      · obtain ⟨hq, hu⟩ := hq
        have hu : u = σ := hu
        subst hu
        unfold wf_S_goOnAt_53
        rcases hq with ⟨q1, q2⟩ | ⟨q1, q2⟩
        · have q1 : r8 = 1 := q1
          have my : may d p x2 = true := hmay.1 q2
          rw [q1, if_neg (by decide)]
          have hst := ((hm d p x2).1 my).1
          cases m with
          | zero =>
            rw [qLA_0 g0 (by omega) my]
            have po : pk (wf_S_putAndGoOn g x2 x1 u) (fun τ => τ 68 5 = 0 ∧ τ 68 6 = 1) := by
              unfold wf_S_putAndGoOn
              refine pk_e (fun w1 e1 => ?_)
              rw [if_neg (by rw [e1, wn_lt, wn_0]; omega)]
              refine pk_e (fun σ14 e14 => pk_s ⟨?_, ?_⟩)
              · rw [e14, wu_other (Or.inr (by decide))]; exact v5
              · rw [e14, wu_same]
            refine pk_b1 po (fun t ht => pk_e (fun w10 e10 => pk_mono (pq_out18 ht.2 n) (fun z hz => ?_)))
            rw [hz]; exact ht
          | succ m =>
            rw [qLA_s (by omega) g0 (by omega) my]
            have key := pq_pag hW (g := g) (o := qE may (σ0 1 10).toInt.toNat ((σ0 1 10).toInt.toNat - p - 1) (qUp d p x2) (p + 1) m) hV hp h1 (c := x2) ⟨g0, by omega⟩ hst (fun v τ hv hτ => hg x2 v τ m ⟨g0, by omega⟩ hv hτ)
            · cases hE : qE may (σ0 1 10).toInt.toNat ((σ0 1 10).toInt.toNat - p - 1) (qUp d p x2) (p + 1) m with
              | none =>
                rw [hE] at key
                exact pk_b1 key (fun t ht => pk_e (fun w10 e10 => pq_found18 hgf n w10 t ht))
              | some o2 => cases o2 with
                | none =>
                  rw [hE] at key
                  refine pk_b1 key (fun t ht => pk_e (fun w10 e10 => pk_mono (pq_out18 ht.2 n) (fun z hz => ?_)))
                  rw [hz]; exact ht
                | some m2 =>
                  rw [hE] at key
                  refine pk_b1 key (fun t ht => pk_e (fun w10 e10 => ?_))
                  rw [e10]
                  exact ih (x2 + 1) m2 t ht (by omega) (by omega)
        · have q1 : r8 = 0 := q1
          have my : may d p x2 = false := by
            cases hh : may d p x2 with
            | false => rfl
            | true => exact absurd (hmay.2 hh) q2
          rw [q1, if_pos rfl, qLA_no (by omega) g0 (by omega) my]
          refine pk_e (fun w10 e10 => ?_)
          rw [e10]
          exact ih (x2 + 1) m u hV (by omega) (by omega)
/-! run: class and model -/
theorem pq_goOnAt {σ0 : wc_S} (hW : qW σ0) {may : (Nat → Int32) → Nat → Int32 → Bool} (hm : qMy σ0 may) : ∀ (n : Nat) (d : Nat → Int32) (p m : Nat) (a1 : Int32) (σ : wc_S), qV σ0 d p m σ → a1.toInt = (p : Int) → (p : Int) ≤ (σ0 1 10).toInt → pk (wf_S_goOnAt n a1 σ) (qPo σ0 d p (qE may (σ0 1 10).toInt.toNat ((σ0 1 10).toInt.toNat - p) d p m)) := by
  have hn := hW.2.1
  intro n
  induction n with
  | zero => intro d p m a1 σ _ _ _; exact pk_n
  | succ n ih =>
    intro d p m a1 σ hV ha hp
    show pk (wf_S_goOnAt_r (wf_S_goOnAt n) a1 σ) _
    unfold wf_S_goOnAt_r
    have hc1 : σ 1 10 = σ0 1 10 := hV.1 1 10 (by decide) (by decide) (by decide)
    refine pk_e (fun v1 e1 => pk_i (fun hc => ?_) (fun hc => ?_))
    · rw [e1, hc1, wn_lt] at hc
      rw [qE_LA (by omega)]
      refine pq_go18 hW hm (pq_found n) (by omega) ha (fun c v τ m2 hc2 hv hτ => ?_) 16 0 m σ hV (by decide) (by rw [wn_0]; omega)
      have := ih (qUp d p c) (p + 1) m2 v τ hτ (by omega) (by omega)
      rw [show (σ0 1 10).toInt.toNat - (p + 1) = (σ0 1 10).toInt.toNat - p - 1 by omega] at this
      exact this
    · rw [e1, hc1, wn_lt] at hc
      rw [show (σ0 1 10).toInt.toNat - p = 0 by omega]
      exact pk_b1 pq_keepBest (fun u hu => pk_s hu)
/-- whether the search finds an order -/
def qFo (may : (Nat → Int32) → Nat → Int32 → Bool) (N : Nat) (m : Nat) : Prop := qE may N N (fun _ => 0) 0 m = none
theorem pq_searchWith {σ : wc_S} (hW : qW σ) (h34 : σ 34 0 = 0) {may : (Nat → Int32) → Nat → Int32 → Bool} (hm : qMy σ may) {a1 : Int32} (ha : 0 ≤ a1.toInt) : pk (wf_S_searchWith a1 σ) (fun τ => (qFo may (σ 1 10).toInt.toNat a1.toInt.toNat → τ 68 5 = 1) ∧ (¬ qFo may (σ 1 10).toInt.toNat a1.toInt.toNat → τ 68 5 = 0)) := by
  have hn := hW.2.1
  unfold wf_S_searchWith
  refine pk_e (fun σ1 e1 => pk_e (fun σ2 e2 => pk_e (fun σ3 e3 => pk_e (fun σ4 e4 => ?_))))
  have k4 : ∀ k i, k ≠ 68 → σ4 k i = σ k i := fun k i hk => by
    rw [e4, wu_other (Or.inl hk), e3, wu_other (Or.inl hk), e2, wu_other (Or.inl hk), e1, wu_other (Or.inl hk)]
  refine pk_b1 (Q := qV σ (fun _ => 0) 0 a1.toInt.toNat) (fun u eu => ?_) (fun u hu => ?_)
  · have fr := wr_L_clear 30 σ4 u eu
    have frk : ∀ k i, k ≠ 30 → k ≠ 32 → u k i = σ4 k i := fun k i h1 h2 => fr k i (fun q => by unfold wS_L_clear at q; omega)
    obtain ⟨c1, c2⟩ := pq_clear (b := 30) u eu
    refine ⟨fun k i h1 h2 h3 => ?_, ⟨?_, ?_, ?_, ?_⟩, ⟨by rw [c1]; rfl, fun j hj => by omega, fun c hc => ?_⟩, fun j hj => ?_, fun j hj => by omega⟩
    · rw [frk k i (by omega) (by omega), k4 k i h2]
    · rw [frk 68 3 (by decide) (by decide), e4, wu_other (Or.inr (by decide)), e3, wu_other (Or.inr (by decide)), e2, wu_same]
    · rw [frk 68 4 (by decide) (by decide), e4, wu_other (Or.inr (by decide)), e3, wu_other (Or.inr (by decide)), e2, wu_other (Or.inr (by decide)), e1, wu_same]; omega
    · rw [frk 68 5 (by decide) (by decide), e4, wu_other (Or.inr (by decide)), e3, wu_same]
    · rw [frk 68 6 (by decide) (by decide), e4, wu_same]
    · have := c2 c hc
      rw [this]
      exact ⟨fun _ j hj => by omega, fun _ => rfl⟩
    · have : j = 0 := by omega
      subst this
      rw [frk 34 0 (by decide) (by decide), k4 34 0 (by decide), h34, wn_0]; omega
  · refine pk_b1 (pq_goOnAt hW hm 11 (fun _ => 0) 0 a1.toInt.toNat 0 u hu rfl (by omega)) (fun t ht => pk_s ?_)
    rw [Nat.sub_zero] at ht
    unfold qFo
    cases hE : qE may (σ 1 10).toInt.toNat (σ 1 10).toInt.toNat (fun _ => 0) 0 a1.toInt.toNat with
    | none => rw [hE] at ht; exact ⟨fun _ => ht, fun h => absurd rfl h⟩
    | some o => cases o with
      | none => rw [hE] at ht; exact ⟨(fun h => by cases h), fun _ => ht.1⟩
      | some m2 => rw [hE] at ht; exact ⟨(fun h => by cases h), fun _ => ht.2.1.2.2.1⟩
theorem pq_Krun {σ : wc_S} (hW : qW σ) (h34 : σ 34 0 = 0) {may : (Nat → Int32) → Nat → Int32 → Bool} (hm : qMy σ may) (a : Int32) : pk (wf_K_run a σ) (fun r => ((¬ a < 0 ∧ a ≤ 100000) → r.1 = 0 ∧ (qFo may (σ 1 10).toInt.toNat a.toInt.toNat → r.2 88 0 = σ 1 10) ∧ (¬ qFo may (σ 1 10).toInt.toNat a.toInt.toNat → r.2 88 0 = -1)) ∧ (¬ (¬ a < 0 ∧ a ≤ 100000) → r.1 = 1)) := by
  unfold wf_K_run wf_W_run
  by_cases h : ¬ a < 0 ∧ a ≤ 100000
  · rw [ob0 h, if_pos rfl]
    have ha : 0 ≤ a.toInt := by have := h.1; rw [wn_lt, wn_0] at this; omega
    refine pk_cti (Q := fun q => ∃ r u, q = .inr (r, u) ∧ (qFo may (σ 1 10).toInt.toNat a.toInt.toNat → r = σ 1 10) ∧ (¬ qFo may (σ 1 10).toInt.toNat a.toInt.toNat → r = -1)) ?_ (fun k u hq => by obtain ⟨_, _, hq, _⟩ := hq; cases hq) (fun r u hq => ?_)
    · refine pk_b1 (Q := fun τ => ((qFo may (σ 1 10).toInt.toNat a.toInt.toNat → τ 68 5 = 1) ∧ (¬ qFo may (σ 1 10).toInt.toNat a.toInt.toNat → τ 68 5 = 0)) ∧ τ 1 10 = σ 1 10) (fun τ eτ => ⟨pq_searchWith hW h34 hm ha τ eτ, wr_S_searchWith a σ τ eτ 1 10 (fun q => by unfold wS_S_searchWith at q; omega)⟩) (fun τ hτ => ?_)
      obtain ⟨⟨t1, t2⟩, t3⟩ := hτ
      refine pk_e (fun σ5 e5 => pk_e (fun v6 e6 => pk_g (fun _ => pk_e (fun σ8 e8 => pk_e (fun v9 e9 => ?_)))))
      have h9 : v9 = τ 68 5 := by rw [e9, e8, wu_same, e6, e5, wu_other (Or.inl (by decide))]
      have h10 : σ8 1 10 = σ 1 10 := by rw [e8, wu_other (Or.inl (by decide)), e5, wu_other (Or.inl (by decide)), t3]
      refine pk_i (fun hz => pk_s ⟨-1, σ8, rfl, fun hf => ?_, fun _ => rfl⟩) (fun hz => ?_)
      · rw [h9, t1 hf] at hz; exact absurd hz (by decide)
      · refine pk_b2 (Q := fun r => r.2 1 10 = σ 1 10) (fun x e => ?_) (fun r12 σ11 hq => ?_)
        · show x.2 1 10 = σ 1 10
          rw [wr_L_layAll 49 69 σ8 x e 1 10 (fun q => by unfold wS_L_layAll at q; omega), h10]
        · have hq : σ11 1 10 = σ 1 10 := hq
          refine pk_e (fun v13 e13 => pk_s ⟨v13, σ11, rfl, fun _ => by rw [e13, hq], fun hf => ?_⟩)
          rw [h9, t2 hf] at hz; exact absurd rfl hz
    · obtain ⟨r2, u2, hq, h1, h2⟩ := hq
      cases hq
      refine pk_g (fun _ => pk_s ⟨fun _ => ⟨rfl, fun hf => ?_, fun hf => ?_⟩, fun hn => absurd h hn⟩)
      · show wc_u u 88 0 r 88 0 = _
        rw [wu_same]; exact h1 hf
      · show wc_u u 88 0 r 88 0 = _
        rw [wu_same]; exact h2 hf
  · rw [ob1 h, if_neg (by decide)]
    exact pk_s ⟨fun hh => absurd hh h, fun _ => rfl⟩
/-! the model's search: what it leaves, and that an order that was found stays -/
theorem pq_run291 {σ : wc_S} : pk (wf_M_run_291 σ) (fun r => r.2 = σ ∧ (σ 71 22 = 0 → r.1 = -1) ∧ (σ 71 22 = 1 → r.1 = σ 71 1)) := by
  unfold wf_M_run_291
  refine pk_e (fun v14 e14 => pk_i (fun h => pk_s ⟨rfl, fun _ => rfl, fun q => ?_⟩) (fun h => pk_e (fun v16 e16 => pk_s ⟨rfl, fun q => ?_, fun _ => e16⟩)))
  · rw [e14, q] at h; exact absurd h (by decide)
  · rw [e14, q] at h; exact absurd rfl h
def qR (σ : wc_S) (r : Int32 × wc_S) : Prop := r.2 71 0 = σ 71 0 ∧ (σ 71 22 = 1 → r.1 = σ 71 1)
theorem qR_of {σ τ : wc_S} {r : Int32 × wc_S} (h0 : τ 71 0 = σ 71 0) (h1 : τ 71 1 = σ 71 1) (h22 : σ 71 22 = 1 → τ 71 22 = 1) (h : qR τ r) : qR σ r := ⟨h.1.trans h0, fun q => (h.2 (h22 q)).trans h1⟩
theorem qR_86 {σ : wc_S} {k i : Nat} {x : Int32} (hk : k = 85 ∨ k = 86) {r : Int32 × wc_S} (h : qR (wc_u σ k i x) r) : qR σ r := qR_of (wu_other (Or.inl (by omega))) (wu_other (Or.inl (by omega))) (fun q => by rw [wu_other (Or.inl (by omega))]; exact q) h
theorem pq_rord234 {k61 : Int32 → Int32 → Int32 → wc_S → Option (Int32 × wc_S)} (hk : ∀ a b c τ, pk (k61 a b c τ) (qR τ)) : ∀ (n : Nat) (x2 x3 x4 x5 : Int32) (σ : wc_S), pk (wf_M_run_234 k61 n x2 x3 x4 x5 σ) (qR σ) := by
  intro n
  induction n with
  | zero => intro x2 x3 x4 x5 σ; exact pk_n
  | succ n ih =>
    intro x2 x3 x4 x5 σ
    show pk (wf_M_run_234_b k61 (wf_M_run_234 k61 n) x2 x3 x4 x5 σ) _
    unfold wf_M_run_234_b
    refine pk_e (fun v57 _ => pk_i (fun _ => pk_g (fun _ => pk_e (fun v60 _ => pk_e (fun v61 _ => pk_g (fun _ => pk_e (fun σ63 e63 => ?_)))))) (fun _ => pk_g (fun _ => pk_e (fun v65 _ => pk_g (fun _ => pk_e (fun σ67 e67 => pk_e (fun v68 _ => ?_)))))))
    · exact pk_mono (hk x2 x3 x4 σ63) (fun r hr => by rw [e63] at hr; exact qR_86 (by omega) hr)
    · exact pk_mono (ih x2 x3 x4 v68 σ67) (fun r hr => by rw [e67] at hr; exact qR_86 (by omega) hr)
theorem pq_rord : ∀ (n : Nat) (x2 x3 x4 : Int32) (σ : wc_S), pk (wf_M_run_61 n x2 x3 x4 σ) (qR σ) := by
  intro n
  induction n with
  | zero => intro x2 x3 x4 σ; exact pk_n
  | succ n ih =>
    intro x2 x3 x4 σ
    have h291 : ∀ u : wc_S, pk (wf_M_run_291 u) (qR u) := fun u => pk_mono pq_run291 (fun r hr => ⟨by rw [hr.1], hr.2.2⟩)
    have h89 : ∀ x4 : Int32, pk (wf_M_run_89 (wf_M_run_61 n) x2 x3 x4 σ) (qR σ) := by
      intro x4
      unfold wf_M_run_89
      refine pk_e (fun v19 _ => pk_i (fun _ => ih _ _ _ σ) (fun _ => pk_g (fun _ => pk_e (fun v22 _ => pk_e (fun v23 _ => pk_g (fun _ => pk_e (fun σ25 e25 => ?_)))))))
      exact pk_mono (ih x2 x3 v19 σ25) (fun r hr => by rw [e25] at hr; exact qR_86 (by omega) hr)
    have h140 : pk (wf_M_run_140 (wf_M_run_61 n) x2 x3 x4 σ) (qR σ) := by
      unfold wf_M_run_140
      refine pk_g (fun _ => pk_e (fun v36 _ => pk_e (fun v37 _ => pk_g (fun _ => pk_e (fun σ39 e39 => ?_)))))
      exact pk_mono (ih x2 x3 x4 σ39) (fun r hr => by rw [e39] at hr; exact qR_86 (by omega) hr)
    have h210 : ∀ (x3 : Int32) (u : wc_S), pk (wf_M_run_210 (wf_M_run_61 n) x2 x3 x4 u) (qR u) := by
      intro x3 u
      unfold wf_M_run_210
      refine pk_e (fun v49 _ => pk_e (fun v50 _ => pk_i (fun _ => pk_e (fun σ55 e55 => pk_e (fun v56 _ => ?_))) (fun _ => pk_e (fun v52 _ => pk_g (fun _ => pk_e (fun σ54 e54 => ?_))))))
      · refine pk_mono (pq_rord234 ih 16 v56 x3 x4 0 σ55) (fun r hr => ?_)
        rw [e55] at hr
        exact qR_of (wu_other (Or.inr (by decide))) (wu_other (Or.inr (by decide))) (fun _ => wu_same) hr
      · exact pk_mono (ih x2 x3 v52 σ54) (fun r hr => by rw [e54] at hr; exact qR_86 (by omega) hr)
    show pk (wf_M_run_61_b (wf_M_run_61 n) x2 x3 x4 σ) _
    unfold wf_M_run_61_b
    refine pk_i (fun _ => h291 σ) (fun _ => pk_e (fun v17 _ => pk_i (fun _ => h89 x4) (fun _ => pk_g (fun _ => pk_e (fun v27 _ => pk_e (fun v28 _ => pk_i (fun _ => h89 x4) (fun _ => pk_g (fun _ => pk_e (fun v31 _ => ?_)))))))))
    refine pk_b2 (Q := fun r => r.2 = σ) (fun x e => wr_same (wr_M_stands v31 x4 σ x e) (fun _ _ h => h)) (fun r33 u hu => ?_)
    have hu : u = σ := hu
    rw [hu]
    refine pk_i (fun _ => ?_) (fun _ => h140)
    refine pk_b2 (Q := fun r => r.2 = σ) (fun x e => wr_same (wr_M_mayBe 86 x4 σ x e) (fun _ _ h => h)) (fun r41 u2 hu2 => ?_)
    have hu2 : u2 = σ := hu2
    rw [hu2]
    refine pk_i (fun _ => h140) (fun _ => pk_i (fun _ => pk_e (fun σ76 e76 => ?_)) (fun _ => pk_e (fun v44 _ => pk_e (fun v45 _ => ?_))))
    · refine pk_mono (h291 σ76) (fun r hr => ?_)
      rw [e76] at hr
      exact qR_of (wu_other (Or.inr (by decide))) (wu_other (Or.inr (by decide))) (fun q => by rw [wu_other (Or.inr (by decide))]; exact q) hr
    · refine pk_b1 (Q := fun w => ∀ i, i = 0 ∨ i = 1 ∨ i = 22 → w 71 i = σ 71 i) (fun w ew i hi => wr_M_reckon 86 v45 σ w ew 71 i (fun q => by unfold wS_M_reckon at q; omega)) (fun w hw => ?_)
      have back : ∀ r, qR w r → qR σ r := fun r hr => qR_of (hw 0 (by omega)) (hw 1 (by omega)) (fun q => by rw [hw 22 (by omega)]; exact q) hr
      refine pk_e (fun v47 _ => pk_i (fun _ => pk_mono (h210 v44 w) back) (fun _ => pk_e (fun v69 _ => pk_i (fun _ => pk_mono (h210 v44 w) back) (fun _ => ?_))))
      refine pk_g (fun _ => pk_e (fun v72 _ => pk_e (fun v73 _ => pk_g (fun _ => pk_e (fun σ75 e75 => ?_)))))
      exact pk_mono (ih x2 v44 x4 σ75) (fun r hr => by rw [e75] at hr; exact back r (qR_86 (by omega) hr))
/-! the function, step by step as the model goes -/
theorem qE_cong {σ0 : wc_S} {may : (Nat → Int32) → Nat → Int32 → Bool} (hm : qMy σ0 may) {N : Nat} : ∀ (f : Nat) (d d' : Nat → Int32) (p m : Nat), (∀ j, j < p → d j = d' j) → qE may N f d p m = qE may N f d' p m := by
  intro f
  induction f with
  | zero => intro d d' p m _; rfl
  | succ f ih =>
    intro d d' p m h
    show qLoop (may d p) (fun c m' => qE may N f (qUp d p c) (p + 1) m') N 0 m = qLoop (may d' p) (fun c m' => qE may N f (qUp d' p c) (p + 1) m') N 0 m
    rw [qMy_cong hm h]
    congr 1
    funext c m'
    refine ih _ _ _ _ (fun j hj => ?_)
    unfold qUp
    split
    · rfl
    · exact h j (by omega)
theorem qLA_cong {σ0 : wc_S} {may : (Nat → Int32) → Nat → Int32 → Bool} (hm : qMy σ0 may) {N : Nat} {d d' : Nat → Int32} {p : Nat} {c : Int32} {m : Nat} (h : ∀ j, j < p → d j = d' j) : qLA may N d p c m = qLA may N d' p c m := by
  unfold qLA
  rw [qMy_cong hm h]
  congr 1
  funext c m'
  refine qE_cong hm _ _ _ _ _ (fun j hj => ?_)
  unfold qUp
  split
  · rfl
  · exact h j (by omega)
theorem qU_cong {σ0 : wc_S} {may : (Nat → Int32) → Nat → Int32 → Bool} (hm : qMy σ0 may) {N : Nat} : ∀ (p : Nat) (d d' : Nat → Int32) (c : Int32) (m : Nat), (∀ j, j < p → d j = d' j) → (qU may N p d c m ↔ qU may N p d' c m) := by
  intro p
  induction p with
  | zero =>
    intro d d' c m h
    show qLA may N d 0 c m = none ↔ qLA may N d' 0 c m = none
    rw [qLA_cong hm h]
  | succ p ih =>
    intro d d' c m h
    show (qLA may N d (p + 1) c m = none ∨ ∃ m', qLA may N d (p + 1) c m = some (some m') ∧ qU may N p d (d p + 1) m') ↔ (qLA may N d' (p + 1) c m = none ∨ ∃ m', qLA may N d' (p + 1) c m = some (some m') ∧ qU may N p d' (d' p + 1) m')
    rw [qLA_cong hm h, h p (by omega)]
    have e : ∀ m', qU may N p d (d' p + 1) m' ↔ qU may N p d' (d' p + 1) m' := fun m' => ih d d' _ m' (fun j hj => h j (by omega))
    simp only [e]
theorem qU_of {may : (Nat → Int32) → Nat → Int32 → Bool} {N p : Nat} {d : Nat → Int32} {c c' : Int32} {m m' : Nat} (h : qLA may N d p c m = qLA may N d p c' m') : qU may N p d c m ↔ qU may N p d c' m' := by
  cases p with
  | zero => show _ = none ↔ _ = none; rw [h]
  | succ p =>
    show (qLA may N d (p + 1) c m = none ∨ ∃ m2, qLA may N d (p + 1) c m = some (some m2) ∧ qU may N p d (d p + 1) m2) ↔ (qLA may N d (p + 1) c' m' = none ∨ ∃ m2, qLA may N d (p + 1) c' m' = some (some m2) ∧ qU may N p d (d p + 1) m2)
    rw [h]
theorem qU_end {may : (Nat → Int32) → Nat → Int32 → Bool} {N p m : Nat} {d : Nat → Int32} {c : Int32} (h : (N : Int) ≤ c.toInt) : qU may N (p + 1) d c m ↔ qU may N p d (d p + 1) m := by
  show (qLA may N d (p + 1) c m = none ∨ ∃ m2, qLA may N d (p + 1) c m = some (some m2) ∧ qU may N p d (d p + 1) m2) ↔ _
  rw [qLA_end h]
  constructor
  · rintro (q | ⟨m2, q, q2⟩)
    · cases q
    · cases q; exact q2
  · exact fun q => Or.inr ⟨m, rfl, q⟩
theorem qU_end0 {may : (Nat → Int32) → Nat → Int32 → Bool} {N m : Nat} {d : Nat → Int32} {c : Int32} (h : (N : Int) ≤ c.toInt) : ¬ qU may N 0 d c m := by
  show ¬ qLA may N d 0 c m = none
  rw [qLA_end h]; intro q; cases q
theorem qU_none {may : (Nat → Int32) → Nat → Int32 → Bool} {N p m : Nat} {d : Nat → Int32} {c : Int32} (h : qLA may N d p c m = none) : qU may N p d c m := by
  cases p with
  | zero => exact h
  | succ p => exact Or.inl h
theorem qU_left {may : (Nat → Int32) → Nat → Int32 → Bool} {N p m : Nat} {d : Nat → Int32} {c : Int32} (h : qLA may N d p c m = some none) : ¬ qU may N p d c m := by
  cases p with
  | zero => show ¬ _ = none; rw [h]; intro q; cases q
  | succ p =>
    rintro (q | ⟨m2, q, _⟩)
    · rw [h] at q; cases q
    · rw [h] at q; cases q
theorem qU_down {σ0 : wc_S} {may : (Nat → Int32) → Nat → Int32 → Bool} (hm : qMy σ0 may) {N : Nat} (hN : N ≤ 9) {p m : Nat} {d : Nat → Int32} {c : Int32} (h0 : 0 ≤ c.toInt) (h : c.toInt < N) (hp : p + 1 < N) (my : may d p c = true) (hd : d p = c) : qU may N p d c (m + 1) ↔ qU may N (p + 1) d 0 m := by
  have e := qLA_s hN (m := m) h0 h my
  have eU : qUp d p c = d := by
    funext j
    unfold qUp
    split
    · rename_i q; rw [q, hd]
    · rfl
  rw [eU] at e
  have eX : qE may N (N - p - 1) d (p + 1) m = qLA may N d (p + 1) 0 m := by
    rw [show N - p - 1 = N - (p + 1) by omega]
    exact qE_LA hp
  rw [eX] at e
  cases hX : qLA may N d (p + 1) 0 m with
  | none =>
    rw [hX] at e
    exact ⟨fun _ => qU_none hX, fun _ => qU_none e⟩
  | some o => cases o with
    | none =>
      rw [hX] at e
      exact ⟨fun q => absurd q (qU_left e), fun q => absurd q (qU_left hX)⟩
    | some m2 =>
      rw [hX] at e
      have e : qLA may N d p c (m + 1) = qLA may N d p (c + 1) m2 := e
      rw [qU_of e]
      constructor
      · intro q
        exact Or.inr ⟨m2, hX, by rw [hd]; exact q⟩
      · rintro (q | ⟨m3, q, q2⟩)
        · rw [hX] at q; cases q
        · rw [hX] at q; cases q
          rw [hd] at q2; exact q2
/-! the model's search finds an order where the function does -/
theorem pq_run61 {σ0 : wc_S} (hT0 : qT σ0) (h78 : q78 σ0) (hN : 0 ≤ (σ0 71 1).toInt ∧ (σ0 71 1).toInt ≤ 9) {may : (Nat → Int32) → Nat → Int32 → Bool} (hm : qMy σ0 may) : ∀ (n : Nat) (x2 x3 x4 : Int32) (p : Nat) (σ : wc_S), (∀ k i, qD k i → σ k i = σ0 k i) → σ 71 22 = 0 → x4.toInt = (p : Int) → (p : Int) < (σ0 71 1).toInt → 0 ≤ x3.toInt → (∀ j : Nat, j < p → 0 ≤ (σ 86 j).toInt ∧ (σ 86 j).toInt < (σ0 71 1).toInt) → (0 ≤ (σ 86 p).toInt ∧ (σ 86 p).toInt ≤ (σ0 71 1).toInt) → pk (wf_M_run_61 n x2 x3 x4 σ) (fun r => (qU may (σ0 71 1).toInt.toNat p (σ 86) (σ 86 p) x3.toInt.toNat → r.1 = σ0 71 1) ∧ (¬ qU may (σ0 71 1).toInt.toNat p (σ 86) (σ 86 p) x3.toInt.toNat → r.1 = -1)) := by
  intro n
  induction n with
  | zero => intro x2 x3 x4 p σ _ _ _ _ _ _ _; exact pk_n
  | succ n ih =>
    intro x2 x3 x4 p σ hD h22 h4 hp h3 hd hc
    show pk (wf_M_run_61_b (wf_M_run_61 n) x2 x3 x4 σ) _
    unfold wf_M_run_61_b
    have h1 : σ 71 1 = σ0 71 1 := hD 71 1 (by unfold qD; omega)
    have hT : qT σ := qT_keep hD hT0
    have hj : q78 σ := fun i => by rw [hD 78 i (by unfold qD; omega)]; exact h78 i
    have e4n : x4.toInt.toNat = p := by omega
    rw [if_neg (by rw [wn_lt, wn_0]; omega)]
    refine pk_e (fun v17 e17 => ?_)
    rw [if_neg (by rw [e17, h1, wn_eq]; omega)]
    refine pk_g (fun _ => pk_e (fun v27 e27 => pk_e (fun v28 e28 => ?_)))
    rw [wn_tn, e4n] at e27
    refine pk_i (fun hend => ?_) (fun hend => ?_)
    · rw [e27, e28, h1] at hend
      have cN : ((σ0 71 1).toInt.toNat : Int) ≤ (σ 86 p).toInt := by rw [hend]; omega
      unfold wf_M_run_89
      refine pk_e (fun v19 e19 => ?_)
      have h19 : v19.toInt = (p : Int) - 1 := by rw [e19, wn_add (by rw [wn_m1]; omega) (by rw [wn_m1]; omega), wn_m1]; omega
      cases p with
      | zero =>
        rw [if_pos (by rw [wn_lt, wn_0]; omega)]
        have hno : ¬ qU may (σ0 71 1).toInt.toNat 0 (σ 86) (σ 86 0) x3.toInt.toNat := qU_end0 cN
        have : pk (wf_M_run_61 n x2 x3 v19 σ) (fun r => r.1 = -1) := by
          cases n with
          | zero => exact pk_n
          | succ n =>
            show pk (wf_M_run_61_b (wf_M_run_61 n) x2 x3 v19 σ) _
            unfold wf_M_run_61_b
            rw [if_pos (by rw [wn_lt, wn_0]; omega)]
            exact pk_mono pq_run291 (fun r hr => hr.2.1 h22)
        exact pk_mono this (fun r hr => ⟨fun q => absurd q hno, fun _ => hr⟩)
      | succ q =>
        rw [if_neg (by rw [wn_lt, wn_0]; omega)]
        have e19n : v19.toInt.toNat = q := by omega
        refine pk_g (fun _ => pk_e (fun v22 e22 => pk_e (fun v23 e23 => pk_g (fun _ => pk_e (fun σ25 e25 => ?_)))))
        rw [wn_tn, e19n] at e22 e25
        have dq := hd q (by omega)
        have h23 : v23.toInt = (σ 86 q).toInt + 1 := by rw [e23, e22]; exact wn_up dq.1 (by omega)
        have hag : ∀ j, j < q → σ 86 j = σ25 86 j := fun j hj => by rw [e25, wu_other (Or.inr (by omega))]
        have hq25 : σ25 86 q = σ 86 q + 1 := by rw [e25, wu_same, e23, e22]
        have eqU : qU may (σ0 71 1).toInt.toNat (q + 1) (σ 86) (σ 86 (q + 1)) x3.toInt.toNat ↔ qU may (σ0 71 1).toInt.toNat q (σ25 86) (σ25 86 q) x3.toInt.toNat := by
          rw [qU_end cN, hq25]
          exact qU_cong hm q _ _ _ _ hag
        rw [eqU]
        refine ih x2 x3 v19 q σ25 (fun k i hk => ?_) (by rw [e25, wu_other (Or.inl (by decide))]; exact h22) (by omega) (by omega) h3 (fun j hj => ?_) ?_
        · rw [e25, wu_other (Or.inl (by unfold qD at hk; omega))]; exact hD k i hk
        · rw [← hag j hj]; exact hd j (by omega)
        · rw [e25, wu_same]; omega
    · rw [e27, e28, h1] at hend
      have cN : (σ 86 p).toInt < (σ0 71 1).toInt := by
        have : (σ 86 p).toInt ≠ (σ0 71 1).toInt := fun q => hend (wn_eq.2 q)
        omega
      have hup : (σ 86 p + 1).toInt = (σ 86 p).toInt + 1 := wn_up hc.1 (by omega)
      have skip : ∀ (τ : wc_S) (x3' : Int32), 0 ≤ x3'.toInt → τ = wc_u σ 86 p (σ 86 p + 1) → may (σ 86) p (σ 86 p) = false → pk (wf_M_run_61 n x2 x3' x4 τ) (fun r => (qU may (σ0 71 1).toInt.toNat p (σ 86) (σ 86 p) x3'.toInt.toNat → r.1 = σ0 71 1) ∧ (¬ qU may (σ0 71 1).toInt.toNat p (σ 86) (σ 86 p) x3'.toInt.toNat → r.1 = -1)) := by
        intro τ x3' hx eτ my
        have hag : ∀ j, j < p → σ 86 j = τ 86 j := fun j hj => by rw [eτ, wu_other (Or.inr (by omega))]
        have hpt : τ 86 p = σ 86 p + 1 := by rw [eτ, wu_same]
        have eqU : qU may (σ0 71 1).toInt.toNat p (σ 86) (σ 86 p) x3'.toInt.toNat ↔ qU may (σ0 71 1).toInt.toNat p (τ 86) (τ 86 p) x3'.toInt.toNat := by
          rw [hpt, qU_of (qLA_no (by omega) hc.1 (by omega) my)]
          exact qU_cong hm p _ _ _ _ hag
        rw [eqU]
        refine ih x2 x3' x4 p τ (fun k i hk => ?_) (by rw [eτ, wu_other (Or.inl (by decide))]; exact h22) h4 hp hx (fun j hj => ?_) ?_
        · rw [eτ, wu_other (Or.inl (by unfold qD at hk; omega))]; exact hD k i hk
        · rw [← hag j hj]; exact hd j hj
        · rw [hpt]; omega
      have h140 : may (σ 86) p (σ 86 p) = false → pk (wf_M_run_140 (wf_M_run_61 n) x2 x3 x4 σ) (fun r => (qU may (σ0 71 1).toInt.toNat p (σ 86) (σ 86 p) x3.toInt.toNat → r.1 = σ0 71 1) ∧ (¬ qU may (σ0 71 1).toInt.toNat p (σ 86) (σ 86 p) x3.toInt.toNat → r.1 = -1)) := by
        intro my
        unfold wf_M_run_140
        refine pk_g (fun _ => pk_e (fun v36 e36 => pk_e (fun v37 e37 => pk_g (fun _ => pk_e (fun σ39 e39 => ?_)))))
        rw [wn_tn, e4n] at e36 e39
        exact skip σ39 x3 h3 (by rw [e39, e37, e36]) my
      refine pk_g (fun _ => pk_e (fun v31 e31 => ?_))
      rw [wn_tn, e4n] at e31
      refine pk_b2 (pq_stands v31 x4 ⟨by omega, by omega⟩) (fun r33 u hq => ?_)
      obtain ⟨hq, hu⟩ := hq
      have hu : u = σ := hu
      rw [hu]
      rcases hq with ⟨q1, j, q2, q3⟩ | ⟨q1, q2⟩
      · have q1 : r33 = 1 := q1
        rw [q1, if_neg (by decide)]
        refine h140 ?_
        cases hh : may (σ 86) p (σ 86 p) with
        | false => rfl
        | true => exact absurd (q3.trans e31) (((hm _ _ _).1 hh).1 j (by omega))
      · have q1 : r33 = 0 := q1
        rw [q1, if_pos rfl]
        have hqM : qM σ x4.toInt (σ 86 (x4.toInt - 1).toNat).toInt.toNat (σ 86 x4.toInt.toNat).toInt.toNat ↔ qM σ0 p (σ 86 (p - 1)).toInt.toNat (σ 86 p).toInt.toNat := by
          rw [qM_eq hD, e4n, h4, show ((p : Int) - 1).toNat = p - 1 by omega]
        refine pk_b2 (pq_mayBe (k1 := 86) hj hT ⟨by omega, by omega⟩) (fun r41 u2 hq2 => ?_)
        obtain ⟨hq2, hu2⟩ := hq2
        have hu2 : u2 = σ := hu2
        rw [hu2]
        rcases hq2 with ⟨w1, w2⟩ | ⟨w1, w2⟩
        · have w1 : r41 = 1 := w1
          rw [w1, if_neg (by decide)]
          have my : may (σ 86) p (σ 86 p) = true := by
            rw [hm]
            refine ⟨fun j hj => ?_, hqM.1 w2⟩
            have := q2 j (by omega)
            rw [e31] at this
            exact this
          refine pk_i (fun hz => pk_e (fun σ76 e76 => ?_)) (fun hz => pk_e (fun v44 e44 => pk_e (fun v45 e45 => ?_)))
          · rw [hz]
            have hno : ¬ qU may (σ0 71 1).toInt.toNat p (σ 86) (σ 86 p) (0 : Int32).toInt.toNat := qU_left (qLA_0 hc.1 (by omega) my)
            refine pk_mono pq_run291 (fun r hr => ⟨fun q => absurd q hno, fun _ => hr.2.1 ?_⟩)
            rw [e76, wu_other (Or.inr (by decide))]; exact h22
          · rw [wn_eq, wn_0] at hz
            have h44 : v44.toInt = x3.toInt - 1 := by
              have := Int32.toInt_lt x3
              rw [e44, wn_add (by rw [wn_m1]; omega) (by rw [wn_m1]; omega), wn_m1]; omega
            have em : x3.toInt.toNat = v44.toInt.toNat + 1 := by omega
            refine pk_b1 (Q := fun w => ∀ k i, (k ≠ 71 ∨ (i ≠ 25 ∧ i ≠ 26 ∧ i ≠ 27)) → k ≠ 87 → w k i = σ k i) (fun w ew k i g1 g2 => wr_M_reckon 86 v45 σ w ew k i (fun q => by unfold wS_M_reckon at q; omega)) (fun w hw => ?_)
            have w22 : w 71 22 = 0 := by rw [hw 71 22 (by decide) (by decide)]; exact h22
            have w1' : w 71 1 = σ0 71 1 := by rw [hw 71 1 (by decide) (by decide)]; exact h1
            have w86 : ∀ j, w 86 j = σ 86 j := fun j => hw 86 j (Or.inl (by decide)) (by decide)
            have wD : ∀ k i, qD k i → w k i = σ0 k i := fun k i hk => by rw [hw k i (by unfold qD at hk; omega) (by unfold qD at hk; omega)]; exact hD k i hk
            refine pk_e (fun v47 e47 => ?_)
            rw [e47, w22, if_pos rfl]
            unfold wf_M_run_210
            refine pk_e (fun v49 e49 => pk_e (fun v50 e50 => ?_))
            have h50 : v50.toInt = (σ0 71 1).toInt - 1 := by rw [e50, e49, w1']; exact wn_dn hN.1 (by omega)
            refine pk_i (fun hl => pk_e (fun σ55 e55 => pk_e (fun v56 e56 => ?_))) (fun hl => pk_e (fun v52 e52 => pk_g (fun _ => pk_e (fun σ54 e54 => ?_))))
            · rw [wn_eq] at hl
              have hU : qU may (σ0 71 1).toInt.toNat p (σ 86) (σ 86 p) x3.toInt.toNat := by
                refine qU_none ?_
                rw [em, qLA_s (by omega) hc.1 (by omega) my, show (σ0 71 1).toInt.toNat - p - 1 = 0 by omega]
                rfl
              refine pk_mono (pq_rord234 (pq_rord n) 16 v56 v44 x4 0 σ55) (fun r hr => ⟨fun _ => ?_, fun q => absurd hU q⟩)
              rw [hr.2 (by rw [e55, wu_same]), e55, wu_other (Or.inr (by decide)), w1']
            · rw [wn_eq] at hl
              have h52 : v52.toInt = (p : Int) + 1 := by rw [e52, wn_up (by omega) (by omega), h4]
              have e52n : v52.toInt.toNat = p + 1 := by omega
              rw [wn_tn, e52n] at e54
              have hag : ∀ j, j < p + 1 → σ 86 j = σ54 86 j := fun j hj => by rw [e54, wu_other (Or.inr (by omega)), w86]
              have h0 : σ54 86 (p + 1) = 0 := by rw [e54, wu_same]
              have eqU : qU may (σ0 71 1).toInt.toNat p (σ 86) (σ 86 p) x3.toInt.toNat ↔ qU may (σ0 71 1).toInt.toNat (p + 1) (σ54 86) (σ54 86 (p + 1)) v44.toInt.toNat := by
                rw [em, h0, qU_down hm (by omega) hc.1 (by omega) (by omega) my rfl]
                exact qU_cong hm (p + 1) _ _ _ _ hag
              rw [eqU]
              refine ih x2 v44 v52 (p + 1) σ54 (fun k i hk => ?_) (by rw [e54, wu_other (Or.inl (by decide))]; exact w22) (by omega) (by omega) (by omega) (fun j hj => ?_) (by rw [h0, wn_0]; omega)
              · rw [e54, wu_other (Or.inl (by unfold qD at hk; omega))]; exact wD k i hk
              · rw [← hag j hj]
                by_cases hjp : j = p
                · rw [hjp]; omega
                · exact hd j (by omega)
        · have w1 : r41 = 0 := w1
          rw [w1, if_pos rfl]
          refine h140 ?_
          cases hh : may (σ 86) p (σ 86 p) with
          | false => rfl
          | true =>
            refine absurd (hqM.2 ?_) w2
            exact ((hm _ _ _).1 hh).2
theorem pq_Mrun {σ : wc_S} (hT : qT σ) (hJ : wJ 0 σ) {may : (Nat → Int32) → Nat → Int32 → Bool} (hm : qMy σ may) (a : Int32) : pk (wf_M_run a σ) (fun r => ((¬ a < 0 ∧ a ≤ 100000) → r.2 71 0 = 0 ∧ (qFo may (σ 71 1).toInt.toNat a.toInt.toNat → r.1 = σ 71 1) ∧ (¬ qFo may (σ 71 1).toInt.toNat a.toInt.toNat → r.1 = -1)) ∧ (¬ (¬ a < 0 ∧ a ≤ 100000) → r.2 71 0 = 1)) := by
  have hN := i_m hJ
  unfold wf_M_run
  by_cases h : ¬ a < 0 ∧ a ≤ 100000
  · rw [mb1 h, e_goes, if_neg (by decide), if_neg (by decide), if_neg (by decide), b2s, if_neg (by decide)]
    have ha : 0 ≤ a.toInt := by have := h.1; rw [wn_lt, wn_0] at this; omega
    refine pk_e (fun σ6 e6 => pk_e (fun σ7 e7 => pk_e (fun σ8 e8 => pk_g (fun _ => pk_e (fun σ10 e10 => pk_e (fun v11 e11 => ?_))))))
    have k10 : ∀ k i, (k ≠ 71 ∨ (i ≠ 0 ∧ i ≠ 20 ∧ i ≠ 21 ∧ i ≠ 22)) → k ≠ 86 → σ10 k i = σ k i := fun k i h1 h2 => by
      rw [e10, wu_other (Or.inl h2), e8, wu_other (by omega), e7, wu_other (by omega), e6, wu_other (by omega), wu_other (by omega)]
    have z10 : σ10 71 0 = 0 := by rw [e10, wu_other (Or.inl (by decide)), e8, wu_other (Or.inr (by decide)), e7, wu_other (Or.inr (by decide)), e6, wu_other (Or.inr (by decide)), wu_same]
    have z22 : σ10 71 22 = 0 := by rw [e10, wu_other (Or.inl (by decide)), e8, wu_other (Or.inr (by decide)), e7, wu_same]
    have z86 : σ10 86 0 = 0 := by rw [e10]; exact wu_same
    rw [k10 71 1 (by decide) (by decide)] at e11
    refine pk_i (fun hz => pk_e (fun σ77 e77 => pk_s ⟨fun _ => ⟨?_, fun _ => ?_, fun q => absurd ?_ q⟩, fun q => absurd h q⟩)) (fun hz => ?_)
    · show σ77 71 0 = 0
      rw [e77, wu_other (Or.inr (by decide))]; exact z10
    · rw [← e11, hz]
    · unfold qFo
      rw [← e11, hz]; rfl
    · rw [e11, wn_eq, wn_0] at hz
      have hag : qFo may (σ 71 1).toInt.toNat a.toInt.toNat ↔ qU may (σ 71 1).toInt.toNat 0 (σ10 86) (σ10 86 0) a.toInt.toNat := by
        unfold qFo
        show _ ↔ qLA may (σ 71 1).toInt.toNat (σ10 86) 0 (σ10 86 0) a.toInt.toNat = none
        rw [z86, ← qLA_cong hm (d := fun _ => 0) (fun j hj => by omega), ← qE_LA (by omega), Nat.sub_zero]
      rw [hag]
      have key := pq_run61 hT (j78 hJ) ⟨hN.1, hN.2.1⟩ hm wc_big 0 a 0 0 σ10 (fun k i hk => k10 k i (by unfold qD at hk; omega) (by unfold qD at hk; omega)) z22 rfl (by omega) ha (fun j hj => by omega) (by rw [z86, wn_0]; omega)
      intro x ex
      have q1 := key x ex
      have q2 := pq_rord wc_big 0 a 0 σ10 x ex
      exact ⟨fun _ => ⟨q2.1.trans z10, q1⟩, fun q => absurd h q⟩
  · rw [mb0 h, e_goes, if_pos rfl, b2s, if_pos rfl]
    exact pk_s ⟨fun q => absurd q h, fun _ => show wc_u σ 71 0 1 71 0 = 1 from wu_same⟩
/-! the first penalty of the trial line is never written -/
theorem z_157 {b : Nat} {x5 s1 s2 s3 : Int32} {σ : wc_S} (h : s1.toNatClampNeg ≠ 0) : pk (wf_L_countCosts_157 b x5 s1 s2 s3 σ) (fun τ => τ (b + 4) 0 = σ (b + 4) 0) := by
  unfold wf_L_countCosts_157
  refine pk_e (fun v27 _ => pk_i (fun _ => pk_e (fun v29 _ => pk_g (fun _ => pk_e (fun σ31 e31 => pk_s ?_)))) (fun _ => pk_e (fun v32 _ => pk_e (fun v33 _ => pk_g (fun _ => pk_e (fun σ35 e35 => pk_s ?_))))))
  · rw [e31, wu_other (Or.inr (fun q => h q.symm))]
  · rw [e35, wu_other (Or.inr (fun q => h q.symm))]
theorem z_123 {b : Nat} {x2 x3 x5 x6 s1 s2 s3 : Int32} {σ : wc_S} (h : x3.toNatClampNeg ≠ 0) : pk (wf_L_countCosts_123 b x2 x3 x5 x6 s1 s2 s3 σ) (fun τ => τ (b + 4) 0 = σ (b + 4) 0) := by
  unfold wf_L_countCosts_123
  refine pk_e (fun v19 _ => pk_g (fun _ => pk_e (fun σ21 e21 => pk_e (fun v22 _ => pk_g (fun _ => pk_e (fun v24 _ => pk_e (fun v25 _ => ?_)))))))
  have k : σ21 (b + 4) 0 = σ (b + 4) 0 := by rw [e21, wu_other (Or.inl (by omega))]
  rw [← k]
  exact pk_i (fun _ => z_157 h) (fun _ => pk_e (fun v36 _ => z_157 h))
theorem z_97 {b : Nat} {x2 x3 x5 x6 s1 s2 s3 : Int32} {σ : wc_S} (h : x3.toNatClampNeg ≠ 0) : pk (wf_L_countCosts_97 b x2 x3 x5 x6 s1 s2 s3 σ) (fun τ => τ (b + 4) 0 = σ (b + 4) 0) := by
  unfold wf_L_countCosts_97
  refine pk_e (fun v12 _ => pk_g (fun _ => pk_e (fun σ14 e14 => pk_e (fun v15 _ => pk_g (fun _ => pk_e (fun v17 _ => ?_))))))
  have k : σ14 (b + 4) 0 = σ (b + 4) 0 := by rw [e14, wu_other (Or.inl (by omega))]
  rw [← k]
  exact pk_i (fun _ => z_123 h) (fun _ => z_123 h)
theorem z_72 {b : Nat} {x2 x3 x5 s0 : Int32} {σ : wc_S} (h : x3.toNatClampNeg ≠ 0) : pk (wf_L_countCosts_72 b x2 x3 x5 s0 σ) (fun τ => τ (b + 4) 0 = σ (b + 4) 0) := by
  unfold wf_L_countCosts_72
  exact pk_e (fun v8 _ => pk_g (fun _ => pk_e (fun v10 _ => pk_i (fun _ => z_97 h) (fun _ => z_97 h))))
theorem z_38 {b : Nat} {x1 x2 x3 s0 : Int32} {σ : wc_S} (h : x3.toNatClampNeg ≠ 0) : pk (wf_L_countCosts_38 b x1 x2 x3 s0 σ) (fun τ => τ (b + 4) 0 = σ (b + 4) 0) := by
  unfold wf_L_countCosts_38
  exact pk_e (fun v6 _ => pk_i (fun _ => z_72 h) (fun _ => pk_e (fun v37 _ => pk_e (fun v38 _ => pk_g (fun _ => pk_e (fun v40 _ => pk_g (fun _ => pk_g (fun _ => pk_e (fun v43 _ => z_72 h)))))))))
theorem z_costs {b : Nat} {c s : Int32} {σ : wc_S} (hl : 0 ≤ (σ b 9).toInt ∧ (σ b 9).toInt ≤ 9) : pk (wf_L_countCosts b c s σ) (fun τ => τ (b + 4) 0 = σ (b + 4) 0) := by
  unfold wf_L_countCosts
  refine pk_e (fun v1 e1 => pk_e (fun v2 e2 => pk_g (fun _ => pk_e (fun v4 _ => ?_))))
  have h : v2.toNatClampNeg ≠ 0 := by
    have := wn_up1 hl.1 hl.2
    rw [wn_tn, e2, e1]; omega
  unfold wf_L_countCosts_37
  exact pk_i (fun _ => z_38 h) (fun _ => pk_e (fun v44 _ => pk_i (fun _ => z_38 h) (fun _ => z_38 h)))
theorem z_put {b : Nat} {c : Int32} {σ : wc_S} (hl : 0 ≤ (σ b 9).toInt ∧ (σ b 9).toInt ≤ 9) : pk (wf_L_put b c σ) (fun τ => τ (b + 4) 0 = σ (b + 4) 0) := by
  have key : ∀ s, pk (wf_L_put_20 b c s σ) (fun τ => τ (b + 4) 0 = σ (b + 4) 0) := by
    intro s
    unfold wf_L_put_20
    refine pk_e (fun v3 e3 => pk_g (fun _ => pk_e (fun σ5 e5 => ?_)))
    refine pk_b1 (Q := fun u => u b 9 = σ b 9 ∧ u (b + 4) 0 = σ (b + 4) 0) (fun u eu => ?_) (fun u hu => ?_)
    · have hw := wr_L_countKilometres b c s σ5 u eu
      refine ⟨?_, ?_⟩
      · rw [hw b 9 (fun q => by unfold wS_L_countKilometres at q; omega), e5, wu_other (Or.inl (by omega))]
      · rw [hw (b + 4) 0 (fun q => by unfold wS_L_countKilometres at q; omega), e5, wu_other (Or.inl (by omega))]
    · refine pk_b1 (z_costs (by rw [hu.1]; exact hl)) (fun w hw => ?_)
      refine pk_e (fun v8 e8 => pk_g (fun _ => pk_e (fun σ10 e10 => pk_g (fun _ => pk_e (fun σ12 e12 => pk_e (fun v13 e13 => pk_e (fun v14 e14 => pk_e (fun σ15 e15 => pk_s ?_))))))))
      rw [e15, wu_other (Or.inl (by omega)), e12, wu_other (Or.inl (by omega)), e10, wu_other (Or.inl (by omega)), hw, hu.2]
  unfold wf_L_put
  refine pk_e (fun v1 e1 => pk_i (fun _ => key 0) (fun _ => ?_))
  refine pk_b2 (Q := fun r => r.2 = σ) (fun x e => wr_same (wr_L_isWornWith b c σ x e) (fun _ _ h => h)) (fun r u hu => ?_)
  have hu : u = σ := hu
  rw [hu]
  exact pk_i (fun _ => key 0) (fun _ => key 1)
theorem z_layAll6 {k1 : Nat} : ∀ (n : Nat) (x2 : Int32) (σ : wc_S), (σ 1 10).toInt ≤ 9 → 0 ≤ x2.toInt → (σ 30 9).toInt = x2.toInt → pk (wf_L_layAll_6 30 k1 n x2 σ) (fun r => r.2 34 0 = σ 34 0) := by
  intro n
  induction n with
  | zero => intro x2 σ _ _ _; exact pk_n
  | succ n ih =>
    intro x2 σ hn g0 hl
    show pk (wf_L_layAll_6_b 30 k1 (wf_L_layAll_6 30 k1 n) x2 σ) _
    unfold wf_L_layAll_6_b
    refine pk_e (fun v2 e2 => pk_i (fun _ => pk_s rfl) (fun hc => pk_g (fun _ => pk_e (fun v5 e5 => ?_))))
    rw [e2, wn_le] at hc
    refine pk_b2 (Q := fun r => r.2 = σ) (fun x e => wr_same (wr_L_mayPut 30 v5 σ x e) (fun _ _ h => h)) (fun r7 u hu => ?_)
    have hu : u = σ := hu
    rw [hu]
    refine pk_i (fun _ => pk_s rfl) (fun _ => pk_g (fun _ => pk_e (fun v10 e10 => ?_)))
    refine pk_b1 (Q := fun τ => τ 30 9 = σ 30 9 + 1 ∧ τ 34 0 = σ 34 0 ∧ τ 1 10 = σ 1 10) (fun τ eτ => ⟨(pq_put τ eτ).1, z_put (b := 30) (by omega) τ eτ, wr_L_put 30 v10 σ τ eτ 1 10 (fun q => by unfold wS_L_put at q; omega)⟩) (fun τ hτ => ?_)
    refine pk_e (fun v12 e12 => ?_)
    have h12 : v12.toInt = x2.toInt + 1 := by rw [e12]; exact wn_up g0 (by omega)
    have hl2 : (τ 30 9).toInt = x2.toInt + 1 := by rw [hτ.1, wn_up (by omega) (by omega), hl]
    rw [← hτ.2.1]
    exact ih v12 τ (by rw [hτ.2.2]; exact hn) (by omega) (by omega)
theorem z_layAll {k1 : Nat} {σ : wc_S} (hn : (σ 1 10).toInt ≤ 9) : pk (wf_L_layAll 30 k1 σ) (fun r => r.2 34 0 = σ 34 0) := by
  unfold wf_L_layAll
  refine pk_b1 (Q := fun τ => τ 30 9 = 0 ∧ τ 34 0 = σ 34 0 ∧ τ 1 10 = σ 1 10) (fun τ eτ => ⟨(pq_clear τ eτ).1, wr_L_clear 30 σ τ eτ 34 0 (fun q => by unfold wS_L_clear at q; omega), wr_L_clear 30 σ τ eτ 1 10 (fun q => by unfold wS_L_clear at q; omega)⟩) (fun τ hτ => ?_)
  rw [← hτ.2.1]
  exact z_layAll6 16 0 τ (by rw [hτ.2.2]; exact hn) (by decide) (by rw [hτ.1])
theorem z_49 {k1 : Nat} {σ : wc_S} : pk (wf_L_layAll 49 k1 σ) (fun r => r.2 34 0 = σ 34 0 ∧ r.2 1 10 = σ 1 10) := fun x e => ⟨wr_L_layAll 49 k1 σ x e 34 0 (fun q => by unfold wS_L_layAll at q; omega), wr_L_layAll 49 k1 σ x e 1 10 (fun q => by unfold wS_L_layAll at q; omega)⟩
theorem z_pag {g : Int32 → wc_S → Option wc_S} {a1 a2 : Int32} {σ : wc_S} (hn : (σ 1 10).toInt ≤ 9) (h2 : 0 ≤ a2.toInt ∧ a2.toInt < (σ 1 10).toInt) (hl : (σ 30 9).toInt = a2.toInt) (hg : ∀ v τ, v.toInt = a2.toInt + 1 → (τ 30 9).toInt = v.toInt → τ 1 10 = σ 1 10 → pk (g v τ) (fun u => u 34 0 = τ 34 0 ∧ (u 30 9).toInt = (τ 30 9).toInt ∧ u 1 10 = τ 1 10)) : pk (wf_S_putAndGoOn g a1 a2 σ) (fun u => u 34 0 = σ 34 0 ∧ (u 30 9).toInt = (σ 30 9).toInt ∧ u 1 10 = σ 1 10) := by
  have tb : ∀ u : wc_S, u 34 0 = σ 34 0 → (u 30 9).toInt = a2.toInt + 1 → u 1 10 = σ 1 10 → pk (wf_S_putAndGoOn_52 g u) (fun u => u 34 0 = σ 34 0 ∧ (u 30 9).toInt = (σ 30 9).toInt ∧ u 1 10 = σ 1 10) := by
    intro u u1 u2 u3
    unfold wf_S_putAndGoOn_52
    refine pk_b1 (pq_takeBack (b := 30) (σ := u) (by omega)) (fun w hw => pk_s ⟨?_, ?_, ?_⟩)
    · rw [hw.2.2.2 34 0 (by decide) (by decide)]; exact u1
    · rw [hw.1, u2, hl]; omega
    · rw [hw.2.2.2 1 10 (by decide) (by decide)]; exact u3
  unfold wf_S_putAndGoOn
  refine pk_e (fun v1 e1 => pk_i (fun _ => ?_) (fun _ => pk_e (fun σ14 e14 => pk_s ⟨?_, ?_, ?_⟩)))
  · refine pk_e (fun v3 e3 => pk_e (fun v4 e4 => pk_e (fun σ5 e5 => ?_)))
    have k5 : ∀ k i, k ≠ 68 → σ5 k i = σ k i := fun k i hk => by rw [e5, wu_other (Or.inl hk)]
    refine pk_b1 (Q := fun τ => (τ 30 9).toInt = a2.toInt + 1 ∧ τ 34 0 = σ 34 0 ∧ τ 1 10 = σ 1 10) (fun τ eτ => ⟨?_, ?_, ?_⟩) (fun w hw => ?_)
    · rw [(pq_put τ eτ).1, k5 30 9 (by decide), wn_up (by omega) (by omega), hl]
    · have := z_put (b := 30) (by rw [k5 30 9 (by decide)]; omega) τ eτ
      rw [k5 34 0 (by decide)] at this
      exact this
    · rw [wr_L_put 30 a1 σ5 τ eτ 1 10 (fun q => by unfold wS_L_put at q; omega), k5 1 10 (by decide)]
    · refine pk_b2 (Q := fun r => r.2 = w) (fun x e => wr_same (wr_L_penaltySoFar 30 w x e) (fun _ _ h => h)) (fun r8 u hu => ?_)
      have hu : u = w := hu
      rw [hu]
      refine pk_e (fun v9 e9 => pk_i (fun _ => tb w hw.2.1 hw.1 hw.2.2) (fun _ => pk_e (fun v12 e12 => ?_)))
      have h12 : v12.toInt = a2.toInt + 1 := by rw [e12]; exact wn_up h2.1 (by omega)
      exact pk_b1 (hg v12 w h12 (by omega) hw.2.2) (fun z hz => tb z (hz.1.trans hw.2.1) (hz.2.1.trans hw.1) (hz.2.2.trans hw.2.2))
  · rw [e14, wu_other (Or.inl (by decide))]
  · rw [e14, wu_other (Or.inl (by decide))]
  · rw [e14, wu_other (Or.inl (by decide))]
theorem z_goOnAt : ∀ (n : Nat) (a1 : Int32) (σ : wc_S), (σ 1 10).toInt ≤ 9 → 0 ≤ a1.toInt → (σ 30 9).toInt = a1.toInt → pk (wf_S_goOnAt n a1 σ) (fun u => u 34 0 = σ 34 0 ∧ (u 30 9).toInt = (σ 30 9).toInt ∧ u 1 10 = σ 1 10) := by
  intro n
  induction n with
  | zero => intro a1 σ _ _ _; exact pk_n
  | succ n ih =>
    intro a1 σ hn h0 hl
    show pk (wf_S_goOnAt_r (wf_S_goOnAt n) a1 σ) _
    unfold wf_S_goOnAt_r
    refine pk_e (fun v1 e1 => pk_i (fun hc => ?_) (fun hc => ?_))
    · rw [e1, wn_lt] at hc
      have loop : ∀ (k : Nat) (x2 : Int32) (u : wc_S), u 34 0 = σ 34 0 → (u 30 9).toInt = (σ 30 9).toInt → u 1 10 = σ 1 10 → pk (wf_S_goOnAt_18 (wf_S_goOnAt n) k a1 x2 u) (fun u => u 34 0 = σ 34 0 ∧ (u 30 9).toInt = (σ 30 9).toInt ∧ u 1 10 = σ 1 10) := by
        intro k
        induction k with
        | zero => intro x2 u _ _ _; exact pk_n
        | succ k ihk =>
          intro x2 u u1 u2 u3
          show pk (wf_S_goOnAt_18_b (wf_S_goOnAt n) (wf_S_goOnAt_18 (wf_S_goOnAt n) k) a1 x2 u) _
          unfold wf_S_goOnAt_18_b
          refine pk_e (fun v3 e3 => pk_i (fun _ => pk_s ⟨u1, u2, u3⟩) (fun _ => pk_e (fun v5 e5 => pk_i (fun _ => ?_) (fun _ => pk_s ⟨u1, u2, u3⟩))))
          refine pk_b2 (Q := fun r => r.2 = u) (fun x e => wr_same (wr_L_mayPut 30 x2 u x e) (fun _ _ h => h)) (fun r8 w hw => ?_)
          have hw : w = u := hw
          rw [hw]
          unfold wf_S_goOnAt_53
          refine pk_i (fun _ => pk_e (fun v10 _ => ihk v10 u u1 u2 u3)) (fun _ => ?_)
          refine pk_b1 (z_pag (by rw [u3]; exact hn) (by rw [u3]; omega) (by omega) (fun v τ hv ht h1 => ih v τ (by rw [h1, u3]; exact hn) (by omega) ht)) (fun z hz => pk_e (fun v10 _ => ihk v10 z (hz.1.trans u1) (hz.2.1.trans u2) (hz.2.2.trans u3)))
      exact loop 16 0 σ rfl rfl rfl
    · refine pk_b1 (Q := fun τ => τ 34 0 = σ 34 0 ∧ (τ 30 9).toInt = (σ 30 9).toInt ∧ τ 1 10 = σ 1 10) (fun τ eτ => ?_) (fun u hu => pk_s hu)
      have hw := wr_S_keepBest σ τ eτ
      exact ⟨hw 34 0 (fun q => by unfold wS_S_keepBest at q; omega), by rw [hw 30 9 (fun q => by unfold wS_S_keepBest at q; omega)], hw 1 10 (fun q => by unfold wS_S_keepBest at q; omega)⟩
theorem z_run {a : Int32} {σ : wc_S} (hn : (σ 1 10).toInt ≤ 9) : pk (wf_K_run a σ) (fun r => r.2 34 0 = σ 34 0) := by
  unfold wf_K_run wf_W_run
  by_cases h : ¬ a < 0 ∧ a ≤ 100000
  · rw [ob0 h, if_pos rfl]
    refine pk_cti (Q := fun q => ∃ r u, q = .inr (r, u) ∧ u 34 0 = σ 34 0) ?_ (fun k u hq => by obtain ⟨_, _, hq, _⟩ := hq; cases hq) (fun r u hq => ?_)
    · refine pk_b1 (Q := fun τ => τ 34 0 = σ 34 0) ?_ (fun τ hτ => ?_)
      · unfold wf_S_searchWith
        refine pk_e (fun σ1 e1 => pk_e (fun σ2 e2 => pk_e (fun σ3 e3 => pk_e (fun σ4 e4 => ?_))))
        have k4 : ∀ k i, k ≠ 68 → σ4 k i = σ k i := fun k i hk => by
          rw [e4, wu_other (Or.inl hk), e3, wu_other (Or.inl hk), e2, wu_other (Or.inl hk), e1, wu_other (Or.inl hk)]
        refine pk_b1 (Q := fun τ => τ 30 9 = 0 ∧ τ 34 0 = σ 34 0 ∧ τ 1 10 = σ 1 10) (fun τ eτ => ⟨(pq_clear τ eτ).1, ?_, ?_⟩) (fun τ hτ => ?_)
        · rw [wr_L_clear 30 σ4 τ eτ 34 0 (fun q => by unfold wS_L_clear at q; omega), k4 34 0 (by decide)]
        · rw [wr_L_clear 30 σ4 τ eτ 1 10 (fun q => by unfold wS_L_clear at q; omega), k4 1 10 (by decide)]
        · exact pk_b1 (z_goOnAt 11 0 τ (by rw [hτ.2.2]; exact hn) (by decide) (by rw [hτ.1])) (fun u hu => pk_s (hu.1.trans hτ.2.1))
      · refine pk_e (fun σ5 e5 => pk_e (fun v6 e6 => pk_g (fun _ => pk_e (fun σ8 e8 => pk_e (fun v9 e9 => ?_)))))
        have k8 : σ8 34 0 = σ 34 0 := by rw [e8, wu_other (Or.inl (by decide)), e5, wu_other (Or.inl (by decide)), hτ]
        refine pk_i (fun _ => pk_s ⟨_, σ8, rfl, k8⟩) (fun _ => ?_)
        exact pk_b2 z_49 (fun r u hu => pk_e (fun v13 _ => pk_s ⟨v13, u, rfl, hu.1.trans k8⟩))
    · obtain ⟨r2, u2, hq, h1⟩ := hq
      cases hq
      exact pk_g (fun _ => pk_s ((show wc_u u 88 0 r 34 0 = u 34 0 from wu_other (Or.inl (by decide))).trans h1))
  · rw [ob1 h, if_neg (by decide)]
    exact pk_s rfl
theorem z_tell {a : Int64} {σ : wc_S} (hn : (σ 1 10).toInt ≤ 9) : pk (wf_K_tell a σ) (fun r => r.2 34 0 = σ 34 0) := by
  unfold wf_K_tell wf_W_tell
  refine pk_ctv (Q := fun q => (wr_sv q) 34 0 = σ 34 0) ?_ (fun k u hq => ?_) (fun u hq => pk_s hq)
  · refine pk_b2 (Q := fun r => r.2 34 0 = σ 34 0 ∧ r.2 1 10 = σ 1 10) (fun x e => ⟨wr_W_readIntoScratch a σ x e 34 0 (fun q => by unfold wS_W_readIntoScratch at q; omega), wr_W_readIntoScratch a σ x e 1 10 (fun q => by unfold wS_W_readIntoScratch at q; omega)⟩) (fun r u hu => ?_)
    obtain ⟨u1, u2⟩ := hu
    refine pk_i (fun _ => pk_s u1) (fun _ => ?_)
    have u2 : u 1 10 = σ 1 10 := u2
    refine pk_b2 (z_layAll (by rw [u2]; exact hn)) (fun r5 w hw => ?_)
    have hw : w 34 0 = u 34 0 := hw
    refine pk_i (fun _ => pk_s (hw.trans u1)) (fun _ => ?_)
    refine pk_b2 z_49 (fun r8 z hz => pk_e (fun σ9 e9 => pk_s ?_))
    show σ9 34 0 = _
    rw [e9, wu_other (Or.inl (by decide))]
    exact hz.1.trans (hw.trans u1)
  · have hq : u 34 0 = σ 34 0 := hq
    exact pk_i (fun _ => pk_s hq) (fun _ => pk_i (fun _ => pk_s hq) (fun _ => pk_n))
theorem z_pair {a1 a2 : Int32} {σ : wc_S} (hn : (σ 1 10).toInt ≤ 9) : pk (wf_W_takePairIfBetter a1 a2 σ) (fun r => r.2 34 0 = σ 34 0 ∧ r.2 1 10 = σ 1 10) := by
  have h1 : pk (wf_W_takePairIfBetter a1 a2 σ) (fun r => r.2 1 10 = σ 1 10) := fun x e => wr_W_takePairIfBetter a1 a2 σ x e 1 10 (fun q => by unfold wS_W_takePairIfBetter at q; omega)
  have h2 : pk (wf_W_takePairIfBetter a1 a2 σ) (fun r => r.2 34 0 = σ 34 0) := by
    unfold wf_W_takePairIfBetter
    refine pk_e (fun v1 e1 => pk_g (fun _ => pk_e (fun σ3 e3 => pk_g (fun _ => pk_e (fun v5 e5 => pk_g (fun _ => pk_e (fun σ7 e7 => pk_g (fun _ => pk_e (fun v9 e9 => pk_g (fun _ => pk_e (fun σ11 e11 => ?_)))))))))))
    have k : ∀ k i, k ≠ 70 → σ11 k i = σ k i := fun k i hk => by
      rw [e11, wu_other (Or.inl hk), e7, wu_other (Or.inl hk), e3]; simp [wc_uA, hk]
    refine pk_b2 (z_layAll (by rw [k 1 10 (by decide)]; exact hn)) (fun r13 w hw => ?_)
    have hw : w 34 0 = σ 34 0 := hw.trans (k 34 0 (by decide))
    refine pk_i (fun _ => pk_s hw) (fun _ => ?_)
    refine pk_b2 (Q := fun r => r.2 = w) (fun x e => wr_same (wr_L_penaltySoFar 30 w x e) (fun _ _ h => h)) (fun r16 u hu => ?_)
    have hu : u = w := hu
    rw [hu]
    refine pk_b2 (Q := fun r => r.2 = w) (fun x e => wr_same (wr_L_penaltySoFar 49 w x e) (fun _ _ h => h)) (fun r18 u2 hu2 => ?_)
    have hu2 : u2 = w := hu2
    rw [hu2]
    refine pk_i (fun _ => ?_) (fun _ => pk_s hw)
    exact pk_b2 z_49 (fun r21 z hz => pk_s (hz.1.trans hw))
  exact fun x e => ⟨h2 x e, h1 x e⟩
theorem z_first17 {σ0 : wc_S} (hn : (σ0 1 10).toInt ≤ 9) {k2 : Int32 → wc_S → Option (Int32 × wc_S)} (hk : ∀ v τ, τ 34 0 = σ0 34 0 → τ 1 10 = σ0 1 10 → pk (k2 v τ) (fun r => r.2 34 0 = σ0 34 0 ∧ r.2 1 10 = σ0 1 10)) {x1 : Int32} : ∀ (n : Nat) (x2 : Int32) (σ : wc_S), σ 34 0 = σ0 34 0 → σ 1 10 = σ0 1 10 → pk (wf_W_takeFirstBetterPair_17 k2 n x1 x2 σ) (fun r => r.2 34 0 = σ0 34 0 ∧ r.2 1 10 = σ0 1 10) := by
  intro n
  induction n with
  | zero => intro x2 σ _ _; exact pk_n
  | succ n ih =>
    intro x2 σ h1 h2
    show pk (wf_W_takeFirstBetterPair_17_b k2 (wf_W_takeFirstBetterPair_17 k2 n) x1 x2 σ) _
    unfold wf_W_takeFirstBetterPair_17_b
    refine pk_e (fun v4 _ => pk_i (fun _ => pk_e (fun v6 _ => hk v6 σ h1 h2)) (fun _ => ?_))
    refine pk_b2 (z_pair (by rw [h2]; exact hn)) (fun r8 u hu => ?_)
    have u1 : u 34 0 = σ0 34 0 := hu.1.trans h1
    have u2 : u 1 10 = σ0 1 10 := hu.2.trans h2
    exact pk_i (fun _ => pk_e (fun v10 _ => ih v10 u u1 u2)) (fun _ => pk_s ⟨u1, u2⟩)
theorem z_first2 {σ0 : wc_S} (hn : (σ0 1 10).toInt ≤ 9) : ∀ (n : Nat) (x1 : Int32) (σ : wc_S), σ 34 0 = σ0 34 0 → σ 1 10 = σ0 1 10 → pk (wf_W_takeFirstBetterPair_2 n x1 σ) (fun r => r.2 34 0 = σ0 34 0 ∧ r.2 1 10 = σ0 1 10) := by
  intro n
  induction n with
  | zero => intro x1 σ _ _; exact pk_n
  | succ n ih =>
    intro x1 σ h1 h2
    show pk (wf_W_takeFirstBetterPair_2_b (wf_W_takeFirstBetterPair_2 n) x1 σ) _
    unfold wf_W_takeFirstBetterPair_2_b
    exact pk_e (fun v1 _ => pk_i (fun _ => pk_s ⟨h1, h2⟩) (fun _ => pk_e (fun v3 _ => z_first17 hn ih 16 v3 σ h1 h2)))
theorem z_improve26 {σ0 : wc_S} (hn : (σ0 1 10).toInt ≤ 9) : ∀ (n : Nat) (x1 x2 : Int32) (σ : wc_S), σ 34 0 = σ0 34 0 → σ 1 10 = σ0 1 10 → pk (wf_W_improve_26 n x1 x2 σ) (fun q => (wr_si q) 34 0 = σ0 34 0) := by
  intro n
  induction n with
  | zero => intro x1 x2 σ _ _; exact pk_n
  | succ n ih =>
    intro x1 x2 σ h1 h2
    show pk (wf_W_improve_26_b (wf_W_improve_26 n) x1 x2 σ) _
    unfold wf_W_improve_26_b
    refine pk_i (fun _ => pk_s h1) (fun _ => ?_)
    refine pk_b2 (o := wf_W_takeFirstBetterPair σ) (z_first2 hn 16 0 σ h1 h2) (fun r7 u hu => ?_)
    exact pk_i (fun _ => pk_s hu.1) (fun _ => pk_e (fun v9 _ => ih x1 v9 u hu.1 hu.2))
theorem pk_bx {β : Type} {o : Option (wc_X wc_S)} {f : wc_S → Option (wc_X β)} {P : wc_X β → Prop} {Q : wc_X wc_S → Prop} (h : pk o Q) (hl : ∀ u, Q (.inl u) → P (.inl u)) (hr : ∀ u, Q (.inr u) → pk (f u) P) : pk (wc_bx o f) P := by
  cases o with
  | none => exact fun y e => by cases e
  | some q => cases q with
    | inl u => exact pk_s (hl u (h _ rfl))
    | inr u => exact hr u (h _ rfl)
theorem z_improve {a : Int32} {σ : wc_S} (hn : (σ 1 10).toInt ≤ 9) : pk (wf_K_improve a σ) (fun r => r.2 34 0 = σ 34 0) := by
  unfold wf_K_improve
  refine pk_cti (Q := fun q => (wr_si q) 34 0 = σ 34 0) ?_ (fun k u hq => ?_) (fun r u hq => ?_)
  · unfold wf_W_improve
    refine pk_bx (Q := fun q => wr_sv q = σ) (fun x e => wr_same (wr_W_requireOrder σ x e) (fun _ _ h => h)) (fun u hu => ?_) (fun u hu => ?_)
    · have hu : u.2 = σ := hu
      show u.2 34 0 = σ 34 0
      rw [hu]
    · have hu : u = σ := hu
      rw [hu]
      by_cases hb : ¬ a < 0 ∧ a ≤ 100
      · rw [ob0 hb, if_pos rfl]; exact z_improve26 hn 128 a 0 σ rfl rfl
      · rw [ob1 hb, if_neg (by decide)]; exact pk_s rfl
  · have hq : u 34 0 = σ 34 0 := hq
    exact pk_i (fun _ => pk_s hq) (fun _ => pk_i (fun _ => pk_s hq) (fun _ => pk_n))
  · have hq : u 34 0 = σ 34 0 := hq
    exact pk_g (fun _ => pk_s ((show wc_u u 88 0 r 34 0 = u 34 0 from wu_other (Or.inl (by decide))).trans hq))
/-! the tie for run -/
def wQ8 (σ : wc_S) : Prop := wQ σ ∧ σ 34 0 = 0 ∧ (0 ≤ (σ 1 13).toInt ∧ (σ 1 13).toInt ≤ 10000) ∧ (0 ≤ (σ 1 14).toInt ∧ (σ 1 14).toInt ≤ 10000)
theorem wQ8_of {σ τ : wc_S} (hσ : wQ8 σ) (h : wQ τ) (h0 : τ 34 0 = σ 34 0) (h13 : τ 1 13 = σ 1 13) (h14 : τ 1 14 = σ 1 14) : wQ8 τ := ⟨h, by rw [h0]; exact hσ.2.1, by rw [h13]; exact hσ.2.2.1, by rw [h14]; exact hσ.2.2.2⟩
theorem t8_K_run {a1 : Int32} {σ : wc_S} (hσ : wQ8 σ) : wk (wf_K_run a1 σ) (fun r => wQ8 r.2) := by
  obtain ⟨x, e, h⟩ := tI_K_run (a1 := a1) hσ.1
  have hw := wr_K_run a1 σ x e
  exact ⟨x, e, wQ8_of hσ h (z_run (i_n hσ.1.1).2.1 x e) (hw 1 13 (fun q => by unfold wS_K_run at q; omega)) (hw 1 14 (fun q => by unfold wS_K_run at q; omega))⟩
theorem t8_M_run {a1 : Int32} {σ : wc_S} (hσ : wQ8 σ) : wk (wf_M_run a1 σ) (fun r => wQ8 r.2) := by
  obtain ⟨x, e, h⟩ := tI_M_run (a1 := a1) hσ.1
  have hw := wr_M_run a1 σ x e
  exact ⟨x, e, wQ8_of hσ h (hw 34 0 (fun q => by unfold wS_M_run at q; omega)) (hw 1 13 (fun q => by unfold wS_M_run at q; omega)) (hw 1 14 (fun q => by unfold wS_M_run at q; omega))⟩
theorem t8_K_proved {σ : wc_S} (hσ : wQ8 σ) : wk (wf_K_proved  σ) (fun r => wQ8 r.2) := by
  obtain ⟨x, e, h⟩ := tI_K_proved  hσ.1
  have hw := wr_K_proved  σ x e
  exact ⟨x, e, wQ8_of hσ h (hw 34 0 (fun q => by unfold wS_K_proved at q; omega)) (hw 1 13 (fun q => by unfold wS_K_proved at q; omega)) (hw 1 14 (fun q => by unfold wS_K_proved at q; omega))⟩
theorem t8_M_proved {σ : wc_S} (hσ : wQ8 σ) : wk (wf_M_proved  σ) (fun r => wQ8 r.2) := by
  obtain ⟨x, e, h⟩ := tI_M_proved  hσ.1
  have hw := wr_M_proved  σ x e
  exact ⟨x, e, wQ8_of hσ h (hw 34 0 (fun q => by unfold wS_M_proved at q; omega)) (hw 1 13 (fun q => by unfold wS_M_proved at q; omega)) (hw 1 14 (fun q => by unfold wS_M_proved at q; omega))⟩
theorem t8_K_order {a1 : Int32} {σ : wc_S} (hσ : wQ8 σ) : wk (wf_K_order a1 σ) (fun r => wQ8 r.2) := by
  obtain ⟨x, e, h⟩ := tI_K_order (a1 := a1) hσ.1
  have hw := wr_K_order a1 σ x e
  exact ⟨x, e, wQ8_of hσ h (hw 34 0 (fun q => by unfold wS_K_order at q; omega)) (hw 1 13 (fun q => by unfold wS_K_order at q; omega)) (hw 1 14 (fun q => by unfold wS_K_order at q; omega))⟩
theorem t8_M_order {a1 : Int32} {σ : wc_S} (hσ : wQ8 σ) : wk (wf_M_order a1 σ) (fun r => wQ8 r.2) := by
  obtain ⟨x, e, h⟩ := tI_M_order (a1 := a1) hσ.1
  have hw := wr_M_order a1 σ x e
  exact ⟨x, e, wQ8_of hσ h (hw 34 0 (fun q => by unfold wS_M_order at q; omega)) (hw 1 13 (fun q => by unfold wS_M_order at q; omega)) (hw 1 14 (fun q => by unfold wS_M_order at q; omega))⟩
theorem t8_K_told {a1 : Int32} {σ : wc_S} (hσ : wQ8 σ) : wk (wf_K_told a1 σ) (fun r => wQ8 r.2) := by
  obtain ⟨x, e, h⟩ := tI_K_told (a1 := a1) hσ.1
  have hw := wr_K_told a1 σ x e
  exact ⟨x, e, wQ8_of hσ h (hw 34 0 (fun q => by unfold wS_K_told at q; omega)) (hw 1 13 (fun q => by unfold wS_K_told at q; omega)) (hw 1 14 (fun q => by unfold wS_K_told at q; omega))⟩
theorem t8_M_told {a1 : Int32} {σ : wc_S} (hσ : wQ8 σ) : wk (wf_M_told a1 σ) (fun r => wQ8 r.2) := by
  obtain ⟨x, e, h⟩ := tI_M_told (a1 := a1) hσ.1
  have hw := wr_M_told a1 σ x e
  exact ⟨x, e, wQ8_of hσ h (hw 34 0 (fun q => by unfold wS_M_told at q; omega)) (hw 1 13 (fun q => by unfold wS_M_told at q; omega)) (hw 1 14 (fun q => by unfold wS_M_told at q; omega))⟩
theorem t8_K_change {a1 : Int32} {σ : wc_S} (hσ : wQ8 σ) : wk (wf_K_change a1 σ) (fun r => wQ8 r.2) := by
  obtain ⟨x, e, h⟩ := tI_K_change (a1 := a1) hσ.1
  have hw := wr_K_change a1 σ x e
  exact ⟨x, e, wQ8_of hσ h (hw 34 0 (fun q => by unfold wS_K_change at q; omega)) (hw 1 13 (fun q => by unfold wS_K_change at q; omega)) (hw 1 14 (fun q => by unfold wS_K_change at q; omega))⟩
theorem t8_M_change {a1 : Int32} {σ : wc_S} (hσ : wQ8 σ) : wk (wf_M_change a1 σ) (fun r => wQ8 r.2) := by
  obtain ⟨x, e, h⟩ := tI_M_change (a1 := a1) hσ.1
  have hw := wr_M_change a1 σ x e
  exact ⟨x, e, wQ8_of hσ h (hw 34 0 (fun q => by unfold wS_M_change at q; omega)) (hw 1 13 (fun q => by unfold wS_M_change at q; omega)) (hw 1 14 (fun q => by unfold wS_M_change at q; omega))⟩
theorem t8_K_jump {a1 a2 : Int32} {σ : wc_S} (hσ : wQ8 σ) : wk (wf_K_jump a1 a2 σ) (fun r => wQ8 r.2) := by
  obtain ⟨x, e, h⟩ := tI_K_jump (a1 := a1) (a2 := a2) hσ.1
  have hw := wr_K_jump a1 a2 σ x e
  exact ⟨x, e, wQ8_of hσ h (hw 34 0 (fun q => by unfold wS_K_jump at q; omega)) (hw 1 13 (fun q => by unfold wS_K_jump at q; omega)) (hw 1 14 (fun q => by unfold wS_K_jump at q; omega))⟩
theorem t8_M_jump {a1 a2 : Int32} {σ : wc_S} (hσ : wQ8 σ) : wk (wf_M_jump a1 a2 σ) (fun r => wQ8 r.2) := by
  obtain ⟨x, e, h⟩ := tI_M_jump (a1 := a1) (a2 := a2) hσ.1
  have hw := wr_M_jump a1 a2 σ x e
  exact ⟨x, e, wQ8_of hσ h (hw 34 0 (fun q => by unfold wS_M_jump at q; omega)) (hw 1 13 (fun q => by unfold wS_M_jump at q; omega)) (hw 1 14 (fun q => by unfold wS_M_jump at q; omega))⟩
theorem t8_K_tell {a1 : Int64} {σ : wc_S} (hσ : wQ8 σ) : wk (wf_K_tell a1 σ) (fun r => wQ8 r.2) := by
  obtain ⟨x, e, h⟩ := tI_K_tell (a1 := a1) hσ.1
  have hw := wr_K_tell a1 σ x e
  exact ⟨x, e, wQ8_of hσ h (z_tell (i_n hσ.1.1).2.1 x e) (hw 1 13 (fun q => by unfold wS_K_tell at q; omega)) (hw 1 14 (fun q => by unfold wS_K_tell at q; omega))⟩
theorem t8_M_tell {a1 : Int64} {σ : wc_S} (hσ : wQ8 σ) : wk (wf_M_tell a1 σ) (wQ8) := by
  obtain ⟨x, e, h⟩ := tI_M_tell (a1 := a1) hσ.1
  have hw := wr_M_tell a1 σ x e
  exact ⟨x, e, wQ8_of hσ h (hw 34 0 (fun q => by unfold wS_M_tell at q; omega)) (hw 1 13 (fun q => by unfold wS_M_tell at q; omega)) (hw 1 14 (fun q => by unfold wS_M_tell at q; omega))⟩
theorem t8_K_improve {a1 : Int32} {σ : wc_S} (hσ : wQ8 σ) : wk (wf_K_improve a1 σ) (fun r => wQ8 r.2) := by
  obtain ⟨x, e, h⟩ := tI_K_improve (a1 := a1) hσ.1
  have hw := wr_K_improve a1 σ x e
  exact ⟨x, e, wQ8_of hσ h (z_improve (i_n hσ.1.1).2.1 x e) (hw 1 13 (fun q => by unfold wS_K_improve at q; omega)) (hw 1 14 (fun q => by unfold wS_K_improve at q; omega))⟩
theorem t8_M_improve {a1 : Int32} {σ : wc_S} (hσ : wQ8 σ) : wk (wf_M_improve a1 σ) (fun r => wQ8 r.2) := by
  obtain ⟨x, e, h⟩ := tI_M_improve (a1 := a1) hσ.1
  have hw := wr_M_improve a1 σ x e
  exact ⟨x, e, wQ8_of hσ h (hw 34 0 (fun q => by unfold wS_M_improve at q; omega)) (hw 1 13 (fun q => by unfold wS_M_improve at q; omega)) (hw 1 14 (fun q => by unfold wS_M_improve at q; omega))⟩
theorem t8_W_bound {σ : wc_S} (hσ : wQ8 σ) : wk (wf_W_bound σ) (fun r => wQ8 r.2) := by
  obtain ⟨x, e, h⟩ := tI_W_bound hσ.1
  have hw := wr_W_bound σ x e
  exact ⟨x, e, wQ8_of hσ h (hw 34 0 (fun q => by unfold wS_W_bound at q; omega)) (hw 1 13 (fun q => by unfold wS_W_bound at q; omega)) (hw 1 14 (fun q => by unfold wS_W_bound at q; omega))⟩
theorem t8_M_bound {σ : wc_S} (hσ : wQ8 σ) : wk (wf_M_bound σ) (fun r => wQ8 r.2) := by
  obtain ⟨x, e, h⟩ := tI_M_bound hσ.1
  have hw := wr_M_bound σ x e
  exact ⟨x, e, wQ8_of hσ h (hw 34 0 (fun q => by unfold wS_M_bound at q; omega)) (hw 1 13 (fun q => by unfold wS_M_bound at q; omega)) (hw 1 14 (fun q => by unfold wS_M_bound at q; omega))⟩
theorem t9_coil {a b c d : Int32} {σ : wc_S} (hσ : wQ8 σ) : wk (wf_K_coil a b c d σ) (fun r => wJ 0 r.2 ∧ wk (wf_M_coil a b c d r.2) (fun s => wQ8 s.2 ∧ s.2 71 0 = r.1 ∧ (r.1 = 0 → s.2 88 0 = s.1))) := by
  obtain ⟨x, e, h, y, e2, h2, h3⟩ := tQ_coil (a := a) (b := b) (c := c) (d := d) hσ.1
  have hw := wr_K_coil a b c d σ x e
  have hw2 := wr_M_coil a b c d x.2 y e2
  exact ⟨x, e, h, y, e2, wQ8_of hσ h2 ((hw2 34 0 (fun q => by unfold wS_M_coil at q; omega)).trans (hw 34 0 (fun q => by unfold wS_K_coil at q; omega))) ((hw2 1 13 (fun q => by unfold wS_M_coil at q; omega)).trans (hw 1 13 (fun q => by unfold wS_K_coil at q; omega))) ((hw2 1 14 (fun q => by unfold wS_M_coil at q; omega)).trans (hw 1 14 (fun q => by unfold wS_K_coil at q; omega))), h3⟩
theorem t9_table {k a b c : Int32} {σ : wc_S} (hσ : wQ8 σ) : wk (wf_K_table k a b c σ) (fun r => wJ 0 r.2 ∧ wk (wf_M_table k a b c r.2) (fun s => wQ8 s.2 ∧ s.2 71 0 = r.1 ∧ (r.1 = 0 → s.2 88 0 = s.1))) := by
  obtain ⟨x, e, h, y, e2, h2, h3⟩ := tQ_table (k := k) (a := a) (b := b) (c := c) hσ.1
  have hw := wr_K_table k a b c σ x e
  have hw2 := wr_M_table k a b c x.2 y e2
  exact ⟨x, e, h, y, e2, wQ8_of hσ h2 ((hw2 34 0 (fun q => by unfold wS_M_table at q; omega)).trans (hw 34 0 (fun q => by unfold wS_K_table at q; omega))) ((hw2 1 13 (fun q => by unfold wS_M_table at q; omega)).trans (hw 1 13 (fun q => by unfold wS_K_table at q; omega))) ((hw2 1 14 (fun q => by unfold wS_M_table at q; omega)).trans (hw 1 14 (fun q => by unfold wS_K_table at q; omega))), h3⟩
theorem t9_group {a b c : Int32} {σ : wc_S} (hσ : wQ8 σ) : wk (wf_K_group a b c σ) (fun r => wJ 0 r.2 ∧ wk (wf_M_group a b c r.2) (fun s => wQ8 s.2 ∧ s.2 71 0 = r.1 ∧ (r.1 = 0 → s.2 88 0 = s.1))) := by
  obtain ⟨x, e, h, y, e2, h2, h3⟩ := tQ_group (a := a) (b := b) (c := c) hσ.1
  have hw := wr_K_group a b c σ x e
  have hw2 := wr_M_group a b c x.2 y e2
  exact ⟨x, e, h, y, e2, wQ8_of hσ h2 ((hw2 34 0 (fun q => by unfold wS_M_group at q; omega)).trans (hw 34 0 (fun q => by unfold wS_K_group at q; omega))) ((hw2 1 13 (fun q => by unfold wS_M_group at q; omega)).trans (hw 1 13 (fun q => by unfold wS_K_group at q; omega))) ((hw2 1 14 (fun q => by unfold wS_M_group at q; omega)).trans (hw 1 14 (fun q => by unfold wS_K_group at q; omega))), h3⟩
theorem t9_urgent {a b : Int32} {σ : wc_S} (hσ : wQ8 σ) : wk (wf_K_urgent a b σ) (fun r => wJ 0 r.2 ∧ wk (wf_M_urgent a b r.2) (fun τ => wQ8 τ ∧ τ 71 0 = r.1)) := by
  obtain ⟨x, e, h, y, e2, h2, h3⟩ := tQ_urgent (a := a) (b := b) hσ.1
  have hw := wr_K_urgent a b σ x e
  have hw2 := wr_M_urgent a b x.2 y e2
  exact ⟨x, e, h, y, e2, wQ8_of hσ h2 ((hw2 34 0 (fun q => by unfold wS_M_urgent at q; omega)).trans (hw 34 0 (fun q => by unfold wS_K_urgent at q; omega))) ((hw2 1 13 (fun q => by unfold wS_M_urgent at q; omega)).trans (hw 1 13 (fun q => by unfold wS_K_urgent at q; omega))) ((hw2 1 14 (fun q => by unfold wS_M_urgent at q; omega)).trans (hw 1 14 (fun q => by unfold wS_K_urgent at q; omega))), h3⟩
theorem t9_old {a b : Int32} {σ : wc_S} (hσ : wQ8 σ) : wk (wf_K_old a b σ) (fun r => wJ 0 r.2 ∧ wk (wf_M_old a b r.2) (fun τ => wQ8 τ ∧ τ 71 0 = r.1)) := by
  obtain ⟨x, e, h, y, e2, h2, h3⟩ := tQ_old (a := a) (b := b) hσ.1
  have hw := wr_K_old a b σ x e
  have hw2 := wr_M_old a b x.2 y e2
  exact ⟨x, e, h, y, e2, wQ8_of hσ h2 ((hw2 34 0 (fun q => by unfold wS_M_old at q; omega)).trans (hw 34 0 (fun q => by unfold wS_K_old at q; omega))) ((hw2 1 13 (fun q => by unfold wS_M_old at q; omega)).trans (hw 1 13 (fun q => by unfold wS_K_old at q; omega))) ((hw2 1 14 (fun q => by unfold wS_M_old at q; omega)).trans (hw 1 14 (fun q => by unfold wS_K_old at q; omega))), h3⟩
theorem t9_rules {a b c d : Int32} {σ : wc_S} (hσ : wQ8 σ) : wk (wf_K_rules a b c d σ) (fun r => wJ 0 r.2 ∧ wk (wf_M_rules a b c d r.2) (fun τ => wQ8 τ ∧ τ 71 0 = r.1)) := by
  obtain ⟨x, e, h, y, e2, h2, h3⟩ := tQ_rules (a := a) (b := b) (c := c) (d := d) hσ.1
  have hw := wr_K_rules a b c d σ x e
  have hw2 := wr_M_rules a b c d x.2 y e2
  have y13 : y 1 13 = x.2 1 13 := hw2 1 13 (fun q => by unfold wS_M_rules at q; omega)
  have y14 : y 1 14 = x.2 1 14 := hw2 1 14 (fun q => by unfold wS_M_rules at q; omega)
  have hx := pq_Krules a b c d σ x e
  refine ⟨x, e, h, y, e2, ⟨h2, ?_, ?_, ?_⟩, h3⟩
  · rw [hw2 34 0 (fun q => by unfold wS_M_rules at q; omega), hw 34 0 (fun q => by unfold wS_K_rules at q; omega)]; exact hσ.2.1
  · rw [y13]
    by_cases h0 : x.1 = 0
    · rw [hx.2.1 h0 1 13 (by decide)]
      have q := hx.1.symm.trans h0
      unfold wR_rules at q
      split at q
      · rename_i hh
        have := hh.2.2.1
        rw [wn_lt, wn_le, wn_0, show (10000 : Int32).toInt = 10000 from rfl] at this
        rw [wu_other (Or.inr (by decide)), wu_same]; omega
      · exact absurd q (by decide)
    · rw [hx.2.2 h0]; exact hσ.2.2.1
  · rw [y14]
    by_cases h0 : x.1 = 0
    · rw [hx.2.1 h0 1 14 (by decide)]
      have q := hx.1.symm.trans h0
      unfold wR_rules at q
      split at q
      · rename_i hh
        have := hh.2.2.2
        rw [wn_lt, wn_le, wn_0, show (10000 : Int32).toInt = 10000 from rfl] at this
        rw [wu_same]; omega
      · exact absurd q (by decide)
    · rw [hx.2.2 h0]; exact hσ.2.2.2
theorem t9_run {a : Int32} {σ : wc_S} (hσ : wQ8 σ) : wk (wf_K_run a σ) (fun r => wJ 0 r.2 ∧ wk (wf_M_run a r.2) (fun s => wQ8 s.2 ∧ s.2 71 0 = r.1 ∧ (r.1 = 0 → s.2 88 0 = s.1))) := by
  obtain ⟨may, hm⟩ : ∃ may, qMy σ may := ⟨fun d p c => @decide ((∀ j : Nat, j < p → d j ≠ c) ∧ qM σ p (d (p - 1)).toInt.toNat c.toInt.toNat) (Classical.propDecidable _), fun d p c => @decide_eq_true_iff _ (Classical.propDecidable _)⟩
  have hn := i_n hσ.1.1
  obtain ⟨x, e, h, hx⟩ := wk_pk (t8_K_run (a1 := a) hσ) (pq_Krun ⟨hσ.1.2, ⟨hn.1, hn.2.1⟩, hσ.2.2⟩ hσ.2.1 hm a)
  have hw := wr_K_run a σ x e
  have hD : ∀ k i, qD k i → x.2 k i = σ k i := fun k i hd => hw k i (fun z => by unfold wS_K_run at z; unfold qD at hd; omega)
  have hm2 : qMy x.2 may := fun d p c => by rw [hm, qM_eq hD]
  refine ⟨x, e, h.1.1, ?_⟩
  obtain ⟨y, e2, h2, hy⟩ := wk_pk (t8_M_run (a1 := a) h) (pq_Mrun h.1.2 h.1.1 hm2 a)
  have hw2 := wr_M_run a x.2 y e2
  have e71 : x.2 71 1 = σ 1 10 := by rw [hD 71 1 (by unfold qD; omega)]; exact hσ.1.2.1.1.symm
  rw [e71] at hy
  have e88 : y.2 88 0 = x.2 88 0 := hw2 88 0 (fun q => by unfold wS_M_run at q; omega)
  by_cases hr : ¬ a < 0 ∧ a ≤ 100000
  · obtain ⟨x0, x1, x2⟩ := hx.1 hr
    obtain ⟨y0, y1, y2⟩ := hy.1 hr
    refine ⟨y, e2, h2, by rw [y0, x0], fun _ => ?_⟩
    rw [e88]
    by_cases hf : qFo may (σ 1 10).toInt.toNat a.toInt.toNat
    · rw [x1 hf, y1 hf]
    · rw [x2 hf, y2 hf]
  · refine ⟨y, e2, h2, by rw [hy.2 hr, hx.2 hr], fun h0 => ?_⟩
    rw [hx.2 hr] at h0; exact absurd h0 (by decide)
theorem wQ8_start : wc_0 34 0 = 0 ∧ (0 ≤ (wc_0 1 13).toInt ∧ (wc_0 1 13).toInt ≤ 10000) ∧ (0 ≤ (wc_0 1 14).toInt ∧ (wc_0 1 14).toInt ≤ 10000) := ⟨rfl, by decide, by decide⟩
