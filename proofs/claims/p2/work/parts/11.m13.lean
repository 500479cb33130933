set_option maxHeartbeats 4000000 in
set_option maxRecDepth 100000 in
theorem wm_M_isGood (l : Launch) (D : va_G) (ad : Nat → Nat) (cI cZ cJ cG : ClassId) (sz : Nat) (k1 : Nat) (hk1_ : k1 = 85 ∨ k1 = 86) (σ : wc_S) (res : Int32 × wc_S) (hf : wf_M_isGood k1 σ = some res) : Met l wy_M_isGood (wx_ws_M_isGood) ({ frames := 3, cells := 0, slots := 0, locals := 72 }) (va_Pc [.ref (ad 71), .ref (ad k1)] (wx_pre D ad cI cZ cJ cG σ sz)) (wx_Qi D ad cI cZ cJ cG res (va_A (wx_W ad cI cZ cJ cG σ) sz)) 0 0 (va_A (wx_W ad cI cZ cJ cG σ) sz) := by
  refine wx_ofW (cc := prog_8_method_26_code) (maxL := 3) (ret := (some .boolean)) (Qc := fun A => wx_Qi D ad cI cZ cJ cG res A) [.ref (ad 71), .ref (ad k1)] (by decide) rfl (Nat.le_of_ble_eq_true rfl) ?_
  intro p e s m args below meth c A ls hin hl
  obtain ⟨hx, hb, hr, hts, hown, hlocks, hml, hA, hP, hK, hD, hC, hN, hS⟩ := hin
  have hl : lv_has ls 3 [(0, .ref (ad 71)), (1, .ref (ad k1))] := hl
  have J2 : ∀ (n : Nat) (x2 : Int32) (σ : wc_S), wf_M_isGood_2 k1 n x2 σ = some res → wx_Arr p l e ({ frames := 3, cells := 0, slots := 0, locals := 72 }) s m args below meth c D ad cI cZ cJ cG A (MQ below (wx_Qi D ad cI cZ cJ cG res A) args s 0 0 A) 3 0 0 2 [(0, .ref (ad 71)), (1, .ref (ad k1)), (2, .int x2)] [] σ := by
    intro  n
    induction n with
    | zero => intro x2 σ hf; exact absurd hf (by intro h9; cases h9)
    | succ n hk2 =>
      intro x2 σ hf H locs ls hP hD hS hl
      have hf : wf_M_isGood_2_b k1 (wf_M_isGood_2 k1 n) x2 σ = some res := hf
      unfold wf_M_isGood_2_b at hf
      refine lv_iload_n hx hb wd_M_isGood_2 rfl (lv_at hl 2 rfl) ?_
      refine lv_aload_n hx hb wd_M_isGood_3 rfl (lv_at hl 0 rfl) ?_
      refine wx_get (v := .int (σ 71 1)) (C := "WidthCampaignsModel") (T := wx_TM) (N' := 29) hx hb hts wi_M hown hK hP 71 (by decide) rfl rfl 1 (by decide) wt_631 (fun _ h9 => h9) rfl wd_M_isGood_4 ?_
      refine lv_topi (fun v1 ev1 => ?_)
      have hf := wc_st_e ev1 hf
      refine lv_icmp_ge (tgt := 27) hx hb wd_M_isGood_7 (by decide) (fun c2 => ?_) (fun c2 => ?_)
      · have hf := wc_t c2 hf
        refine lv_iconst (v := 1) hx hb wd_M_isGood_27 (by decide) ?_
        exact wx_zret hx hb hr narrow_b1 hlocks hf hP hS wd_M_isGood_28
      · have hf := wc_f c2 hf
        refine lv_aload_n hx hb wd_M_isGood_10 rfl (lv_at hl 0 rfl) ?_
        refine lv_aload_n hx hb wd_M_isGood_11 rfl (lv_at hl 1 rfl) ?_
        refine lv_iload_n hx hb wd_M_isGood_12 rfl (lv_at hl 2 rfl) ?_
        obtain ⟨r4, σ3, hq, hf⟩ := wc_b2_e hf
        refine wx_calli (va_runV (As := [.ref (ad k1), .int x2]) (rest := []) ⟨hx, hb, hml, hown, hts⟩ (wm_M_mayBe l D ad cI cZ cJ cG _ k1 hk1_ x2 σ _ hq) (wx_cwV 2 hts wt_773 wt_772 wp_36 wt_7 wt_770 wh_M_mayBe rfl rfl ⟨Nat.le_of_ble_eq_true rfl, Nat.le_of_ble_eq_true rfl⟩) (wx_preV hK hP hD hS hA hC (by decide) rfl rfl) rfl rfl hl.1 rfl (lv_room (Nat.le_of_ble_eq_true rfl)) wd_M_isGood_13 ⟨Nat.le_of_ble_eq_true rfl, Nat.le_of_ble_eq_true rfl⟩) hD hS hA (fun H locs hP hD hS => ?_)
        refine lv_if_ne (tgt := 21) hx hb wd_M_isGood_16 (by decide) (fun c5 => ?_) (fun c5 => ?_)
        · have hf := wc_f c5 hf
          obtain ⟨v6, ev6⟩ : ∃ y : Int32, y = x2 + 1 := ⟨_, rfl⟩
          have hf := wc_st_e ev6 hf
          refine lv_iinc (v := v6) (lv' := [(2, .int v6), (0, .ref (ad 71)), (1, .ref (ad k1))]) hx hb wd_M_isGood_21 hl (k := 2) rfl (by rw [ev6]; rfl) (by decide) rfl (fun ls hl => ?_)
          refine lv_goto (tgt := 2) hx hb wd_M_isGood_24 (by decide) ?_
          exact hk2 v6 σ3 hf _ _ _ hP hD hS (lv_sub hl [1, 2, 0] rfl)
        · have hf := wc_t c5 hf
          refine lv_iconst (v := 0) hx hb wd_M_isGood_19 (by decide) ?_
          exact wx_zret hx hb hr narrow_b0 hlocks hf hP hS wd_M_isGood_20
  unfold wf_M_isGood at hf
  refine lv_iconst (v := 0) hx hb wd_M_isGood_0 (by decide) ?_
  refine lv_istore_n (lv' := [(2, .int 0), (0, .ref (ad 71)), (1, .ref (ad k1))]) hx hb wd_M_isGood_1 rfl hl (by decide) rfl (fun ls hl => ?_)
  exact J2 16 0 σ hf _ _ _ hP hD hS (lv_sub hl [1, 2, 0] rfl)
set_option maxHeartbeats 4000000 in
set_option maxRecDepth 100000 in
theorem wm_M_tell (l : Launch) (D : va_G) (ad : Nat → Nat) (cI cZ cJ cG : ClassId) (sz : Nat) (a1 : Int64) (σ : wc_S) (res : wc_S) (hf : wf_M_tell a1 σ = some res) : Met l wy_M_tell (wx_ws_M_tell) ({ frames := 4, cells := 0, slots := 0, locals := 94 }) (va_Pc [.ref (ad 71), .long a1] (wx_pre D ad cI cZ cJ cG σ sz)) (wx_Qv D ad cI cZ cJ cG res (va_A (wx_W ad cI cZ cJ cG σ) sz)) 0 0 (va_A (wx_W ad cI cZ cJ cG σ) sz) := by
  refine wx_ofW (cc := prog_8_method_27_code) (maxL := 5) (ret := none) (Qc := fun A => wx_Qv D ad cI cZ cJ cG res A) [.ref (ad 71), .long a1] (by decide) rfl (Nat.le_of_ble_eq_true rfl) ?_
  intro p e s m args below meth c A ls hin hl
  obtain ⟨hx, hb, hr, hts, hown, hlocks, hml, hA, hP, hK, hD, hC, hN, hS⟩ := hin
  have hl : lv_has ls 5 [(0, .ref (ad 71)), (1, .long a1)] := hl
  have J108 : ∀ (n : Nat) (x4 : Int32) (σ : wc_S), wf_M_tell_108 n x4 σ = some res → wx_Arr p l e ({ frames := 4, cells := 0, slots := 0, locals := 94 }) s m args below meth c D ad cI cZ cJ cG A (MQ below (wx_Qv D ad cI cZ cJ cG res A) args s 0 0 A) 5 0 0 108 [(0, .ref (ad 71)), (4, .int x4)] [] σ := by
    intro  n
    induction n with
    | zero => intro x4 σ hf; exact absurd hf (by intro h9; cases h9)
    | succ n hk108 =>
      intro x4 σ hf H locs ls hP hD hS hl
      have hf : wf_M_tell_108_b (wf_M_tell_108 n) x4 σ = some res := hf
      unfold wf_M_tell_108_b at hf
      refine lv_iload hx hb wd_M_tell_108 (lv_at hl 1 rfl) ?_
      refine lv_aload_n hx hb wd_M_tell_110 rfl (lv_at hl 0 rfl) ?_
      refine wx_get (v := .int (σ 71 1)) (C := "WidthCampaignsModel") (T := wx_TM) (N' := 29) hx hb hts wi_M hown hK hP 71 (by decide) rfl rfl 1 (by decide) wt_631 (fun _ h9 => h9) rfl wd_M_tell_111 ?_
      refine lv_topi (fun v8 ev8 => ?_)
      have hf := wc_st_e ev8 hf
      refine lv_icmp_ge (tgt := 137) hx hb wd_M_tell_114 (by decide) (fun c9 => ?_) (fun c9 => ?_)
      · have hf := wc_t c9 hf
        exact wx_vret hx hb hr hlocks hf hP hS wd_M_tell_137
      · have hf := wc_f c9 hf
        refine lv_aload_n hx hb wd_M_tell_117 rfl (lv_at hl 0 rfl) ?_
        refine wx_get (v := .ref (ad 85)) (C := "WidthCampaignsModel") (T := wx_TM) (N' := 29) hx hb hts wi_M hown hK hP 71 (by decide) rfl rfl 23 (by decide) wt_653 (fun _ h9 => h9) rfl wd_M_tell_118 ?_
        refine lv_iload hx hb wd_M_tell_121 (lv_at hl 1 rfl) ?_
        refine lv_aload_n hx hb wd_M_tell_123 rfl (lv_at hl 0 rfl) ?_
        refine wx_get (v := .ref (ad 86)) (C := "WidthCampaignsModel") (T := wx_TM) (N' := 29) hx hb hts wi_M hown hK hP 71 (by decide) rfl rfl 24 (by decide) wt_654 (fun _ h9 => h9) rfl wd_M_tell_124 ?_
        refine lv_iload hx hb wd_M_tell_127 (lv_at hl 1 rfl) ?_
        obtain ⟨h10, hf⟩ := wc_gd_e hf
        refine wx_iald hx hb hK hP 86 (n := 9) (by decide) rfl (wc_in_e h10) wd_M_tell_129 ?_
        refine lv_topi (fun v11 ev11 => ?_)
        have hf := wc_st_e ev11 hf
        obtain ⟨h12, hf⟩ := wc_gd_e hf
        refine wx_iast hx hb hK hP hD hS 85 (n := 9) (by decide) (fun _ => rfl) h12 wd_M_tell_130 (fun σ13 H locs eσ13 hP hD hS => ?_)
        have hf := wc_st_e eσ13 hf
        obtain ⟨v14, ev14⟩ : ∃ y : Int32, y = x4 + 1 := ⟨_, rfl⟩
        have hf := wc_st_e ev14 hf
        refine lv_iinc (v := v14) (lv' := [(4, .int v14), (0, .ref (ad 71))]) hx hb wd_M_tell_131 hl (k := 1) rfl (by rw [ev14]; rfl) (by decide) rfl (fun ls hl => ?_)
        refine lv_goto (tgt := 108) hx hb wd_M_tell_134 (by decide) ?_
        exact hk108 v14 σ13 hf _ _ _ hP hD hS (lv_sub hl [1, 0] rfl)
  have J92 : ∀ (s1 : Int32) (s2 : Int32) (σ : wc_S), wf_M_tell_92 s1 s2 σ = some res → wx_Arr p l e ({ frames := 4, cells := 0, slots := 0, locals := 94 }) s m args below meth c D ad cI cZ cJ cG A (MQ below (wx_Qv D ad cI cZ cJ cG res A) args s 0 0 A) 5 0 0 92 [(0, .ref (ad 71))] [.int s2, .int s1, .ref (ad 71)] σ := by
    intro  s1 s2 σ hf H locs ls hP hD hS hl
    unfold wf_M_tell_92 at hf
    refine lv_iconst (v := 1) hx hb wd_M_tell_92 (by decide) ?_
    obtain ⟨r5, σ4, hq, hf⟩ := wc_b2_e hf
    refine wx_calli (va_runV (As := [.int s1, .int s2, .int 1]) (rest := []) ⟨hx, hb, hml, hown, hts⟩ (wm_M_goes l D ad cI cZ cJ cG _ s1 s2 1 σ _ hq) (wx_cwV 3 hts wt_732 wt_731 wp_32 wt_7 wt_729 wh_M_goes rfl rfl ⟨Nat.le_of_ble_eq_true rfl, Nat.le_of_ble_eq_true rfl⟩) (wx_preV hK hP hD hS hA hC (by decide) rfl rfl) rfl rfl hl.1 rfl (lv_room (Nat.le_of_ble_eq_true rfl)) wd_M_tell_93 ⟨Nat.le_of_ble_eq_true rfl, Nat.le_of_ble_eq_true rfl⟩) hD hS hA (fun H locs hP hD hS => ?_)
    refine lv_if_ne (tgt := 100) hx hb wd_M_tell_96 (by decide) (fun c6 => ?_) (fun c6 => ?_)
    · have hf := wc_f c6 hf
      refine lv_aload_n hx hb wd_M_tell_100 rfl (lv_at hl 0 rfl) ?_
      refine lv_iconst (v := 1) hx hb wd_M_tell_101 (by decide) ?_
      refine wx_put (x := 1) (ty := .boolean) (C := "WidthCampaignsModel") (T := wx_TM) (N' := 29) hx hb hts wi_M wx_tM wx_toM wx_nM hown hK hP hD hS 71 (by decide) (fun _ => rfl) rfl 22 (by decide) wt_652 (fun _ h9 => h9) rfl (by decide +kernel) narrow_b1 rfl (Nat.le_of_ble_eq_true rfl) rfl wd_M_tell_102 (fun σ7 H locs eσ7 hP hD hS => ?_)
      have hf := wc_st_e eσ7 hf
      refine lv_iconst (v := 0) hx hb wd_M_tell_105 (by decide) ?_
      refine lv_istore (lv' := [(4, .int 0), (0, .ref (ad 71))]) hx hb wd_M_tell_106 hl (by decide) rfl (fun ls hl => ?_)
      exact J108 16 0 σ7 hf _ _ _ hP hD hS (lv_sub hl [1, 0] rfl)
    · have hf := wc_t c6 hf
      exact wx_vret hx hb hr hlocks hf hP hS wd_M_tell_99
  have J91 : ∀ (s1 : Int32) (σ : wc_S), wf_M_tell_91 s1 σ = some res → wx_Arr p l e ({ frames := 4, cells := 0, slots := 0, locals := 94 }) s m args below meth c D ad cI cZ cJ cG A (MQ below (wx_Qv D ad cI cZ cJ cG res A) args s 0 0 A) 5 0 0 91 [(0, .ref (ad 71))] [.int s1, .ref (ad 71)] σ := by
    intro  s1 σ hf H locs ls hP hD hS hl
    unfold wf_M_tell_91 at hf
    refine lv_iconst (v := 0) hx hb wd_M_tell_91 (by decide) ?_
    exact J92 s1 0 σ hf _ _ _ hP hD hS (lv_sub hl [0] rfl)
  have J64 : ∀ (k5 : Int64 → Int32 → Int32 → wc_S → Option wc_S) (hk5 : (∀ (x1 : Int64) (x3 : Int32) (x4 : Int32) (σ : wc_S), k5 x1 x3 x4 σ = some res → wx_Arr p l e ({ frames := 4, cells := 0, slots := 0, locals := 94 }) s m args below meth c D ad cI cZ cJ cG A (MQ below (wx_Qv D ad cI cZ cJ cG res A) args s 0 0 A) 5 0 0 5 [(0, .ref (ad 71)), (1, .long x1), (3, .int x3), (4, .int x4)] [] σ)) (x1 : Int64) (x3 : Int32) (x4 : Int32) (σ : wc_S), wf_M_tell_64 k5 x1 x3 x4 σ = some res → wx_Arr p l e ({ frames := 4, cells := 0, slots := 0, locals := 94 }) s m args below meth c D ad cI cZ cJ cG A (MQ below (wx_Qv D ad cI cZ cJ cG res A) args s 0 0 A) 5 0 0 64 [(0, .ref (ad 71)), (1, .long x1), (3, .int x3), (4, .int x4)] [] σ := by
    intro k5 hk5 x1 x3 x4 σ hf H locs ls hP hD hS hl
    unfold wf_M_tell_64 at hf
    obtain ⟨v28, ev28⟩ : ∃ y : Int32, y = x4 + 1 := ⟨_, rfl⟩
    have hf := wc_st_e ev28 hf
    refine lv_iinc (v := v28) (lv' := [(4, .int v28), (0, .ref (ad 71)), (1, .long x1), (3, .int x3)]) hx hb wd_M_tell_64 hl (k := 3) rfl (by rw [ev28]; rfl) (by decide) rfl (fun ls hl => ?_)
    refine lv_goto (tgt := 5) hx hb wd_M_tell_67 (by decide) ?_
    exact hk5 x1 x3 v28 σ hf _ _ _ hP hD hS (lv_sub hl [1, 2, 3, 0] rfl)
  have J62 : ∀ (k5 : Int64 → Int32 → Int32 → wc_S → Option wc_S) (hk5 : (∀ (x1 : Int64) (x3 : Int32) (x4 : Int32) (σ : wc_S), k5 x1 x3 x4 σ = some res → wx_Arr p l e ({ frames := 4, cells := 0, slots := 0, locals := 94 }) s m args below meth c D ad cI cZ cJ cG A (MQ below (wx_Qv D ad cI cZ cJ cG res A) args s 0 0 A) 5 0 0 5 [(0, .ref (ad 71)), (1, .long x1), (3, .int x3), (4, .int x4)] [] σ)) (x1 : Int64) (x4 : Int32) (σ : wc_S), wf_M_tell_62 k5 x1 x4 σ = some res → wx_Arr p l e ({ frames := 4, cells := 0, slots := 0, locals := 94 }) s m args below meth c D ad cI cZ cJ cG A (MQ below (wx_Qv D ad cI cZ cJ cG res A) args s 0 0 A) 5 0 0 62 [(0, .ref (ad 71)), (1, .long x1), (4, .int x4)] [] σ := by
    intro k5 hk5 x1 x4 σ hf H locs ls hP hD hS hl
    unfold wf_M_tell_62 at hf
    refine lv_iconst (v := 0) hx hb wd_M_tell_62 (by decide) ?_
    refine lv_istore_n (lv' := [(3, .int 0), (0, .ref (ad 71)), (1, .long x1), (4, .int x4)]) hx hb wd_M_tell_63 rfl hl (by decide) rfl (fun ls hl => ?_)
    exact J64 k5 hk5 x1 0 x4 σ hf _ _ _ hP hD hS (lv_sub hl [1, 2, 0, 3] rfl)
  have J5 : ∀ (n : Nat) (x1 : Int64) (x3 : Int32) (x4 : Int32) (σ : wc_S), wf_M_tell_5 n x1 x3 x4 σ = some res → wx_Arr p l e ({ frames := 4, cells := 0, slots := 0, locals := 94 }) s m args below meth c D ad cI cZ cJ cG A (MQ below (wx_Qv D ad cI cZ cJ cG res A) args s 0 0 A) 5 0 0 5 [(0, .ref (ad 71)), (1, .long x1), (3, .int x3), (4, .int x4)] [] σ := by
    intro  n
    induction n with
    | zero => intro x1 x3 x4 σ hf; exact absurd hf (by intro h9; cases h9)
    | succ n hk5 =>
      intro x1 x3 x4 σ hf H locs ls hP hD hS hl
      have hf : wf_M_tell_5_b (wf_M_tell_5 n) x1 x3 x4 σ = some res := hf
      unfold wf_M_tell_5_b at hf
      refine lv_iload hx hb wd_M_tell_5 (lv_at hl 3 rfl) ?_
      refine lv_aload_n hx hb wd_M_tell_7 rfl (lv_at hl 0 rfl) ?_
      refine wx_get (v := .int (σ 71 1)) (C := "WidthCampaignsModel") (T := wx_TM) (N' := 29) hx hb hts wi_M hown hK hP 71 (by decide) rfl rfl 1 (by decide) wt_631 (fun _ h9 => h9) rfl wd_M_tell_8 ?_
      refine lv_topi (fun v1 ev1 => ?_)
      have hf := wc_st_e ev1 hf
      refine lv_icmp_ge (tgt := 70) hx hb wd_M_tell_11 (by decide) (fun c2 => ?_) (fun c2 => ?_)
      · have hf := wc_t c2 hf
        refine lv_aload_n hx hb wd_M_tell_70 rfl (lv_at hl 0 rfl) ?_
        refine lv_iload_n hx hb wd_M_tell_71 rfl (lv_at hl 2 rfl) ?_
        refine lv_iload_n hx hb wd_M_tell_72 rfl (lv_at hl 2 rfl) ?_
        refine lv_if_eq (tgt := 91) hx hb wd_M_tell_73 (by decide) (fun c3 => ?_) (fun c3 => ?_)
        · have hf := wc_t c3 hf
          exact J91 x3 σ hf _ _ _ hP hD hS (lv_sub hl [0] rfl)
        · have hf := wc_f c3 hf
          refine lv_aload_n hx hb wd_M_tell_76 rfl (lv_at hl 0 rfl) ?_
          refine lv_aload_n hx hb wd_M_tell_77 rfl (lv_at hl 0 rfl) ?_
          refine wx_get (v := .ref (ad 86)) (C := "WidthCampaignsModel") (T := wx_TM) (N' := 29) hx hb hts wi_M hown hK hP 71 (by decide) rfl rfl 24 (by decide) wt_654 (fun _ h9 => h9) rfl wd_M_tell_78 ?_
          obtain ⟨r16, σ15, hq, hf⟩ := wc_b2_e hf
          refine wx_calli (va_runV (As := [.ref (ad 86)]) (rest := [.int x3, .ref (ad 71)]) ⟨hx, hb, hml, hown, hts⟩ (wm_M_isGood l D ad cI cZ cJ cG _ 86 (Or.inr rfl) σ _ hq) (wx_cwV 1 hts wt_822 wt_821 wp_41 wt_7 wt_819 wh_M_isGood rfl rfl ⟨Nat.le_of_ble_eq_true rfl, Nat.le_of_ble_eq_true rfl⟩) (wx_preV hK hP hD hS hA hC (by decide) rfl rfl) rfl rfl hl.1 rfl (lv_room (Nat.le_of_ble_eq_true rfl)) wd_M_tell_81 ⟨Nat.le_of_ble_eq_true rfl, Nat.le_of_ble_eq_true rfl⟩) hD hS hA (fun H locs hP hD hS => ?_)
          refine lv_if_eq (tgt := 91) hx hb wd_M_tell_84 (by decide) (fun c17 => ?_) (fun c17 => ?_)
          · have hf := wc_t c17 hf
            exact J91 x3 σ15 hf _ _ _ hP hD hS (lv_sub hl [0] rfl)
          · have hf := wc_f c17 hf
            refine lv_iconst (v := 1) hx hb wd_M_tell_87 (by decide) ?_
            refine lv_goto (tgt := 92) hx hb wd_M_tell_88 (by decide) ?_
            exact J92 x3 1 σ15 hf _ _ _ hP hD hS (lv_sub hl [0] rfl)
      · have hf := wc_f c2 hf
        refine lv_aload_n hx hb wd_M_tell_14 rfl (lv_at hl 0 rfl) ?_
        refine wx_get (v := .ref (ad 86)) (C := "WidthCampaignsModel") (T := wx_TM) (N' := 29) hx hb hts wi_M hown hK hP 71 (by decide) rfl rfl 24 (by decide) wt_654 (fun _ h9 => h9) rfl wd_M_tell_15 ?_
        refine lv_iload hx hb wd_M_tell_18 (lv_at hl 3 rfl) ?_
        refine lv_lload_n hx hb wd_M_tell_20 rfl (lv_at hl 1 rfl) ?_
        refine lv_iconst (v := 4) hx hb wd_M_tell_21 (by decide) ?_
        refine lv_iload hx hb wd_M_tell_22 (lv_at hl 3 rfl) ?_
        refine lv_imul hx hb wd_M_tell_24 ?_
        refine lv_topi (fun v18 ev18 => ?_)
        have hf := wc_st_e ev18 hf
        refine lv_lshr hx hb wd_M_tell_25 rfl ?_
        refine lv_topl (fun v19 ev19 => ?_)
        have hf := wc_st_e ev19 hf
        refine lv_ldc2 (v := 15) hx hb hown (wx_hw hts wt_818) wd_M_tell_26 ?_
        refine lv_land hx hb wd_M_tell_29 ?_
        refine lv_topl (fun v20 ev20 => ?_)
        have hf := wc_st_e ev20 hf
        refine lv_l2i hx hb wd_M_tell_30 rfl ?_
        refine lv_topi (fun v21 ev21 => ?_)
        have hf := wc_st_e ev21 hf
        obtain ⟨h22, hf⟩ := wc_gd_e hf
        refine wx_iast hx hb hK hP hD hS 86 (n := 9) (by decide) (fun _ => rfl) h22 wd_M_tell_31 (fun σ23 H locs eσ23 hP hD hS => ?_)
        have hf := wc_st_e eσ23 hf
        refine lv_aload_n hx hb wd_M_tell_32 rfl (lv_at hl 0 rfl) ?_
        refine wx_get (v := .ref (ad 86)) (C := "WidthCampaignsModel") (T := wx_TM) (N' := 29) hx hb hts wi_M hown hK hP 71 (by decide) rfl rfl 24 (by decide) wt_654 (fun _ h9 => h9) rfl wd_M_tell_33 ?_
        refine lv_iload hx hb wd_M_tell_36 (lv_at hl 3 rfl) ?_
        obtain ⟨h24, hf⟩ := wc_gd_e hf
        refine wx_iald hx hb hK hP 86 (n := 9) (by decide) rfl (wc_in_e h24) wd_M_tell_38 ?_
        refine lv_topi (fun v25 ev25 => ?_)
        have hf := wc_st_e ev25 hf
        refine lv_aload_n hx hb wd_M_tell_39 rfl (lv_at hl 0 rfl) ?_
        refine wx_get (v := .int (σ23 71 1)) (C := "WidthCampaignsModel") (T := wx_TM) (N' := 29) hx hb hts wi_M hown hK hP 71 (by decide) rfl rfl 1 (by decide) wt_631 (fun _ h9 => h9) rfl wd_M_tell_40 ?_
        refine lv_topi (fun v26 ev26 => ?_)
        have hf := wc_st_e ev26 hf
        refine lv_icmp_ge (tgt := 62) hx hb wd_M_tell_43 (by decide) (fun c27 => ?_) (fun c27 => ?_)
        · have hf := wc_t c27 hf
          exact J62 (wf_M_tell_5 n) hk5 x1 x4 σ23 hf _ _ _ hP hD hS (lv_sub hl [0, 1, 3] rfl)
        · have hf := wc_f c27 hf
          refine lv_aload_n hx hb wd_M_tell_46 rfl (lv_at hl 0 rfl) ?_
          refine lv_aload_n hx hb wd_M_tell_47 rfl (lv_at hl 0 rfl) ?_
          refine wx_get (v := .ref (ad 86)) (C := "WidthCampaignsModel") (T := wx_TM) (N' := 29) hx hb hts wi_M hown hK hP 71 (by decide) rfl rfl 24 (by decide) wt_654 (fun _ h9 => h9) rfl wd_M_tell_48 ?_
          refine lv_iload hx hb wd_M_tell_51 (lv_at hl 3 rfl) ?_
          obtain ⟨h29, hf⟩ := wc_gd_e hf
          refine wx_iald hx hb hK hP 86 (n := 9) (by decide) rfl (wc_in_e h29) wd_M_tell_53 ?_
          refine lv_topi (fun v30 ev30 => ?_)
          have hf := wc_st_e ev30 hf
          refine lv_iload hx hb wd_M_tell_54 (lv_at hl 3 rfl) ?_
          obtain ⟨r32, σ31, hq, hf⟩ := wc_b2_e hf
          refine wx_calli (va_runV (As := [.int v30, .int x4]) (rest := []) ⟨hx, hb, hml, hown, hts⟩ (wm_M_stands l D ad cI cZ cJ cG _ v30 x4 σ23 _ hq) (wx_cwV 2 hts wt_769 wt_768 wp_35 wt_7 wt_766 wh_M_stands rfl rfl ⟨Nat.le_of_ble_eq_true rfl, Nat.le_of_ble_eq_true rfl⟩) (wx_preV hK hP hD hS hA hC (by decide) rfl rfl) rfl rfl hl.1 rfl (lv_room (Nat.le_of_ble_eq_true rfl)) wd_M_tell_56 ⟨Nat.le_of_ble_eq_true rfl, Nat.le_of_ble_eq_true rfl⟩) hD hS hA (fun H locs hP hD hS => ?_)
          refine lv_if_eq (tgt := 64) hx hb wd_M_tell_59 (by decide) (fun c33 => ?_) (fun c33 => ?_)
          · have hf := wc_t c33 hf
            exact J64 (wf_M_tell_5 n) hk5 x1 x3 x4 σ31 hf _ _ _ hP hD hS (lv_sub hl [0, 1, 2, 3] rfl)
          · have hf := wc_f c33 hf
            exact J62 (wf_M_tell_5 n) hk5 x1 x4 σ31 hf _ _ _ hP hD hS (lv_sub hl [0, 1, 3] rfl)
  unfold wf_M_tell at hf
  refine lv_iconst (v := 1) hx hb wd_M_tell_0 (by decide) ?_
  refine lv_istore_n (lv' := [(3, .int 1), (0, .ref (ad 71)), (1, .long a1)]) hx hb wd_M_tell_1 rfl hl (by decide) rfl (fun ls hl => ?_)
  refine lv_iconst (v := 0) hx hb wd_M_tell_2 (by decide) ?_
  refine lv_istore (lv' := [(4, .int 0), (3, .int 1), (0, .ref (ad 71)), (1, .long a1)]) hx hb wd_M_tell_3 hl (by decide) rfl (fun ls hl => ?_)
  exact J5 16 a1 1 0 σ hf _ _ _ hP hD hS (lv_sub hl [2, 3, 1, 0] rfl)
set_option maxHeartbeats 4000000 in
set_option maxRecDepth 100000 in
theorem wm_M_swaps (l : Launch) (D : va_G) (ad : Nat → Nat) (cI cZ cJ cG : ClassId) (sz : Nat) (a1 : Int32) (a2 : Int32) (σ : wc_S) (res : Int32 × wc_S) (hf : wf_M_swaps a1 a2 σ = some res) : Met l wy_M_swaps (wx_ws_M_swaps) ({ frames := 4, cells := 0, slots := 0, locals := 94 }) (va_Pc [.ref (ad 71), .int a1, .int a2] (wx_pre D ad cI cZ cJ cG σ sz)) (wx_Qi D ad cI cZ cJ cG res (va_A (wx_W ad cI cZ cJ cG σ) sz)) 0 0 (va_A (wx_W ad cI cZ cJ cG σ) sz) := by
  refine wx_ofW (cc := prog_8_method_28_code) (maxL := 5) (ret := (some .boolean)) (Qc := fun A => wx_Qi D ad cI cZ cJ cG res A) [.ref (ad 71), .int a1, .int a2] (by decide) rfl (Nat.le_of_ble_eq_true rfl) ?_
  intro p e s m args below meth c A ls hin hl
  obtain ⟨hx, hb, hr, hts, hown, hlocks, hml, hA, hP, hK, hD, hC, hN, hS⟩ := hin
  have hl : lv_has ls 5 [(0, .ref (ad 71)), (1, .int a1), (2, .int a2)] := hl
  have J111 : ∀ (n : Nat) (x4 : Int32) (σ : wc_S), wf_M_swaps_111 n x4 σ = some res → wx_Arr p l e ({ frames := 4, cells := 0, slots := 0, locals := 94 }) s m args below meth c D ad cI cZ cJ cG A (MQ below (wx_Qi D ad cI cZ cJ cG res A) args s 0 0 A) 5 0 0 111 [(0, .ref (ad 71)), (4, .int x4)] [] σ := by
    intro  n
    induction n with
    | zero => intro x4 σ hf; exact absurd hf (by intro h9; cases h9)
    | succ n hk111 =>
      intro x4 σ hf H locs ls hP hD hS hl
      have hf : wf_M_swaps_111_b (wf_M_swaps_111 n) x4 σ = some res := hf
      unfold wf_M_swaps_111_b at hf
      refine lv_iload hx hb wd_M_swaps_111 (lv_at hl 1 rfl) ?_
      refine lv_aload_n hx hb wd_M_swaps_113 rfl (lv_at hl 0 rfl) ?_
      refine wx_get (v := .int (σ 71 1)) (C := "WidthCampaignsModel") (T := wx_TM) (N' := 29) hx hb hts wi_M hown hK hP 71 (by decide) rfl rfl 1 (by decide) wt_631 (fun _ h9 => h9) rfl wd_M_swaps_114 ?_
      refine lv_topi (fun v21 ev21 => ?_)
      have hf := wc_st_e ev21 hf
      refine lv_icmp_ge (tgt := 140) hx hb wd_M_swaps_117 (by decide) (fun c22 => ?_) (fun c22 => ?_)
      · have hf := wc_t c22 hf
        refine lv_iconst (v := 1) hx hb wd_M_swaps_140 (by decide) ?_
        exact wx_zret hx hb hr narrow_b1 hlocks hf hP hS wd_M_swaps_141
      · have hf := wc_f c22 hf
        refine lv_aload_n hx hb wd_M_swaps_120 rfl (lv_at hl 0 rfl) ?_
        refine wx_get (v := .ref (ad 85)) (C := "WidthCampaignsModel") (T := wx_TM) (N' := 29) hx hb hts wi_M hown hK hP 71 (by decide) rfl rfl 23 (by decide) wt_653 (fun _ h9 => h9) rfl wd_M_swaps_121 ?_
        refine lv_iload hx hb wd_M_swaps_124 (lv_at hl 1 rfl) ?_
        refine lv_aload_n hx hb wd_M_swaps_126 rfl (lv_at hl 0 rfl) ?_
        refine wx_get (v := .ref (ad 86)) (C := "WidthCampaignsModel") (T := wx_TM) (N' := 29) hx hb hts wi_M hown hK hP 71 (by decide) rfl rfl 24 (by decide) wt_654 (fun _ h9 => h9) rfl wd_M_swaps_127 ?_
        refine lv_iload hx hb wd_M_swaps_130 (lv_at hl 1 rfl) ?_
        obtain ⟨h23, hf⟩ := wc_gd_e hf
        refine wx_iald hx hb hK hP 86 (n := 9) (by decide) rfl (wc_in_e h23) wd_M_swaps_132 ?_
        refine lv_topi (fun v24 ev24 => ?_)
        have hf := wc_st_e ev24 hf
        obtain ⟨h25, hf⟩ := wc_gd_e hf
        refine wx_iast hx hb hK hP hD hS 85 (n := 9) (by decide) (fun _ => rfl) h25 wd_M_swaps_133 (fun σ26 H locs eσ26 hP hD hS => ?_)
        have hf := wc_st_e eσ26 hf
        obtain ⟨v27, ev27⟩ : ∃ y : Int32, y = x4 + 1 := ⟨_, rfl⟩
        have hf := wc_st_e ev27 hf
        refine lv_iinc (v := v27) (lv' := [(4, .int v27), (0, .ref (ad 71))]) hx hb wd_M_swaps_134 hl (k := 1) rfl (by rw [ev27]; rfl) (by decide) rfl (fun ls hl => ?_)
        refine lv_goto (tgt := 111) hx hb wd_M_swaps_137 (by decide) ?_
        exact hk111 v27 σ26 hf _ _ _ hP hD hS (lv_sub hl [1, 0] rfl)
  have J20 : ∀ (n : Nat) (x1 : Int32) (x2 : Int32) (x3 : Int32) (x4 : Int32) (σ : wc_S), wf_M_swaps_20 n x1 x2 x3 x4 σ = some res → wx_Arr p l e ({ frames := 4, cells := 0, slots := 0, locals := 94 }) s m args below meth c D ad cI cZ cJ cG A (MQ below (wx_Qi D ad cI cZ cJ cG res A) args s 0 0 A) 5 0 0 20 [(0, .ref (ad 71)), (1, .int x1), (2, .int x2), (3, .int x3), (4, .int x4)] [] σ := by
    intro  n
    induction n with
    | zero => intro x1 x2 x3 x4 σ hf; exact absurd hf (by intro h9; cases h9)
    | succ n hk20 =>
      intro x1 x2 x3 x4 σ hf H locs ls hP hD hS hl
      have hf : wf_M_swaps_20_b (wf_M_swaps_20 n) x1 x2 x3 x4 σ = some res := hf
      unfold wf_M_swaps_20_b at hf
      refine lv_iload hx hb wd_M_swaps_20 (lv_at hl 4 rfl) ?_
      refine lv_aload_n hx hb wd_M_swaps_22 rfl (lv_at hl 0 rfl) ?_
      refine wx_get (v := .int (σ 71 1)) (C := "WidthCampaignsModel") (T := wx_TM) (N' := 29) hx hb hts wi_M hown hK hP 71 (by decide) rfl rfl 1 (by decide) wt_631 (fun _ h9 => h9) rfl wd_M_swaps_23 ?_
      refine lv_topi (fun v4 ev4 => ?_)
      have hf := wc_st_e ev4 hf
      refine lv_icmp_ge (tgt := 49) hx hb wd_M_swaps_26 (by decide) (fun c5 => ?_) (fun c5 => ?_)
      · have hf := wc_t c5 hf
        refine lv_aload_n hx hb wd_M_swaps_49 rfl (lv_at hl 0 rfl) ?_
        refine wx_get (v := .ref (ad 86)) (C := "WidthCampaignsModel") (T := wx_TM) (N' := 29) hx hb hts wi_M hown hK hP 71 (by decide) rfl rfl 24 (by decide) wt_654 (fun _ h9 => h9) rfl wd_M_swaps_50 ?_
        refine lv_iload_n hx hb wd_M_swaps_53 rfl (lv_at hl 1 rfl) ?_
        refine lv_aload_n hx hb wd_M_swaps_54 rfl (lv_at hl 0 rfl) ?_
        refine wx_get (v := .ref (ad 85)) (C := "WidthCampaignsModel") (T := wx_TM) (N' := 29) hx hb hts wi_M hown hK hP 71 (by decide) rfl rfl 23 (by decide) wt_653 (fun _ h9 => h9) rfl wd_M_swaps_55 ?_
        refine lv_iload_n hx hb wd_M_swaps_58 rfl (lv_at hl 2 rfl) ?_
        obtain ⟨h6, hf⟩ := wc_gd_e hf
        refine wx_iald hx hb hK hP 85 (n := 9) (by decide) rfl (wc_in_e h6) wd_M_swaps_59 ?_
        refine lv_topi (fun v7 ev7 => ?_)
        have hf := wc_st_e ev7 hf
        obtain ⟨h8, hf⟩ := wc_gd_e hf
        refine wx_iast hx hb hK hP hD hS 86 (n := 9) (by decide) (fun _ => rfl) h8 wd_M_swaps_60 (fun σ9 H locs eσ9 hP hD hS => ?_)
        have hf := wc_st_e eσ9 hf
        refine lv_aload_n hx hb wd_M_swaps_61 rfl (lv_at hl 0 rfl) ?_
        refine wx_get (v := .ref (ad 86)) (C := "WidthCampaignsModel") (T := wx_TM) (N' := 29) hx hb hts wi_M hown hK hP 71 (by decide) rfl rfl 24 (by decide) wt_654 (fun _ h9 => h9) rfl wd_M_swaps_62 ?_
        refine lv_iload_n hx hb wd_M_swaps_65 rfl (lv_at hl 2 rfl) ?_
        refine lv_aload_n hx hb wd_M_swaps_66 rfl (lv_at hl 0 rfl) ?_
        refine wx_get (v := .ref (ad 85)) (C := "WidthCampaignsModel") (T := wx_TM) (N' := 29) hx hb hts wi_M hown hK hP 71 (by decide) rfl rfl 23 (by decide) wt_653 (fun _ h9 => h9) rfl wd_M_swaps_67 ?_
        refine lv_iload_n hx hb wd_M_swaps_70 rfl (lv_at hl 1 rfl) ?_
        obtain ⟨h10, hf⟩ := wc_gd_e hf
        refine wx_iald hx hb hK hP 85 (n := 9) (by decide) rfl (wc_in_e h10) wd_M_swaps_71 ?_
        refine lv_topi (fun v11 ev11 => ?_)
        have hf := wc_st_e ev11 hf
        obtain ⟨h12, hf⟩ := wc_gd_e hf
        refine wx_iast hx hb hK hP hD hS 86 (n := 9) (by decide) (fun _ => rfl) h12 wd_M_swaps_72 (fun σ13 H locs eσ13 hP hD hS => ?_)
        have hf := wc_st_e eσ13 hf
        refine lv_aload_n hx hb wd_M_swaps_73 rfl (lv_at hl 0 rfl) ?_
        refine lv_aload_n hx hb wd_M_swaps_74 rfl (lv_at hl 0 rfl) ?_
        refine wx_get (v := .ref (ad 86)) (C := "WidthCampaignsModel") (T := wx_TM) (N' := 29) hx hb hts wi_M hown hK hP 71 (by decide) rfl rfl 24 (by decide) wt_654 (fun _ h9 => h9) rfl wd_M_swaps_75 ?_
        obtain ⟨r15, σ14, hq, hf⟩ := wc_b2_e hf
        refine wx_calli (va_runV (As := [.ref (ad 86)]) (rest := []) ⟨hx, hb, hml, hown, hts⟩ (wm_M_isGood l D ad cI cZ cJ cG _ 86 (Or.inr rfl) σ13 _ hq) (wx_cwV 1 hts wt_822 wt_821 wp_41 wt_7 wt_819 wh_M_isGood rfl rfl ⟨Nat.le_of_ble_eq_true rfl, Nat.le_of_ble_eq_true rfl⟩) (wx_preV hK hP hD hS hA hC (by decide) rfl rfl) rfl rfl hl.1 rfl (lv_room (Nat.le_of_ble_eq_true rfl)) wd_M_swaps_78 ⟨Nat.le_of_ble_eq_true rfl, Nat.le_of_ble_eq_true rfl⟩) hD hS hA (fun H locs hP hD hS => ?_)
        refine lv_if_ne (tgt := 86) hx hb wd_M_swaps_81 (by decide) (fun c16 => ?_) (fun c16 => ?_)
        · have hf := wc_f c16 hf
          refine lv_aload_n hx hb wd_M_swaps_86 rfl (lv_at hl 0 rfl) ?_
          refine lv_aload_n hx hb wd_M_swaps_87 rfl (lv_at hl 0 rfl) ?_
          refine wx_get (v := .ref (ad 86)) (C := "WidthCampaignsModel") (T := wx_TM) (N' := 29) hx hb hts wi_M hown hK hP 71 (by decide) rfl rfl 24 (by decide) wt_654 (fun _ h9 => h9) rfl wd_M_swaps_88 ?_
          refine lv_aload_n hx hb wd_M_swaps_91 rfl (lv_at hl 0 rfl) ?_
          refine wx_get (v := .int (σ14 71 1)) (C := "WidthCampaignsModel") (T := wx_TM) (N' := 29) hx hb hts wi_M hown hK hP 71 (by decide) rfl rfl 1 (by decide) wt_631 (fun _ h9 => h9) rfl wd_M_swaps_92 ?_
          refine lv_topi (fun v17 ev17 => ?_)
          have hf := wc_st_e ev17 hf
          obtain ⟨σ18, hq, hf⟩ := wc_b1_e hf
          refine wx_callv (va_runV (As := [.ref (ad 86), .int v17]) (rest := []) ⟨hx, hb, hml, hown, hts⟩ (wm_M_reckon l D ad cI cZ cJ cG _ 86 (Or.inr rfl) v17 σ14 _ hq) (wx_cwV 2 hts wt_785 wt_784 wp_39 wt_7 wt_782 wh_M_reckon rfl rfl ⟨Nat.le_of_ble_eq_true rfl, Nat.le_of_ble_eq_true rfl⟩) (wx_preV hK hP hD hS hA hC (by decide) rfl rfl) rfl rfl hl.1 rfl (lv_room (Nat.le_of_ble_eq_true rfl)) wd_M_swaps_95 ⟨Nat.le_of_ble_eq_true rfl, Nat.le_of_ble_eq_true rfl⟩) hD hS hA (fun H locs hP hD hS => ?_)
          refine lv_aload_n hx hb wd_M_swaps_98 rfl (lv_at hl 0 rfl) ?_
          refine wx_get (v := .int (σ18 71 25)) (C := "WidthCampaignsModel") (T := wx_TM) (N' := 29) hx hb hts wi_M hown hK hP 71 (by decide) rfl rfl 25 (by decide) wt_655 (fun _ h9 => h9) rfl wd_M_swaps_99 ?_
          refine lv_topi (fun v19 ev19 => ?_)
          have hf := wc_st_e ev19 hf
          refine lv_iload_n hx hb wd_M_swaps_102 rfl (lv_at hl 3 rfl) ?_
          refine lv_icmp_lt (tgt := 108) hx hb wd_M_swaps_103 (by decide) (fun c20 => ?_) (fun c20 => ?_)
          · have hf := wc_t c20 hf
            refine lv_iconst (v := 0) hx hb wd_M_swaps_108 (by decide) ?_
            refine lv_istore (lv' := [(4, .int 0), (0, .ref (ad 71)), (1, .int x1), (2, .int x2), (3, .int x3)]) hx hb wd_M_swaps_109 hl (by decide) rfl (fun ls hl => ?_)
            exact J111 16 0 σ18 hf _ _ _ hP hD hS (lv_sub hl [1, 0] rfl)
          · have hf := wc_f c20 hf
            refine lv_iconst (v := 0) hx hb wd_M_swaps_106 (by decide) ?_
            exact wx_zret hx hb hr narrow_b0 hlocks hf hP hS wd_M_swaps_107
        · have hf := wc_t c16 hf
          refine lv_iconst (v := 0) hx hb wd_M_swaps_84 (by decide) ?_
          exact wx_zret hx hb hr narrow_b0 hlocks hf hP hS wd_M_swaps_85
      · have hf := wc_f c5 hf
        refine lv_aload_n hx hb wd_M_swaps_29 rfl (lv_at hl 0 rfl) ?_
        refine wx_get (v := .ref (ad 86)) (C := "WidthCampaignsModel") (T := wx_TM) (N' := 29) hx hb hts wi_M hown hK hP 71 (by decide) rfl rfl 24 (by decide) wt_654 (fun _ h9 => h9) rfl wd_M_swaps_30 ?_
        refine lv_iload hx hb wd_M_swaps_33 (lv_at hl 4 rfl) ?_
        refine lv_aload_n hx hb wd_M_swaps_35 rfl (lv_at hl 0 rfl) ?_
        refine wx_get (v := .ref (ad 85)) (C := "WidthCampaignsModel") (T := wx_TM) (N' := 29) hx hb hts wi_M hown hK hP 71 (by decide) rfl rfl 23 (by decide) wt_653 (fun _ h9 => h9) rfl wd_M_swaps_36 ?_
        refine lv_iload hx hb wd_M_swaps_39 (lv_at hl 4 rfl) ?_
        obtain ⟨h28, hf⟩ := wc_gd_e hf
        refine wx_iald hx hb hK hP 85 (n := 9) (by decide) rfl (wc_in_e h28) wd_M_swaps_41 ?_
        refine lv_topi (fun v29 ev29 => ?_)
        have hf := wc_st_e ev29 hf
        obtain ⟨h30, hf⟩ := wc_gd_e hf
        refine wx_iast hx hb hK hP hD hS 86 (n := 9) (by decide) (fun _ => rfl) h30 wd_M_swaps_42 (fun σ31 H locs eσ31 hP hD hS => ?_)
        have hf := wc_st_e eσ31 hf
        obtain ⟨v32, ev32⟩ : ∃ y : Int32, y = x4 + 1 := ⟨_, rfl⟩
        have hf := wc_st_e ev32 hf
        refine lv_iinc (v := v32) (lv' := [(4, .int v32), (0, .ref (ad 71)), (1, .int x1), (2, .int x2), (3, .int x3)]) hx hb wd_M_swaps_43 hl (k := 4) rfl (by rw [ev32]; rfl) (by decide) rfl (fun ls hl => ?_)
        refine lv_goto (tgt := 20) hx hb wd_M_swaps_46 (by decide) ?_
        exact hk20 x1 x2 x3 v32 σ31 hf _ _ _ hP hD hS (lv_sub hl [1, 2, 3, 4, 0] rfl)
  unfold wf_M_swaps at hf
  refine lv_aload_n hx hb wd_M_swaps_0 rfl (lv_at hl 0 rfl) ?_
  refine lv_aload_n hx hb wd_M_swaps_1 rfl (lv_at hl 0 rfl) ?_
  refine wx_get (v := .ref (ad 85)) (C := "WidthCampaignsModel") (T := wx_TM) (N' := 29) hx hb hts wi_M hown hK hP 71 (by decide) rfl rfl 23 (by decide) wt_653 (fun _ h9 => h9) rfl wd_M_swaps_2 ?_
  refine lv_aload_n hx hb wd_M_swaps_5 rfl (lv_at hl 0 rfl) ?_
  refine wx_get (v := .int (σ 71 1)) (C := "WidthCampaignsModel") (T := wx_TM) (N' := 29) hx hb hts wi_M hown hK hP 71 (by decide) rfl rfl 1 (by decide) wt_631 (fun _ h9 => h9) rfl wd_M_swaps_6 ?_
  refine lv_topi (fun v1 ev1 => ?_)
  have hf := wc_st_e ev1 hf
  obtain ⟨σ2, hq, hf⟩ := wc_b1_e hf
  refine wx_callv (va_runV (As := [.ref (ad 85), .int v1]) (rest := []) ⟨hx, hb, hml, hown, hts⟩ (wm_M_reckon l D ad cI cZ cJ cG _ 85 (Or.inl rfl) v1 σ _ hq) (wx_cwV 2 hts wt_785 wt_784 wp_39 wt_7 wt_782 wh_M_reckon rfl rfl ⟨Nat.le_of_ble_eq_true rfl, Nat.le_of_ble_eq_true rfl⟩) (wx_preV hK hP hD hS hA hC (by decide) rfl rfl) rfl rfl hl.1 rfl (lv_room (Nat.le_of_ble_eq_true rfl)) wd_M_swaps_9 ⟨Nat.le_of_ble_eq_true rfl, Nat.le_of_ble_eq_true rfl⟩) hD hS hA (fun H locs hP hD hS => ?_)
  refine lv_aload_n hx hb wd_M_swaps_12 rfl (lv_at hl 0 rfl) ?_
  refine wx_get (v := .int (σ2 71 25)) (C := "WidthCampaignsModel") (T := wx_TM) (N' := 29) hx hb hts wi_M hown hK hP 71 (by decide) rfl rfl 25 (by decide) wt_655 (fun _ h9 => h9) rfl wd_M_swaps_13 ?_
  refine lv_topi (fun v3 ev3 => ?_)
  have hf := wc_st_e ev3 hf
  refine lv_istore_n (lv' := [(3, .int v3), (0, .ref (ad 71)), (1, .int a1), (2, .int a2)]) hx hb wd_M_swaps_16 rfl hl (by decide) rfl (fun ls hl => ?_)
  refine lv_iconst (v := 0) hx hb wd_M_swaps_17 (by decide) ?_
  refine lv_istore (lv' := [(4, .int 0), (3, .int v3), (0, .ref (ad 71)), (1, .int a1), (2, .int a2)]) hx hb wd_M_swaps_18 hl (by decide) rfl (fun ls hl => ?_)
  exact J20 16 a1 a2 v3 0 σ2 hf _ _ _ hP hD hS (lv_sub hl [2, 3, 4, 1, 0] rfl)
