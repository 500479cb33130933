set_option maxHeartbeats 4000000 in
set_option maxRecDepth 100000 in
theorem wm_M_better (l : Launch) (D : va_G) (ad : Nat → Nat) (cI cZ cJ cG : ClassId) (sz : Nat) (σ : wc_S) (res : Int32 × wc_S) (hf : wf_M_better  σ = some res) : Met l wy_M_better (wx_ws_M_better) ({ frames := 5, cells := 0, slots := 0, locals := 118 }) (va_Pc [.ref (ad 71)] (wx_pre D ad cI cZ cJ cG σ sz)) (wx_Qi D ad cI cZ cJ cG res (va_A (wx_W ad cI cZ cJ cG σ) sz)) 0 0 (va_A (wx_W ad cI cZ cJ cG σ) sz) := by
  refine wx_ofW (cc := prog_8_method_29_code) (maxL := 3) (ret := (some .boolean)) (Qc := fun A => wx_Qi D ad cI cZ cJ cG res A) [.ref (ad 71)] (by decide) rfl (Nat.le_of_ble_eq_true rfl) ?_
  intro p e s m args below meth c A ls hin hl
  obtain ⟨hx, hb, hr, hts, hown, hlocks, hml, hA, hP, hK, hD, hC, hN, hS⟩ := hin
  have hl : lv_has ls 3 [(0, .ref (ad 71))] := hl
  have J14 : ∀ (k2 : Int32 → wc_S → Option (Int32 × wc_S)) (hk2 : (∀ (x1 : Int32) (σ : wc_S), k2 x1 σ = some res → wx_Arr p l e ({ frames := 5, cells := 0, slots := 0, locals := 118 }) s m args below meth c D ad cI cZ cJ cG A (MQ below (wx_Qi D ad cI cZ cJ cG res A) args s 0 0 A) 3 0 0 2 [(0, .ref (ad 71)), (1, .int x1)] [] σ)) (n : Nat) (x1 : Int32) (x2 : Int32) (σ : wc_S), wf_M_better_14 k2 n x1 x2 σ = some res → wx_Arr p l e ({ frames := 5, cells := 0, slots := 0, locals := 118 }) s m args below meth c D ad cI cZ cJ cG A (MQ below (wx_Qi D ad cI cZ cJ cG res A) args s 0 0 A) 3 0 0 14 [(0, .ref (ad 71)), (1, .int x1), (2, .int x2)] [] σ := by
    intro k2 hk2 n
    induction n with
    | zero => intro x1 x2 σ hf; exact absurd hf (by intro h9; cases h9)
    | succ n hk14 =>
      intro x1 x2 σ hf H locs ls hP hD hS hl
      have hf : wf_M_better_14_b k2 (wf_M_better_14 k2 n) x1 x2 σ = some res := hf
      unfold wf_M_better_14_b at hf
      refine lv_iload_n hx hb wd_M_better_14 rfl (lv_at hl 2 rfl) ?_
      refine lv_aload_n hx hb wd_M_better_15 rfl (lv_at hl 0 rfl) ?_
      refine wx_get (v := .int (σ 71 1)) (C := "WidthCampaignsModel") (T := wx_TM) (N' := 29) hx hb hts wi_M hown hK hP 71 (by decide) rfl rfl 1 (by decide) wt_631 (fun _ h9 => h9) rfl wd_M_better_16 ?_
      refine lv_topi (fun v4 ev4 => ?_)
      have hf := wc_st_e ev4 hf
      refine lv_icmp_ge (tgt := 39) hx hb wd_M_better_19 (by decide) (fun c5 => ?_) (fun c5 => ?_)
      · have hf := wc_t c5 hf
        obtain ⟨v6, ev6⟩ : ∃ y : Int32, y = x1 + 1 := ⟨_, rfl⟩
        have hf := wc_st_e ev6 hf
        refine lv_iinc (v := v6) (lv' := [(1, .int v6), (0, .ref (ad 71)), (2, .int x2)]) hx hb wd_M_better_39 hl (k := 1) rfl (by rw [ev6]; rfl) (by decide) rfl (fun ls hl => ?_)
        refine lv_goto (tgt := 2) hx hb wd_M_better_42 (by decide) ?_
        exact hk2 v6 σ hf _ _ _ hP hD hS (lv_sub hl [1, 0] rfl)
      · have hf := wc_f c5 hf
        refine lv_aload_n hx hb wd_M_better_22 rfl (lv_at hl 0 rfl) ?_
        refine lv_iload_n hx hb wd_M_better_23 rfl (lv_at hl 1 rfl) ?_
        refine lv_iload_n hx hb wd_M_better_24 rfl (lv_at hl 2 rfl) ?_
        obtain ⟨r8, σ7, hq, hf⟩ := wc_b2_e hf
        refine wx_calli (va_runV (As := [.int x1, .int x2]) (rest := []) ⟨hx, hb, hml, hown, hts⟩ (wm_M_swaps l D ad cI cZ cJ cG _ x1 x2 σ _ hq) (wx_cwV 2 hts wt_834 wt_833 wp_43 wt_7 wt_831 wh_M_swaps rfl rfl ⟨Nat.le_of_ble_eq_true rfl, Nat.le_of_ble_eq_true rfl⟩) (wx_preV hK hP hD hS hA hC (by decide) rfl rfl) rfl rfl hl.1 rfl (lv_room (Nat.le_of_ble_eq_true rfl)) wd_M_better_25 ⟨Nat.le_of_ble_eq_true rfl, Nat.le_of_ble_eq_true rfl⟩) hD hS hA (fun H locs hP hD hS => ?_)
        refine lv_if_eq (tgt := 33) hx hb wd_M_better_28 (by decide) (fun c9 => ?_) (fun c9 => ?_)
        · have hf := wc_t c9 hf
          obtain ⟨v10, ev10⟩ : ∃ y : Int32, y = x2 + 1 := ⟨_, rfl⟩
          have hf := wc_st_e ev10 hf
          refine lv_iinc (v := v10) (lv' := [(2, .int v10), (0, .ref (ad 71)), (1, .int x1)]) hx hb wd_M_better_33 hl (k := 2) rfl (by rw [ev10]; rfl) (by decide) rfl (fun ls hl => ?_)
          refine lv_goto (tgt := 14) hx hb wd_M_better_36 (by decide) ?_
          exact hk14 x1 v10 σ7 hf _ _ _ hP hD hS (lv_sub hl [1, 2, 0] rfl)
        · have hf := wc_f c9 hf
          refine lv_iconst (v := 1) hx hb wd_M_better_31 (by decide) ?_
          exact wx_zret hx hb hr narrow_b1 hlocks hf hP hS wd_M_better_32
  have J2 : ∀ (n : Nat) (x1 : Int32) (σ : wc_S), wf_M_better_2 n x1 σ = some res → wx_Arr p l e ({ frames := 5, cells := 0, slots := 0, locals := 118 }) s m args below meth c D ad cI cZ cJ cG A (MQ below (wx_Qi D ad cI cZ cJ cG res A) args s 0 0 A) 3 0 0 2 [(0, .ref (ad 71)), (1, .int x1)] [] σ := by
    intro  n
    induction n with
    | zero => intro x1 σ hf; exact absurd hf (by intro h9; cases h9)
    | succ n hk2 =>
      intro x1 σ hf H locs ls hP hD hS hl
      have hf : wf_M_better_2_b (wf_M_better_2 n) x1 σ = some res := hf
      unfold wf_M_better_2_b at hf
      refine lv_iload_n hx hb wd_M_better_2 rfl (lv_at hl 1 rfl) ?_
      refine lv_aload_n hx hb wd_M_better_3 rfl (lv_at hl 0 rfl) ?_
      refine wx_get (v := .int (σ 71 1)) (C := "WidthCampaignsModel") (T := wx_TM) (N' := 29) hx hb hts wi_M hown hK hP 71 (by decide) rfl rfl 1 (by decide) wt_631 (fun _ h9 => h9) rfl wd_M_better_4 ?_
      refine lv_topi (fun v1 ev1 => ?_)
      have hf := wc_st_e ev1 hf
      refine lv_icmp_ge (tgt := 45) hx hb wd_M_better_7 (by decide) (fun c2 => ?_) (fun c2 => ?_)
      · have hf := wc_t c2 hf
        refine lv_iconst (v := 0) hx hb wd_M_better_45 (by decide) ?_
        exact wx_zret hx hb hr narrow_b0 hlocks hf hP hS wd_M_better_46
      · have hf := wc_f c2 hf
        refine lv_iload_n hx hb wd_M_better_10 rfl (lv_at hl 1 rfl) ?_
        refine lv_iconst (v := 1) hx hb wd_M_better_11 (by decide) ?_
        refine lv_iadd hx hb wd_M_better_12 ?_
        refine lv_topi (fun v3 ev3 => ?_)
        have hf := wc_st_e ev3 hf
        refine lv_istore_n (lv' := [(2, .int v3), (0, .ref (ad 71)), (1, .int x1)]) hx hb wd_M_better_13 rfl hl (by decide) rfl (fun ls hl => ?_)
        exact J14 (wf_M_better_2 n) hk2 16 x1 v3 σ hf _ _ _ hP hD hS (lv_sub hl [1, 2, 0] rfl)
  unfold wf_M_better at hf
  refine lv_iconst (v := 0) hx hb wd_M_better_0 (by decide) ?_
  refine lv_istore_n (lv' := [(1, .int 0), (0, .ref (ad 71))]) hx hb wd_M_better_1 rfl hl (by decide) rfl (fun ls hl => ?_)
  exact J2 16 0 σ hf _ _ _ hP hD hS (lv_sub hl [1, 0] rfl)
set_option maxHeartbeats 4000000 in
set_option maxRecDepth 100000 in
theorem wm_M_improve (l : Launch) (D : va_G) (ad : Nat → Nat) (cI cZ cJ cG : ClassId) (sz : Nat) (a1 : Int32) (σ : wc_S) (res : Int32 × wc_S) (hf : wf_M_improve a1 σ = some res) : Met l wy_M_improve (wx_ws_M_improve) ({ frames := 6, cells := 0, slots := 0, locals := 140 }) (va_Pc [.ref (ad 71), .int a1] (wx_pre D ad cI cZ cJ cG σ sz)) (wx_Qi D ad cI cZ cJ cG res (va_A (wx_W ad cI cZ cJ cG σ) sz)) 0 0 (va_A (wx_W ad cI cZ cJ cG σ) sz) := by
  refine wx_ofW (cc := prog_8_method_30_code) (maxL := 3) (ret := (some .int)) (Qc := fun A => wx_Qi D ad cI cZ cJ cG res A) [.ref (ad 71), .int a1] (by decide) rfl (Nat.le_of_ble_eq_true rfl) ?_
  intro p e s m args below meth c A ls hin hl
  obtain ⟨hx, hb, hr, hts, hown, hlocks, hml, hA, hP, hK, hD, hC, hN, hS⟩ := hin
  have hl : lv_has ls 3 [(0, .ref (ad 71)), (1, .int a1)] := hl
  have J23 : ∀ (n : Nat) (x1 : Int32) (x2 : Int32) (σ : wc_S), wf_M_improve_23 n x1 x2 σ = some res → wx_Arr p l e ({ frames := 6, cells := 0, slots := 0, locals := 140 }) s m args below meth c D ad cI cZ cJ cG A (MQ below (wx_Qi D ad cI cZ cJ cG res A) args s 0 0 A) 3 0 0 23 [(0, .ref (ad 71)), (1, .int x1), (2, .int x2)] [] σ := by
    intro  n
    induction n with
    | zero => intro x1 x2 σ hf; exact absurd hf (by intro h9; cases h9)
    | succ n hk23 =>
      intro x1 x2 σ hf H locs ls hP hD hS hl
      have hf : wf_M_improve_23_b (wf_M_improve_23 n) x1 x2 σ = some res := hf
      unfold wf_M_improve_23_b at hf
      refine lv_iload_n hx hb wd_M_improve_23 rfl (lv_at hl 2 rfl) ?_
      refine lv_iload_n hx hb wd_M_improve_24 rfl (lv_at hl 1 rfl) ?_
      refine lv_icmp_ge (tgt := 41) hx hb wd_M_improve_25 (by decide) (fun c7 => ?_) (fun c7 => ?_)
      · have hf := wc_t c7 hf
        refine lv_iload_n hx hb wd_M_improve_41 rfl (lv_at hl 2 rfl) ?_
        exact wx_iret hx hb hr hlocks hf hP hS wd_M_improve_42
      · have hf := wc_f c7 hf
        refine lv_aload_n hx hb wd_M_improve_28 rfl (lv_at hl 0 rfl) ?_
        obtain ⟨r9, σ8, hq, hf⟩ := wc_b2_e hf
        refine wx_calli (va_runV (As := []) (rest := []) ⟨hx, hb, hml, hown, hts⟩ (wm_M_better l D ad cI cZ cJ cG _ σ _ hq) (wx_cwV 0 hts wt_830 wt_829 wp_42 wt_7 wt_827 wh_M_better rfl rfl ⟨Nat.le_of_ble_eq_true rfl, Nat.le_of_ble_eq_true rfl⟩) (wx_preV hK hP hD hS hA hC (by decide) rfl rfl) rfl rfl hl.1 rfl (lv_room (Nat.le_of_ble_eq_true rfl)) wd_M_improve_29 ⟨Nat.le_of_ble_eq_true rfl, Nat.le_of_ble_eq_true rfl⟩) hD hS hA (fun H locs hP hD hS => ?_)
        refine lv_if_eq (tgt := 41) hx hb wd_M_improve_32 (by decide) (fun c10 => ?_) (fun c10 => ?_)
        · have hf := wc_t c10 hf
          refine lv_iload_n hx hb wd_M_improve_41 rfl (lv_at hl 2 rfl) ?_
          exact wx_iret hx hb hr hlocks hf hP hS wd_M_improve_42
        · have hf := wc_f c10 hf
          obtain ⟨v11, ev11⟩ : ∃ y : Int32, y = x2 + 1 := ⟨_, rfl⟩
          have hf := wc_st_e ev11 hf
          refine lv_iinc (v := v11) (lv' := [(2, .int v11), (0, .ref (ad 71)), (1, .int x1)]) hx hb wd_M_improve_35 hl (k := 2) rfl (by rw [ev11]; rfl) (by decide) rfl (fun ls hl => ?_)
          refine lv_goto (tgt := 23) hx hb wd_M_improve_38 (by decide) ?_
          exact hk23 x1 v11 σ8 hf _ _ _ hP hD hS (lv_sub hl [1, 2, 0] rfl)
  unfold wf_M_improve at hf
  refine lv_aload_n hx hb wd_M_improve_0 rfl (lv_at hl 0 rfl) ?_
  refine lv_aload_n hx hb wd_M_improve_1 rfl (lv_at hl 0 rfl) ?_
  refine wx_get (v := .int (σ 71 22)) (C := "WidthCampaignsModel") (T := wx_TM) (N' := 29) hx hb hts wi_M hown hK hP 71 (by decide) rfl rfl 22 (by decide) wt_652 (fun _ h9 => h9) rfl wd_M_improve_2 ?_
  refine lv_topi (fun v1 ev1 => ?_)
  have hf := wc_st_e ev1 hf
  refine lv_iload_n hx hb wd_M_improve_5 rfl (lv_at hl 1 rfl) ?_
  refine lv_iconst (v := 0) hx hb wd_M_improve_6 (by decide) ?_
  refine lv_bipush (v := 100) hx hb wd_M_improve_7 (by decide) ?_
  obtain ⟨r3, σ2, hq, hf⟩ := wc_b2_e hf
  refine wx_calli (va_runS (As := [.int a1, .int 0, .int 100]) (rest := [.int v1, .ref (ad 71)]) ⟨hx, hb, hml, hown, hts⟩ (wm_M_in l D ad cI cZ cJ cG _ a1 0 100 σ _ hq) (wx_cwS 3 hts wt_728 wt_727 wt_7 wt_726 wh_M_in rfl rfl ⟨Nat.le_of_ble_eq_true rfl, Nat.le_of_ble_eq_true rfl⟩) (wx_preS hK hP hD hS hA hC) rfl rfl hl.1 rfl (lv_room (Nat.le_of_ble_eq_true rfl)) wd_M_improve_9 ⟨Nat.le_of_ble_eq_true rfl, Nat.le_of_ble_eq_true rfl⟩) hD hS hA (fun H locs hP hD hS => ?_)
  refine lv_iconst (v := 1) hx hb wd_M_improve_12 (by decide) ?_
  obtain ⟨r5, σ4, hq, hf⟩ := wc_b2_e hf
  refine wx_calli (va_runV (As := [.int v1, .int r3, .int 1]) (rest := []) ⟨hx, hb, hml, hown, hts⟩ (wm_M_goes l D ad cI cZ cJ cG _ v1 r3 1 σ2 _ hq) (wx_cwV 3 hts wt_732 wt_731 wp_32 wt_7 wt_729 wh_M_goes rfl rfl ⟨Nat.le_of_ble_eq_true rfl, Nat.le_of_ble_eq_true rfl⟩) (wx_preV hK hP hD hS hA hC (by decide) rfl rfl) rfl rfl hl.1 rfl (lv_room (Nat.le_of_ble_eq_true rfl)) wd_M_improve_13 ⟨Nat.le_of_ble_eq_true rfl, Nat.le_of_ble_eq_true rfl⟩) hD hS hA (fun H locs hP hD hS => ?_)
  refine lv_if_ne (tgt := 21) hx hb wd_M_improve_16 (by decide) (fun c6 => ?_) (fun c6 => ?_)
  · have hf := wc_f c6 hf
    refine lv_iconst (v := 0) hx hb wd_M_improve_21 (by decide) ?_
    refine lv_istore_n (lv' := [(2, .int 0), (0, .ref (ad 71)), (1, .int a1)]) hx hb wd_M_improve_22 rfl hl (by decide) rfl (fun ls hl => ?_)
    exact J23 128 a1 0 σ4 hf _ _ _ hP hD hS (lv_sub hl [1, 2, 0] rfl)
  · have hf := wc_t c6 hf
    refine lv_iconst (v := 0) hx hb wd_M_improve_19 (by decide) ?_
    exact wx_iret hx hb hr hlocks hf hP hS wd_M_improve_20
