set_option maxHeartbeats 4000000 in
set_option maxRecDepth 100000 in
theorem wm_M_order (l : Launch) (D : va_G) (ad : Nat → Nat) (cI cZ cJ cG : ClassId) (sz : Nat) (a1 : Int32) (σ : wc_S) (res : Int32 × wc_S) (hf : wf_M_order a1 σ = some res) : Met l wy_M_order (wx_ws_M_order) ({ frames := 1, cells := 0, slots := 0, locals := 22 }) (va_Pc [.ref (ad 71), .int a1] (wx_pre D ad cI cZ cJ cG σ sz)) (wx_Qi D ad cI cZ cJ cG res (va_A (wx_W ad cI cZ cJ cG σ) sz)) 0 0 (va_A (wx_W ad cI cZ cJ cG σ) sz) := by
  refine wx_ofW (cc := prog_8_method_21_code) (maxL := 2) (ret := (some .int)) (Qc := fun A => wx_Qi D ad cI cZ cJ cG res A) [.ref (ad 71), .int a1] (by decide) rfl (Nat.le_of_ble_eq_true rfl) ?_
  intro p e s m args below meth c A ls hin hl
  obtain ⟨hx, hb, hr, hts, hown, hlocks, hml, hA, hP, hK, hD, hC, hN, hS⟩ := hin
  have hl : lv_has ls 2 [(0, .ref (ad 71)), (1, .int a1)] := hl
  have J31 : ∀ (x1 : Int32) (s1 : Int32) (σ : wc_S), wf_M_order_31 x1 s1 σ = some res → wx_Arr p l e ({ frames := 1, cells := 0, slots := 0, locals := 22 }) s m args below meth c D ad cI cZ cJ cG A (MQ below (wx_Qi D ad cI cZ cJ cG res A) args s 0 0 A) 2 0 0 31 [(0, .ref (ad 71)), (1, .int x1)] [.int s1, .ref (ad 71)] σ := by
    intro  x1 s1 σ hf H locs ls hP hD hS hl
    unfold wf_M_order_31 at hf
    refine wx_put (x := s1) (ty := .int) (C := "WidthCampaignsModel") (T := wx_TM) (N' := 29) hx hb hts wi_M wx_tM wx_toM wx_nM hown hK hP hD hS 71 (by decide) (fun _ => rfl) rfl 0 (by decide) wt_630 (fun _ h9 => h9) rfl (by decide +kernel) rfl rfl (Nat.le_of_ble_eq_true rfl) rfl wd_M_order_31 (fun σ8 H locs eσ8 hP hD hS => ?_)
    have hf := wc_st_e eσ8 hf
    refine lv_aload_n hx hb wd_M_order_34 rfl (lv_at hl 0 rfl) ?_
    refine wx_get (v := .int (σ8 71 0)) (C := "WidthCampaignsModel") (T := wx_TM) (N' := 29) hx hb hts wi_M hown hK hP 71 (by decide) rfl rfl 0 (by decide) wt_630 (fun _ h9 => h9) rfl wd_M_order_35 ?_
    refine lv_topi (fun v9 ev9 => ?_)
    have hf := wc_st_e ev9 hf
    refine lv_if_le (tgt := 45) hx hb wd_M_order_38 (by decide) (fun c10 => ?_) (fun c10 => ?_)
    · have hf := wc_t c10 hf
      refine lv_aload_n hx hb wd_M_order_45 rfl (lv_at hl 0 rfl) ?_
      refine wx_get (v := .ref (ad 85)) (C := "WidthCampaignsModel") (T := wx_TM) (N' := 29) hx hb hts wi_M hown hK hP 71 (by decide) rfl rfl 23 (by decide) wt_653 (fun _ h9 => h9) rfl wd_M_order_46 ?_
      refine lv_iload_n hx hb wd_M_order_49 rfl (lv_at hl 1 rfl) ?_
      obtain ⟨h11, hf⟩ := wc_gd_e hf
      refine wx_iald hx hb hK hP 85 (n := 9) (by decide) rfl (wc_in_e h11) wd_M_order_50 ?_
      refine lv_topi (fun v12 ev12 => ?_)
      have hf := wc_st_e ev12 hf
      exact wx_iret hx hb hr hlocks hf hP hS wd_M_order_51
    · have hf := wc_f c10 hf
      refine lv_iconst (v := 0) hx hb wd_M_order_41 (by decide) ?_
      refine lv_goto (tgt := 51) hx hb wd_M_order_42 (by decide) ?_
      exact wx_iret hx hb hr hlocks hf hP hS wd_M_order_51
  unfold wf_M_order at hf
  refine lv_aload_n hx hb wd_M_order_0 rfl (lv_at hl 0 rfl) ?_
  refine lv_aload_n hx hb wd_M_order_1 rfl (lv_at hl 0 rfl) ?_
  refine wx_get (v := .int (σ 71 22)) (C := "WidthCampaignsModel") (T := wx_TM) (N' := 29) hx hb hts wi_M hown hK hP 71 (by decide) rfl rfl 22 (by decide) wt_652 (fun _ h9 => h9) rfl wd_M_order_2 ?_
  refine lv_topi (fun v1 ev1 => ?_)
  have hf := wc_st_e ev1 hf
  refine lv_if_ne (tgt := 12) hx hb wd_M_order_5 (by decide) (fun c2 => ?_) (fun c2 => ?_)
  · have hf := wc_f c2 hf
    refine lv_iload_n hx hb wd_M_order_12 rfl (lv_at hl 1 rfl) ?_
    refine lv_iconst (v := 0) hx hb wd_M_order_13 (by decide) ?_
    refine lv_aload_n hx hb wd_M_order_14 rfl (lv_at hl 0 rfl) ?_
    refine wx_get (v := .int (σ 71 1)) (C := "WidthCampaignsModel") (T := wx_TM) (N' := 29) hx hb hts wi_M hown hK hP 71 (by decide) rfl rfl 1 (by decide) wt_631 (fun _ h9 => h9) rfl wd_M_order_15 ?_
    refine lv_topi (fun v3 ev3 => ?_)
    have hf := wc_st_e ev3 hf
    refine lv_iconst (v := 1) hx hb wd_M_order_18 (by decide) ?_
    refine lv_isub hx hb wd_M_order_19 ?_
    refine lv_topi (fun v4 ev4 => ?_)
    have hf := wc_st_e ev4 hf
    obtain ⟨r6, σ5, hq, hf⟩ := wc_b2_e hf
    refine wx_calli (va_runS (As := [.int a1, .int 0, .int v4]) (rest := [.ref (ad 71)]) ⟨hx, hb, hml, hown, hts⟩ (wm_M_in l D ad cI cZ cJ cG _ a1 0 v4 σ _ hq) (wx_cwS 3 hts wt_728 wt_727 wt_7 wt_726 wh_M_in rfl rfl ⟨Nat.le_of_ble_eq_true rfl, Nat.le_of_ble_eq_true rfl⟩) (wx_preS hK hP hD hS hA hC) rfl rfl hl.1 rfl (lv_room (Nat.le_of_ble_eq_true rfl)) wd_M_order_20 ⟨Nat.le_of_ble_eq_true rfl, Nat.le_of_ble_eq_true rfl⟩) hD hS hA (fun H locs hP hD hS => ?_)
    refine lv_if_ne (tgt := 30) hx hb wd_M_order_23 (by decide) (fun c7 => ?_) (fun c7 => ?_)
    · have hf := wc_f c7 hf
      refine lv_iconst (v := 0) hx hb wd_M_order_30 (by decide) ?_
      exact J31 a1 0 σ5 hf _ _ _ hP hD hS (lv_sub hl [0, 1] rfl)
    · have hf := wc_t c7 hf
      refine lv_iconst (v := 1) hx hb wd_M_order_26 (by decide) ?_
      refine lv_goto (tgt := 31) hx hb wd_M_order_27 (by decide) ?_
      exact J31 a1 1 σ5 hf _ _ _ hP hD hS (lv_sub hl [0, 1] rfl)
  · have hf := wc_t c2 hf
    refine lv_iconst (v := 2) hx hb wd_M_order_8 (by decide) ?_
    refine lv_goto (tgt := 31) hx hb wd_M_order_9 (by decide) ?_
    exact J31 a1 2 σ hf _ _ _ hP hD hS (lv_sub hl [0, 1] rfl)
set_option maxHeartbeats 4000000 in
set_option maxRecDepth 100000 in
theorem wm_M_told (l : Launch) (D : va_G) (ad : Nat → Nat) (cI cZ cJ cG : ClassId) (sz : Nat) (a1 : Int32) (σ : wc_S) (res : Int32 × wc_S) (hf : wf_M_told a1 σ = some res) : Met l wy_M_told (wx_ws_M_told) ({ frames := 3, cells := 0, slots := 0, locals := 72 }) (va_Pc [.ref (ad 71), .int a1] (wx_pre D ad cI cZ cJ cG σ sz)) (wx_Qi D ad cI cZ cJ cG res (va_A (wx_W ad cI cZ cJ cG σ) sz)) 0 0 (va_A (wx_W ad cI cZ cJ cG σ) sz) := by
  refine wx_ofW (cc := prog_8_method_22_code) (maxL := 2) (ret := (some .int)) (Qc := fun A => wx_Qi D ad cI cZ cJ cG res A) [.ref (ad 71), .int a1] (by decide) rfl (Nat.le_of_ble_eq_true rfl) ?_
  intro p e s m args below meth c A ls hin hl
  obtain ⟨hx, hb, hr, hts, hown, hlocks, hml, hA, hP, hK, hD, hC, hN, hS⟩ := hin
  have hl : lv_has ls 2 [(0, .ref (ad 71)), (1, .int a1)] := hl
  unfold wf_M_told at hf
  refine lv_aload_n hx hb wd_M_told_0 rfl (lv_at hl 0 rfl) ?_
  refine lv_iload_n hx hb wd_M_told_1 rfl (lv_at hl 1 rfl) ?_
  refine lv_iconst (v := 0) hx hb wd_M_told_2 (by decide) ?_
  refine lv_iconst (v := 2) hx hb wd_M_told_3 (by decide) ?_
  obtain ⟨r2, σ1, hq, hf⟩ := wc_b2_e hf
  refine wx_calli (va_runS (As := [.int a1, .int 0, .int 2]) (rest := [.ref (ad 71)]) ⟨hx, hb, hml, hown, hts⟩ (wm_M_in l D ad cI cZ cJ cG _ a1 0 2 σ _ hq) (wx_cwS 3 hts wt_728 wt_727 wt_7 wt_726 wh_M_in rfl rfl ⟨Nat.le_of_ble_eq_true rfl, Nat.le_of_ble_eq_true rfl⟩) (wx_preS hK hP hD hS hA hC) rfl rfl hl.1 rfl (lv_room (Nat.le_of_ble_eq_true rfl)) wd_M_told_4 ⟨Nat.le_of_ble_eq_true rfl, Nat.le_of_ble_eq_true rfl⟩) hD hS hA (fun H locs hP hD hS => ?_)
  refine lv_aload_n hx hb wd_M_told_7 rfl (lv_at hl 0 rfl) ?_
  refine wx_get (v := .int (σ1 71 22)) (C := "WidthCampaignsModel") (T := wx_TM) (N' := 29) hx hb hts wi_M hown hK hP 71 (by decide) rfl rfl 22 (by decide) wt_652 (fun _ h9 => h9) rfl wd_M_told_8 ?_
  refine lv_topi (fun v3 ev3 => ?_)
  have hf := wc_st_e ev3 hf
  refine lv_iconst (v := 1) hx hb wd_M_told_11 (by decide) ?_
  obtain ⟨r5, σ4, hq, hf⟩ := wc_b2_e hf
  refine wx_calli (va_runV (As := [.int r2, .int v3, .int 1]) (rest := []) ⟨hx, hb, hml, hown, hts⟩ (wm_M_goes l D ad cI cZ cJ cG _ r2 v3 1 σ1 _ hq) (wx_cwV 3 hts wt_732 wt_731 wp_32 wt_7 wt_729 wh_M_goes rfl rfl ⟨Nat.le_of_ble_eq_true rfl, Nat.le_of_ble_eq_true rfl⟩) (wx_preV hK hP hD hS hA hC (by decide) rfl rfl) rfl rfl hl.1 rfl (lv_room (Nat.le_of_ble_eq_true rfl)) wd_M_told_12 ⟨Nat.le_of_ble_eq_true rfl, Nat.le_of_ble_eq_true rfl⟩) hD hS hA (fun H locs hP hD hS => ?_)
  refine lv_if_ne (tgt := 20) hx hb wd_M_told_15 (by decide) (fun c6 => ?_) (fun c6 => ?_)
  · have hf := wc_f c6 hf
    refine lv_aload_n hx hb wd_M_told_20 rfl (lv_at hl 0 rfl) ?_
    refine lv_aload_n hx hb wd_M_told_21 rfl (lv_at hl 0 rfl) ?_
    refine wx_get (v := .ref (ad 85)) (C := "WidthCampaignsModel") (T := wx_TM) (N' := 29) hx hb hts wi_M hown hK hP 71 (by decide) rfl rfl 23 (by decide) wt_653 (fun _ h9 => h9) rfl wd_M_told_22 ?_
    refine lv_aload_n hx hb wd_M_told_25 rfl (lv_at hl 0 rfl) ?_
    refine wx_get (v := .int (σ4 71 1)) (C := "WidthCampaignsModel") (T := wx_TM) (N' := 29) hx hb hts wi_M hown hK hP 71 (by decide) rfl rfl 1 (by decide) wt_631 (fun _ h9 => h9) rfl wd_M_told_26 ?_
    refine lv_topi (fun v7 ev7 => ?_)
    have hf := wc_st_e ev7 hf
    obtain ⟨σ8, hq, hf⟩ := wc_b1_e hf
    refine wx_callv (va_runV (As := [.ref (ad 85), .int v7]) (rest := []) ⟨hx, hb, hml, hown, hts⟩ (wm_M_reckon l D ad cI cZ cJ cG _ 85 (Or.inl rfl) v7 σ4 _ hq) (wx_cwV 2 hts wt_785 wt_784 wp_39 wt_7 wt_782 wh_M_reckon rfl rfl ⟨Nat.le_of_ble_eq_true rfl, Nat.le_of_ble_eq_true rfl⟩) (wx_preV hK hP hD hS hA hC (by decide) rfl rfl) rfl rfl hl.1 rfl (lv_room (Nat.le_of_ble_eq_true rfl)) wd_M_told_29 ⟨Nat.le_of_ble_eq_true rfl, Nat.le_of_ble_eq_true rfl⟩) hD hS hA (fun H locs hP hD hS => ?_)
    refine lv_iload_n hx hb wd_M_told_32 rfl (lv_at hl 1 rfl) ?_
    refine lv_if_ne (tgt := 43) hx hb wd_M_told_33 (by decide) (fun c9 => ?_) (fun c9 => ?_)
    · have hf := wc_f c9 hf
      refine lv_iload_n hx hb wd_M_told_43 rfl (lv_at hl 1 rfl) ?_
      refine lv_iconst (v := 1) hx hb wd_M_told_44 (by decide) ?_
      refine lv_icmp_ne (tgt := 55) hx hb wd_M_told_45 (by decide) (fun c10 => ?_) (fun c10 => ?_)
      · have hf := wc_f c10 hf
        refine lv_aload_n hx hb wd_M_told_55 rfl (lv_at hl 0 rfl) ?_
        refine wx_get (v := .int (σ8 71 27)) (C := "WidthCampaignsModel") (T := wx_TM) (N' := 29) hx hb hts wi_M hown hK hP 71 (by decide) rfl rfl 27 (by decide) wt_657 (fun _ h9 => h9) rfl wd_M_told_56 ?_
        refine lv_topi (fun v11 ev11 => ?_)
        have hf := wc_st_e ev11 hf
        exact wx_iret hx hb hr hlocks hf hP hS wd_M_told_59
      · have hf := wc_t c10 hf
        refine lv_aload_n hx hb wd_M_told_48 rfl (lv_at hl 0 rfl) ?_
        refine wx_get (v := .int (σ8 71 26)) (C := "WidthCampaignsModel") (T := wx_TM) (N' := 29) hx hb hts wi_M hown hK hP 71 (by decide) rfl rfl 26 (by decide) wt_656 (fun _ h9 => h9) rfl wd_M_told_49 ?_
        refine lv_topi (fun v12 ev12 => ?_)
        have hf := wc_st_e ev12 hf
        refine lv_goto (tgt := 59) hx hb wd_M_told_52 (by decide) ?_
        exact wx_iret hx hb hr hlocks hf hP hS wd_M_told_59
    · have hf := wc_t c9 hf
      refine lv_aload_n hx hb wd_M_told_36 rfl (lv_at hl 0 rfl) ?_
      refine wx_get (v := .int (σ8 71 25)) (C := "WidthCampaignsModel") (T := wx_TM) (N' := 29) hx hb hts wi_M hown hK hP 71 (by decide) rfl rfl 25 (by decide) wt_655 (fun _ h9 => h9) rfl wd_M_told_37 ?_
      refine lv_topi (fun v13 ev13 => ?_)
      have hf := wc_st_e ev13 hf
      refine lv_goto (tgt := 59) hx hb wd_M_told_40 (by decide) ?_
      exact wx_iret hx hb hr hlocks hf hP hS wd_M_told_59
  · have hf := wc_t c6 hf
    refine lv_iconst (v := 0) hx hb wd_M_told_18 (by decide) ?_
    exact wx_iret hx hb hr hlocks hf hP hS wd_M_told_19
set_option maxHeartbeats 4000000 in
set_option maxRecDepth 100000 in
theorem wm_M_change (l : Launch) (D : va_G) (ad : Nat → Nat) (cI cZ cJ cG : ClassId) (sz : Nat) (a1 : Int32) (σ : wc_S) (res : Int32 × wc_S) (hf : wf_M_change a1 σ = some res) : Met l wy_M_change (wx_ws_M_change) ({ frames := 3, cells := 0, slots := 0, locals := 72 }) (va_Pc [.ref (ad 71), .int a1] (wx_pre D ad cI cZ cJ cG σ sz)) (wx_Qi D ad cI cZ cJ cG res (va_A (wx_W ad cI cZ cJ cG σ) sz)) 0 0 (va_A (wx_W ad cI cZ cJ cG σ) sz) := by
  refine wx_ofW (cc := prog_8_method_23_code) (maxL := 2) (ret := (some .boolean)) (Qc := fun A => wx_Qi D ad cI cZ cJ cG res A) [.ref (ad 71), .int a1] (by decide) rfl (Nat.le_of_ble_eq_true rfl) ?_
  intro p e s m args below meth c A ls hin hl
  obtain ⟨hx, hb, hr, hts, hown, hlocks, hml, hA, hP, hK, hD, hC, hN, hS⟩ := hin
  have hl : lv_has ls 2 [(0, .ref (ad 71)), (1, .int a1)] := hl
  have J31 : ∀ (x1 : Int32) (s1 : Int32) (σ : wc_S), wf_M_change_31 x1 s1 σ = some res → wx_Arr p l e ({ frames := 3, cells := 0, slots := 0, locals := 72 }) s m args below meth c D ad cI cZ cJ cG A (MQ below (wx_Qi D ad cI cZ cJ cG res A) args s 0 0 A) 2 0 0 31 [(0, .ref (ad 71)), (1, .int x1)] [.int s1, .ref (ad 71)] σ := by
    intro  x1 s1 σ hf H locs ls hP hD hS hl
    unfold wf_M_change_31 at hf
    refine wx_put (x := s1) (ty := .int) (C := "WidthCampaignsModel") (T := wx_TM) (N' := 29) hx hb hts wi_M wx_tM wx_toM wx_nM hown hK hP hD hS 71 (by decide) (fun _ => rfl) rfl 0 (by decide) wt_630 (fun _ h9 => h9) rfl (by decide +kernel) rfl rfl (Nat.le_of_ble_eq_true rfl) rfl wd_M_change_31 (fun σ8 H locs eσ8 hP hD hS => ?_)
    have hf := wc_st_e eσ8 hf
    refine lv_aload_n hx hb wd_M_change_34 rfl (lv_at hl 0 rfl) ?_
    refine wx_get (v := .int (σ8 71 0)) (C := "WidthCampaignsModel") (T := wx_TM) (N' := 29) hx hb hts wi_M hown hK hP 71 (by decide) rfl rfl 0 (by decide) wt_630 (fun _ h9 => h9) rfl wd_M_change_35 ?_
    refine lv_topi (fun v9 ev9 => ?_)
    have hf := wc_st_e ev9 hf
    refine lv_if_le (tgt := 43) hx hb wd_M_change_38 (by decide) (fun c10 => ?_) (fun c10 => ?_)
    · have hf := wc_t c10 hf
      refine lv_aload_n hx hb wd_M_change_43 rfl (lv_at hl 0 rfl) ?_
      refine lv_aload_n hx hb wd_M_change_44 rfl (lv_at hl 0 rfl) ?_
      refine wx_get (v := .ref (ad 85)) (C := "WidthCampaignsModel") (T := wx_TM) (N' := 29) hx hb hts wi_M hown hK hP 71 (by decide) rfl rfl 23 (by decide) wt_653 (fun _ h9 => h9) rfl wd_M_change_45 ?_
      refine lv_aload_n hx hb wd_M_change_48 rfl (lv_at hl 0 rfl) ?_
      refine wx_get (v := .int (σ8 71 1)) (C := "WidthCampaignsModel") (T := wx_TM) (N' := 29) hx hb hts wi_M hown hK hP 71 (by decide) rfl rfl 1 (by decide) wt_631 (fun _ h9 => h9) rfl wd_M_change_49 ?_
      refine lv_topi (fun v11 ev11 => ?_)
      have hf := wc_st_e ev11 hf
      obtain ⟨σ12, hq, hf⟩ := wc_b1_e hf
      refine wx_callv (va_runV (As := [.ref (ad 85), .int v11]) (rest := []) ⟨hx, hb, hml, hown, hts⟩ (wm_M_reckon l D ad cI cZ cJ cG _ 85 (Or.inl rfl) v11 σ8 _ hq) (wx_cwV 2 hts wt_785 wt_784 wp_39 wt_7 wt_782 wh_M_reckon rfl rfl ⟨Nat.le_of_ble_eq_true rfl, Nat.le_of_ble_eq_true rfl⟩) (wx_preV hK hP hD hS hA hC (by decide) rfl rfl) rfl rfl hl.1 rfl (lv_room (Nat.le_of_ble_eq_true rfl)) wd_M_change_52 ⟨Nat.le_of_ble_eq_true rfl, Nat.le_of_ble_eq_true rfl⟩) hD hS hA (fun H locs hP hD hS => ?_)
      refine lv_aload_n hx hb wd_M_change_55 rfl (lv_at hl 0 rfl) ?_
      refine wx_get (v := .ref (ad 87)) (C := "WidthCampaignsModel") (T := wx_TM) (N' := 29) hx hb hts wi_M hown hK hP 71 (by decide) rfl rfl 28 (by decide) wt_658 (fun _ h9 => h9) rfl wd_M_change_56 ?_
      refine lv_iload_n hx hb wd_M_change_59 rfl (lv_at hl 1 rfl) ?_
      obtain ⟨h13, hf⟩ := wc_gd_e hf
      refine wx_zald hx hb hK hP 87 (n := 9) (by decide) rfl (wc_in_e h13) wd_M_change_60 ?_
      refine lv_topi (fun v14 ev14 => ?_)
      have hf := wc_st_e ev14 hf
      obtain ⟨h15, hf⟩ := wc_gd_e hf
      exact wx_zret hx hb hr (wc_z_e h15) hlocks hf hP hS wd_M_change_61
    · have hf := wc_f c10 hf
      refine lv_iconst (v := 0) hx hb wd_M_change_41 (by decide) ?_
      exact wx_zret hx hb hr narrow_b0 hlocks hf hP hS wd_M_change_42
  unfold wf_M_change at hf
  refine lv_aload_n hx hb wd_M_change_0 rfl (lv_at hl 0 rfl) ?_
  refine lv_aload_n hx hb wd_M_change_1 rfl (lv_at hl 0 rfl) ?_
  refine wx_get (v := .int (σ 71 22)) (C := "WidthCampaignsModel") (T := wx_TM) (N' := 29) hx hb hts wi_M hown hK hP 71 (by decide) rfl rfl 22 (by decide) wt_652 (fun _ h9 => h9) rfl wd_M_change_2 ?_
  refine lv_topi (fun v1 ev1 => ?_)
  have hf := wc_st_e ev1 hf
  refine lv_if_ne (tgt := 12) hx hb wd_M_change_5 (by decide) (fun c2 => ?_) (fun c2 => ?_)
  · have hf := wc_f c2 hf
    refine lv_iload_n hx hb wd_M_change_12 rfl (lv_at hl 1 rfl) ?_
    refine lv_iconst (v := 0) hx hb wd_M_change_13 (by decide) ?_
    refine lv_aload_n hx hb wd_M_change_14 rfl (lv_at hl 0 rfl) ?_
    refine wx_get (v := .int (σ 71 1)) (C := "WidthCampaignsModel") (T := wx_TM) (N' := 29) hx hb hts wi_M hown hK hP 71 (by decide) rfl rfl 1 (by decide) wt_631 (fun _ h9 => h9) rfl wd_M_change_15 ?_
    refine lv_topi (fun v3 ev3 => ?_)
    have hf := wc_st_e ev3 hf
    refine lv_iconst (v := 1) hx hb wd_M_change_18 (by decide) ?_
    refine lv_isub hx hb wd_M_change_19 ?_
    refine lv_topi (fun v4 ev4 => ?_)
    have hf := wc_st_e ev4 hf
    obtain ⟨r6, σ5, hq, hf⟩ := wc_b2_e hf
    refine wx_calli (va_runS (As := [.int a1, .int 0, .int v4]) (rest := [.ref (ad 71)]) ⟨hx, hb, hml, hown, hts⟩ (wm_M_in l D ad cI cZ cJ cG _ a1 0 v4 σ _ hq) (wx_cwS 3 hts wt_728 wt_727 wt_7 wt_726 wh_M_in rfl rfl ⟨Nat.le_of_ble_eq_true rfl, Nat.le_of_ble_eq_true rfl⟩) (wx_preS hK hP hD hS hA hC) rfl rfl hl.1 rfl (lv_room (Nat.le_of_ble_eq_true rfl)) wd_M_change_20 ⟨Nat.le_of_ble_eq_true rfl, Nat.le_of_ble_eq_true rfl⟩) hD hS hA (fun H locs hP hD hS => ?_)
    refine lv_if_ne (tgt := 30) hx hb wd_M_change_23 (by decide) (fun c7 => ?_) (fun c7 => ?_)
    · have hf := wc_f c7 hf
      refine lv_iconst (v := 0) hx hb wd_M_change_30 (by decide) ?_
      exact J31 a1 0 σ5 hf _ _ _ hP hD hS (lv_sub hl [0, 1] rfl)
    · have hf := wc_t c7 hf
      refine lv_iconst (v := 1) hx hb wd_M_change_26 (by decide) ?_
      refine lv_goto (tgt := 31) hx hb wd_M_change_27 (by decide) ?_
      exact J31 a1 1 σ5 hf _ _ _ hP hD hS (lv_sub hl [0, 1] rfl)
  · have hf := wc_t c2 hf
    refine lv_iconst (v := 2) hx hb wd_M_change_8 (by decide) ?_
    refine lv_goto (tgt := 31) hx hb wd_M_change_9 (by decide) ?_
    exact J31 a1 2 σ hf _ _ _ hP hD hS (lv_sub hl [0, 1] rfl)
set_option maxHeartbeats 4000000 in
set_option maxRecDepth 100000 in
theorem wm_M_jump (l : Launch) (D : va_G) (ad : Nat → Nat) (cI cZ cJ cG : ClassId) (sz : Nat) (a1 : Int32) (a2 : Int32) (σ : wc_S) (res : Int32 × wc_S) (hf : wf_M_jump a1 a2 σ = some res) : Met l wy_M_jump (wx_ws_M_jump) ({ frames := 2, cells := 0, slots := 0, locals := 48 }) (va_Pc [.ref (ad 71), .int a1, .int a2] (wx_pre D ad cI cZ cJ cG σ sz)) (wx_Qi D ad cI cZ cJ cG res (va_A (wx_W ad cI cZ cJ cG σ) sz)) 0 0 (va_A (wx_W ad cI cZ cJ cG σ) sz) := by
  refine wx_ofW (cc := prog_8_method_24_code) (maxL := 3) (ret := (some .int)) (Qc := fun A => wx_Qi D ad cI cZ cJ cG res A) [.ref (ad 71), .int a1, .int a2] (by decide) rfl (Nat.le_of_ble_eq_true rfl) ?_
  intro p e s m args below meth c A ls hin hl
  obtain ⟨hx, hb, hr, hts, hown, hlocks, hml, hA, hP, hK, hD, hC, hN, hS⟩ := hin
  have hl : lv_has ls 3 [(0, .ref (ad 71)), (1, .int a1), (2, .int a2)] := hl
  have J27 : ∀ (x1 : Int32) (x2 : Int32) (s1 : Int32) (σ : wc_S), wf_M_jump_27 x1 x2 s1 σ = some res → wx_Arr p l e ({ frames := 2, cells := 0, slots := 0, locals := 48 }) s m args below meth c D ad cI cZ cJ cG A (MQ below (wx_Qi D ad cI cZ cJ cG res A) args s 0 0 A) 3 0 0 27 [(0, .ref (ad 71)), (1, .int x1), (2, .int x2)] [.int s1, .ref (ad 71)] σ := by
    intro  x1 x2 s1 σ hf H locs ls hP hD hS hl
    unfold wf_M_jump_27 at hf
    refine lv_iconst (v := 1) hx hb wd_M_jump_27 (by decide) ?_
    refine lv_iconst (v := 1) hx hb wd_M_jump_28 (by decide) ?_
    obtain ⟨r5, σ4, hq, hf⟩ := wc_b2_e hf
    refine wx_calli (va_runV (As := [.int s1, .int 1, .int 1]) (rest := []) ⟨hx, hb, hml, hown, hts⟩ (wm_M_goes l D ad cI cZ cJ cG _ s1 1 1 σ _ hq) (wx_cwV 3 hts wt_732 wt_731 wp_32 wt_7 wt_729 wh_M_goes rfl rfl ⟨Nat.le_of_ble_eq_true rfl, Nat.le_of_ble_eq_true rfl⟩) (wx_preV hK hP hD hS hA hC (by decide) rfl rfl) rfl rfl hl.1 rfl (lv_room (Nat.le_of_ble_eq_true rfl)) wd_M_jump_29 ⟨Nat.le_of_ble_eq_true rfl, Nat.le_of_ble_eq_true rfl⟩) hD hS hA (fun H locs hP hD hS => ?_)
    refine lv_if_ne (tgt := 37) hx hb wd_M_jump_32 (by decide) (fun c6 => ?_) (fun c6 => ?_)
    · have hf := wc_f c6 hf
      refine lv_aload_n hx hb wd_M_jump_37 rfl (lv_at hl 0 rfl) ?_
      refine lv_iload_n hx hb wd_M_jump_38 rfl (lv_at hl 1 rfl) ?_
      refine lv_iload_n hx hb wd_M_jump_39 rfl (lv_at hl 2 rfl) ?_
      obtain ⟨r8, σ7, hq, hf⟩ := wc_b2_e hf
      refine wx_calli (va_runV (As := [.int x1, .int x2]) (rest := []) ⟨hx, hb, hml, hown, hts⟩ (wm_M_jumpOf l D ad cI cZ cJ cG _ x1 x2 σ4 _ hq) (wx_cwV 2 hts wt_777 wt_776 wp_37 wt_7 wt_774 wh_M_jumpOf rfl rfl ⟨Nat.le_of_ble_eq_true rfl, Nat.le_of_ble_eq_true rfl⟩) (wx_preV hK hP hD hS hA hC (by decide) rfl rfl) rfl rfl hl.1 rfl (lv_room (Nat.le_of_ble_eq_true rfl)) wd_M_jump_40 ⟨Nat.le_of_ble_eq_true rfl, Nat.le_of_ble_eq_true rfl⟩) hD hS hA (fun H locs hP hD hS => ?_)
      exact wx_iret hx hb hr hlocks hf hP hS wd_M_jump_43
    · have hf := wc_t c6 hf
      refine lv_iconst (v := 0) hx hb wd_M_jump_35 (by decide) ?_
      exact wx_iret hx hb hr hlocks hf hP hS wd_M_jump_36
  have J26 : ∀ (x1 : Int32) (x2 : Int32) (σ : wc_S), wf_M_jump_26 x1 x2 σ = some res → wx_Arr p l e ({ frames := 2, cells := 0, slots := 0, locals := 48 }) s m args below meth c D ad cI cZ cJ cG A (MQ below (wx_Qi D ad cI cZ cJ cG res A) args s 0 0 A) 3 0 0 26 [(0, .ref (ad 71)), (1, .int x1), (2, .int x2)] [.ref (ad 71)] σ := by
    intro  x1 x2 σ hf H locs ls hP hD hS hl
    unfold wf_M_jump_26 at hf
    refine lv_iconst (v := 0) hx hb wd_M_jump_26 (by decide) ?_
    exact J27 x1 x2 0 σ hf _ _ _ hP hD hS (lv_sub hl [0, 1, 2] rfl)
  unfold wf_M_jump at hf
  refine lv_aload_n hx hb wd_M_jump_0 rfl (lv_at hl 0 rfl) ?_
  refine lv_aload_n hx hb wd_M_jump_1 rfl (lv_at hl 0 rfl) ?_
  refine lv_iload_n hx hb wd_M_jump_2 rfl (lv_at hl 1 rfl) ?_
  obtain ⟨r2, σ1, hq, hf⟩ := wc_b2_e hf
  refine wx_calli (va_runV (As := [.int a1]) (rest := [.ref (ad 71)]) ⟨hx, hb, hml, hown, hts⟩ (wm_M_isCoil l D ad cI cZ cJ cG _ a1 σ _ hq) (wx_cwV 1 hts wt_752 wt_751 wp_34 wt_7 wt_749 wh_M_isCoil rfl rfl ⟨Nat.le_of_ble_eq_true rfl, Nat.le_of_ble_eq_true rfl⟩) (wx_preV hK hP hD hS hA hC (by decide) rfl rfl) rfl rfl hl.1 rfl (lv_room (Nat.le_of_ble_eq_true rfl)) wd_M_jump_3 ⟨Nat.le_of_ble_eq_true rfl, Nat.le_of_ble_eq_true rfl⟩) hD hS hA (fun H locs hP hD hS => ?_)
  refine lv_if_eq (tgt := 26) hx hb wd_M_jump_6 (by decide) (fun c3 => ?_) (fun c3 => ?_)
  · have hf := wc_t c3 hf
    exact J26 a1 a2 σ1 hf _ _ _ hP hD hS (lv_sub hl [0, 1, 2] rfl)
  · have hf := wc_f c3 hf
    refine lv_aload_n hx hb wd_M_jump_9 rfl (lv_at hl 0 rfl) ?_
    refine lv_iload_n hx hb wd_M_jump_10 rfl (lv_at hl 2 rfl) ?_
    obtain ⟨r10, σ9, hq, hf⟩ := wc_b2_e hf
    refine wx_calli (va_runV (As := [.int a2]) (rest := [.ref (ad 71)]) ⟨hx, hb, hml, hown, hts⟩ (wm_M_isCoil l D ad cI cZ cJ cG _ a2 σ1 _ hq) (wx_cwV 1 hts wt_752 wt_751 wp_34 wt_7 wt_749 wh_M_isCoil rfl rfl ⟨Nat.le_of_ble_eq_true rfl, Nat.le_of_ble_eq_true rfl⟩) (wx_preV hK hP hD hS hA hC (by decide) rfl rfl) rfl rfl hl.1 rfl (lv_room (Nat.le_of_ble_eq_true rfl)) wd_M_jump_11 ⟨Nat.le_of_ble_eq_true rfl, Nat.le_of_ble_eq_true rfl⟩) hD hS hA (fun H locs hP hD hS => ?_)
    refine lv_if_eq (tgt := 26) hx hb wd_M_jump_14 (by decide) (fun c11 => ?_) (fun c11 => ?_)
    · have hf := wc_t c11 hf
      exact J26 a1 a2 σ9 hf _ _ _ hP hD hS (lv_sub hl [0, 1, 2] rfl)
    · have hf := wc_f c11 hf
      refine lv_iload_n hx hb wd_M_jump_17 rfl (lv_at hl 1 rfl) ?_
      refine lv_iload_n hx hb wd_M_jump_18 rfl (lv_at hl 2 rfl) ?_
      refine lv_icmp_eq (tgt := 26) hx hb wd_M_jump_19 (by decide) (fun c12 => ?_) (fun c12 => ?_)
      · have hf := wc_t c12 hf
        exact J26 a1 a2 σ9 hf _ _ _ hP hD hS (lv_sub hl [0, 1, 2] rfl)
      · have hf := wc_f c12 hf
        refine lv_iconst (v := 1) hx hb wd_M_jump_22 (by decide) ?_
        refine lv_goto (tgt := 27) hx hb wd_M_jump_23 (by decide) ?_
        exact J27 a1 a2 1 σ9 hf _ _ _ hP hD hS (lv_sub hl [0, 1, 2] rfl)
set_option maxHeartbeats 4000000 in
set_option maxRecDepth 100000 in
theorem wm_M_bound (l : Launch) (D : va_G) (ad : Nat → Nat) (cI cZ cJ cG : ClassId) (sz : Nat) (σ : wc_S) (res : Int32 × wc_S) (hf : wf_M_bound  σ = some res) : Met l wy_M_bound (wx_ws_M_bound) ({ frames := 2, cells := 0, slots := 0, locals := 48 }) (va_Pc [.ref (ad 71)] (wx_pre D ad cI cZ cJ cG σ sz)) (wx_Qi D ad cI cZ cJ cG res (va_A (wx_W ad cI cZ cJ cG σ) sz)) 0 0 (va_A (wx_W ad cI cZ cJ cG σ) sz) := by
  refine wx_ofW (cc := prog_8_method_25_code) (maxL := 7) (ret := (some .int)) (Qc := fun A => wx_Qi D ad cI cZ cJ cG res A) [.ref (ad 71)] (by decide) rfl (Nat.le_of_ble_eq_true rfl) ?_
  intro p e s m args below meth c A ls hin hl
  obtain ⟨hx, hb, hr, hts, hown, hlocks, hml, hA, hP, hK, hD, hC, hN, hS⟩ := hin
  have hl : lv_has ls 7 [(0, .ref (ad 71))] := hl
  have J101 : ∀ (k11 : Int32 → Int32 → Int32 → wc_S → Option (Int32 × wc_S)) (hk11 : (∀ (x1 : Int32) (x2 : Int32) (x3 : Int32) (σ : wc_S), k11 x1 x2 x3 σ = some res → wx_Arr p l e ({ frames := 2, cells := 0, slots := 0, locals := 48 }) s m args below meth c D ad cI cZ cJ cG A (MQ below (wx_Qi D ad cI cZ cJ cG res A) args s 0 0 A) 7 0 0 11 [(0, .ref (ad 71)), (1, .int x1), (2, .int x2), (3, .int x3)] [] σ)) (x1 : Int32) (x2 : Int32) (x3 : Int32) (σ : wc_S), wf_M_bound_101 k11 x1 x2 x3 σ = some res → wx_Arr p l e ({ frames := 2, cells := 0, slots := 0, locals := 48 }) s m args below meth c D ad cI cZ cJ cG A (MQ below (wx_Qi D ad cI cZ cJ cG res A) args s 0 0 A) 7 0 0 101 [(0, .ref (ad 71)), (1, .int x1), (2, .int x2), (3, .int x3)] [] σ := by
    intro k11 hk11 x1 x2 x3 σ hf H locs ls hP hD hS hl
    unfold wf_M_bound_101 at hf
    obtain ⟨v10, ev10⟩ : ∃ y : Int32, y = x3 + 1 := ⟨_, rfl⟩
    have hf := wc_st_e ev10 hf
    refine lv_iinc (v := v10) (lv' := [(3, .int v10), (0, .ref (ad 71)), (1, .int x1), (2, .int x2)]) hx hb wd_M_bound_101 hl (k := 3) rfl (by rw [ev10]; rfl) (by decide) rfl (fun ls hl => ?_)
    refine lv_goto (tgt := 11) hx hb wd_M_bound_104 (by decide) ?_
    exact hk11 x1 x2 v10 σ hf _ _ _ hP hD hS (lv_sub hl [1, 2, 3, 0] rfl)
  have J87 : ∀ (k11 : Int32 → Int32 → Int32 → wc_S → Option (Int32 × wc_S)) (hk11 : (∀ (x1 : Int32) (x2 : Int32) (x3 : Int32) (σ : wc_S), k11 x1 x2 x3 σ = some res → wx_Arr p l e ({ frames := 2, cells := 0, slots := 0, locals := 48 }) s m args below meth c D ad cI cZ cJ cG A (MQ below (wx_Qi D ad cI cZ cJ cG res A) args s 0 0 A) 7 0 0 11 [(0, .ref (ad 71)), (1, .int x1), (2, .int x2), (3, .int x3)] [] σ)) (x1 : Int32) (x2 : Int32) (x3 : Int32) (x4 : Int32) (σ : wc_S), wf_M_bound_87 k11 x1 x2 x3 x4 σ = some res → wx_Arr p l e ({ frames := 2, cells := 0, slots := 0, locals := 48 }) s m args below meth c D ad cI cZ cJ cG A (MQ below (wx_Qi D ad cI cZ cJ cG res A) args s 0 0 A) 7 0 0 87 [(0, .ref (ad 71)), (1, .int x1), (2, .int x2), (3, .int x3), (4, .int x4)] [] σ := by
    intro k11 hk11 x1 x2 x3 x4 σ hf H locs ls hP hD hS hl
    unfold wf_M_bound_87 at hf
    refine lv_iload_n hx hb wd_M_bound_87 rfl (lv_at hl 1 rfl) ?_
    refine lv_iload hx hb wd_M_bound_88 (lv_at hl 4 rfl) ?_
    refine lv_iadd hx hb wd_M_bound_90 ?_
    refine lv_topi (fun v8 ev8 => ?_)
    have hf := wc_st_e ev8 hf
    refine lv_istore_n (lv' := [(1, .int v8), (0, .ref (ad 71)), (2, .int x2), (3, .int x3), (4, .int x4)]) hx hb wd_M_bound_91 rfl hl (by decide) rfl (fun ls hl => ?_)
    refine lv_iload hx hb wd_M_bound_92 (lv_at hl 4 rfl) ?_
    refine lv_iload_n hx hb wd_M_bound_94 rfl (lv_at hl 2 rfl) ?_
    refine lv_icmp_le (tgt := 101) hx hb wd_M_bound_95 (by decide) (fun c9 => ?_) (fun c9 => ?_)
    · have hf := wc_t c9 hf
      exact J101 k11 hk11 v8 x2 x3 σ hf _ _ _ hP hD hS (lv_sub hl [1, 0, 2, 3] rfl)
    · have hf := wc_f c9 hf
      refine lv_iload hx hb wd_M_bound_98 (lv_at hl 4 rfl) ?_
      refine lv_istore_n (lv' := [(2, .int x4), (1, .int v8), (0, .ref (ad 71)), (3, .int x3), (4, .int x4)]) hx hb wd_M_bound_100 rfl hl (by decide) rfl (fun ls hl => ?_)
      exact J101 k11 hk11 v8 x4 x3 σ hf _ _ _ hP hD hS (lv_sub hl [2, 1, 0, 3] rfl)
  have J73 : ∀ (k11 : Int32 → Int32 → Int32 → wc_S → Option (Int32 × wc_S)) (hk11 : (∀ (x1 : Int32) (x2 : Int32) (x3 : Int32) (σ : wc_S), k11 x1 x2 x3 σ = some res → wx_Arr p l e ({ frames := 2, cells := 0, slots := 0, locals := 48 }) s m args below meth c D ad cI cZ cJ cG A (MQ below (wx_Qi D ad cI cZ cJ cG res A) args s 0 0 A) 7 0 0 11 [(0, .ref (ad 71)), (1, .int x1), (2, .int x2), (3, .int x3)] [] σ)) (k25 : Int32 → Int32 → Int32 → Int32 → Int32 → wc_S → Option (Int32 × wc_S)) (hk25 : (∀ (x1 : Int32) (x2 : Int32) (x3 : Int32) (x4 : Int32) (x5 : Int32) (σ : wc_S), k25 x1 x2 x3 x4 x5 σ = some res → wx_Arr p l e ({ frames := 2, cells := 0, slots := 0, locals := 48 }) s m args below meth c D ad cI cZ cJ cG A (MQ below (wx_Qi D ad cI cZ cJ cG res A) args s 0 0 A) 7 0 0 25 [(0, .ref (ad 71)), (1, .int x1), (2, .int x2), (3, .int x3), (4, .int x4), (5, .int x5)] [] σ)) (x1 : Int32) (x2 : Int32) (x3 : Int32) (x4 : Int32) (x5 : Int32) (σ : wc_S), wf_M_bound_73 k11 k25 x1 x2 x3 x4 x5 σ = some res → wx_Arr p l e ({ frames := 2, cells := 0, slots := 0, locals := 48 }) s m args below meth c D ad cI cZ cJ cG A (MQ below (wx_Qi D ad cI cZ cJ cG res A) args s 0 0 A) 7 0 0 73 [(0, .ref (ad 71)), (1, .int x1), (2, .int x2), (3, .int x3), (4, .int x4), (5, .int x5)] [] σ := by
    intro k11 hk11 k25 hk25 x1 x2 x3 x4 x5 σ hf H locs ls hP hD hS hl
    unfold wf_M_bound_73 at hf
    obtain ⟨v15, ev15⟩ : ∃ y : Int32, y = x5 + 1 := ⟨_, rfl⟩
    have hf := wc_st_e ev15 hf
    refine lv_iinc (v := v15) (lv' := [(5, .int v15), (0, .ref (ad 71)), (1, .int x1), (2, .int x2), (3, .int x3), (4, .int x4)]) hx hb wd_M_bound_73 hl (k := 5) rfl (by rw [ev15]; rfl) (by decide) rfl (fun ls hl => ?_)
    refine lv_goto (tgt := 25) hx hb wd_M_bound_76 (by decide) ?_
    exact hk25 x1 x2 x3 x4 v15 σ hf _ _ _ hP hD hS (lv_sub hl [1, 2, 3, 4, 5, 0] rfl)
  have J69 : ∀ (k11 : Int32 → Int32 → Int32 → wc_S → Option (Int32 × wc_S)) (hk11 : (∀ (x1 : Int32) (x2 : Int32) (x3 : Int32) (σ : wc_S), k11 x1 x2 x3 σ = some res → wx_Arr p l e ({ frames := 2, cells := 0, slots := 0, locals := 48 }) s m args below meth c D ad cI cZ cJ cG A (MQ below (wx_Qi D ad cI cZ cJ cG res A) args s 0 0 A) 7 0 0 11 [(0, .ref (ad 71)), (1, .int x1), (2, .int x2), (3, .int x3)] [] σ)) (k25 : Int32 → Int32 → Int32 → Int32 → Int32 → wc_S → Option (Int32 × wc_S)) (hk25 : (∀ (x1 : Int32) (x2 : Int32) (x3 : Int32) (x4 : Int32) (x5 : Int32) (σ : wc_S), k25 x1 x2 x3 x4 x5 σ = some res → wx_Arr p l e ({ frames := 2, cells := 0, slots := 0, locals := 48 }) s m args below meth c D ad cI cZ cJ cG A (MQ below (wx_Qi D ad cI cZ cJ cG res A) args s 0 0 A) 7 0 0 25 [(0, .ref (ad 71)), (1, .int x1), (2, .int x2), (3, .int x3), (4, .int x4), (5, .int x5)] [] σ)) (x1 : Int32) (x2 : Int32) (x3 : Int32) (x5 : Int32) (x6 : Int32) (σ : wc_S), wf_M_bound_69 k11 k25 x1 x2 x3 x5 x6 σ = some res → wx_Arr p l e ({ frames := 2, cells := 0, slots := 0, locals := 48 }) s m args below meth c D ad cI cZ cJ cG A (MQ below (wx_Qi D ad cI cZ cJ cG res A) args s 0 0 A) 7 0 0 69 [(0, .ref (ad 71)), (1, .int x1), (2, .int x2), (3, .int x3), (5, .int x5), (6, .int x6)] [] σ := by
    intro k11 hk11 k25 hk25 x1 x2 x3 x5 x6 σ hf H locs ls hP hD hS hl
    unfold wf_M_bound_69 at hf
    refine lv_iload hx hb wd_M_bound_69 (lv_at hl 5 rfl) ?_
    refine lv_istore (lv' := [(4, .int x6), (0, .ref (ad 71)), (1, .int x1), (2, .int x2), (3, .int x3), (5, .int x5), (6, .int x6)]) hx hb wd_M_bound_71 hl (by decide) rfl (fun ls hl => ?_)
    exact J73 k11 hk11 k25 hk25 x1 x2 x3 x6 x5 σ hf _ _ _ hP hD hS (lv_sub hl [1, 2, 3, 4, 0, 5] rfl)
  have J25 : ∀ (k11 : Int32 → Int32 → Int32 → wc_S → Option (Int32 × wc_S)) (hk11 : (∀ (x1 : Int32) (x2 : Int32) (x3 : Int32) (σ : wc_S), k11 x1 x2 x3 σ = some res → wx_Arr p l e ({ frames := 2, cells := 0, slots := 0, locals := 48 }) s m args below meth c D ad cI cZ cJ cG A (MQ below (wx_Qi D ad cI cZ cJ cG res A) args s 0 0 A) 7 0 0 11 [(0, .ref (ad 71)), (1, .int x1), (2, .int x2), (3, .int x3)] [] σ)) (n : Nat) (x1 : Int32) (x2 : Int32) (x3 : Int32) (x4 : Int32) (x5 : Int32) (σ : wc_S), wf_M_bound_25 k11 n x1 x2 x3 x4 x5 σ = some res → wx_Arr p l e ({ frames := 2, cells := 0, slots := 0, locals := 48 }) s m args below meth c D ad cI cZ cJ cG A (MQ below (wx_Qi D ad cI cZ cJ cG res A) args s 0 0 A) 7 0 0 25 [(0, .ref (ad 71)), (1, .int x1), (2, .int x2), (3, .int x3), (4, .int x4), (5, .int x5)] [] σ := by
    intro k11 hk11 n
    induction n with
    | zero => intro x1 x2 x3 x4 x5 σ hf; exact absurd hf (by intro h9; cases h9)
    | succ n hk25 =>
      intro x1 x2 x3 x4 x5 σ hf H locs ls hP hD hS hl
      have hf : wf_M_bound_25_b k11 (wf_M_bound_25 k11 n) x1 x2 x3 x4 x5 σ = some res := hf
      unfold wf_M_bound_25_b at hf
      refine lv_iload hx hb wd_M_bound_25 (lv_at hl 5 rfl) ?_
      refine lv_aload_n hx hb wd_M_bound_27 rfl (lv_at hl 0 rfl) ?_
      refine wx_get (v := .int (σ 71 1)) (C := "WidthCampaignsModel") (T := wx_TM) (N' := 29) hx hb hts wi_M hown hK hP 71 (by decide) rfl rfl 1 (by decide) wt_631 (fun _ h9 => h9) rfl wd_M_bound_28 ?_
      refine lv_topi (fun v5 ev5 => ?_)
      have hf := wc_st_e ev5 hf
      refine lv_icmp_ge (tgt := 79) hx hb wd_M_bound_31 (by decide) (fun c6 => ?_) (fun c6 => ?_)
      · have hf := wc_t c6 hf
        refine lv_iload hx hb wd_M_bound_79 (lv_at hl 4 rfl) ?_
        refine lv_if_ge (tgt := 87) hx hb wd_M_bound_81 (by decide) (fun c7 => ?_) (fun c7 => ?_)
        · have hf := wc_t c7 hf
          exact J87 k11 hk11 x1 x2 x3 x4 σ hf _ _ _ hP hD hS (lv_sub hl [0, 1, 2, 3, 4] rfl)
        · have hf := wc_f c7 hf
          refine lv_iconst (v := 0) hx hb wd_M_bound_84 (by decide) ?_
          refine lv_istore (lv' := [(4, .int 0), (0, .ref (ad 71)), (1, .int x1), (2, .int x2), (3, .int x3), (5, .int x5)]) hx hb wd_M_bound_85 hl (by decide) rfl (fun ls hl => ?_)
          exact J87 k11 hk11 x1 x2 x3 0 σ hf _ _ _ hP hD hS (lv_sub hl [1, 2, 3, 4, 0] rfl)
      · have hf := wc_f c6 hf
        refine lv_iload hx hb wd_M_bound_34 (lv_at hl 5 rfl) ?_
        refine lv_iload_n hx hb wd_M_bound_36 rfl (lv_at hl 3 rfl) ?_
        refine lv_icmp_ne (tgt := 43) hx hb wd_M_bound_37 (by decide) (fun c11 => ?_) (fun c11 => ?_)
        · have hf := wc_f c11 hf
          refine lv_aload_n hx hb wd_M_bound_43 rfl (lv_at hl 0 rfl) ?_
          refine lv_iload hx hb wd_M_bound_44 (lv_at hl 5 rfl) ?_
          refine lv_iload_n hx hb wd_M_bound_46 rfl (lv_at hl 3 rfl) ?_
          obtain ⟨r13, σ12, hq, hf⟩ := wc_b2_e hf
          refine wx_calli (va_runV (As := [.int x5, .int x3]) (rest := []) ⟨hx, hb, hml, hown, hts⟩ (wm_M_jumpOf l D ad cI cZ cJ cG _ x5 x3 σ _ hq) (wx_cwV 2 hts wt_777 wt_776 wp_37 wt_7 wt_774 wh_M_jumpOf rfl rfl ⟨Nat.le_of_ble_eq_true rfl, Nat.le_of_ble_eq_true rfl⟩) (wx_preV hK hP hD hS hA hC (by decide) rfl rfl) rfl rfl hl.1 rfl (lv_room (Nat.le_of_ble_eq_true rfl)) wd_M_bound_47 ⟨Nat.le_of_ble_eq_true rfl, Nat.le_of_ble_eq_true rfl⟩) hD hS hA (fun H locs hP hD hS => ?_)
          refine lv_istore (lv' := [(6, .int r13), (0, .ref (ad 71)), (1, .int x1), (2, .int x2), (3, .int x3), (4, .int x4), (5, .int x5)]) hx hb wd_M_bound_50 hl (by decide) rfl (fun ls hl => ?_)
          refine lv_iload hx hb wd_M_bound_52 (lv_at hl 0 rfl) ?_
          refine lv_if_lt (tgt := 73) hx hb wd_M_bound_54 (by decide) (fun c14 => ?_) (fun c14 => ?_)
          · have hf := wc_t c14 hf
            exact J73 k11 hk11 (wf_M_bound_25 k11 n) hk25 x1 x2 x3 x4 x5 σ12 hf _ _ _ hP hD hS (lv_sub hl [1, 2, 3, 4, 5, 6] rfl)
          · have hf := wc_f c14 hf
            refine lv_iload hx hb wd_M_bound_57 (lv_at hl 5 rfl) ?_
            refine lv_if_lt (tgt := 69) hx hb wd_M_bound_59 (by decide) (fun c16 => ?_) (fun c16 => ?_)
            · have hf := wc_t c16 hf
              exact J69 k11 hk11 (wf_M_bound_25 k11 n) hk25 x1 x2 x3 x5 r13 σ12 hf _ _ _ hP hD hS (lv_sub hl [1, 2, 3, 4, 6, 0] rfl)
            · have hf := wc_f c16 hf
              refine lv_iload hx hb wd_M_bound_62 (lv_at hl 0 rfl) ?_
              refine lv_iload hx hb wd_M_bound_64 (lv_at hl 5 rfl) ?_
              refine lv_icmp_ge (tgt := 73) hx hb wd_M_bound_66 (by decide) (fun c17 => ?_) (fun c17 => ?_)
              · have hf := wc_t c17 hf
                exact J73 k11 hk11 (wf_M_bound_25 k11 n) hk25 x1 x2 x3 x4 x5 σ12 hf _ _ _ hP hD hS (lv_sub hl [1, 2, 3, 4, 5, 6] rfl)
              · have hf := wc_f c17 hf
                exact J69 k11 hk11 (wf_M_bound_25 k11 n) hk25 x1 x2 x3 x5 r13 σ12 hf _ _ _ hP hD hS (lv_sub hl [1, 2, 3, 4, 6, 0] rfl)
        · have hf := wc_t c11 hf
          refine lv_goto (tgt := 73) hx hb wd_M_bound_40 (by decide) ?_
          exact J73 k11 hk11 (wf_M_bound_25 k11 n) hk25 x1 x2 x3 x4 x5 σ hf _ _ _ hP hD hS (lv_sub hl [0, 1, 2, 3, 4, 5] rfl)
  have J11 : ∀ (n : Nat) (x1 : Int32) (x2 : Int32) (x3 : Int32) (σ : wc_S), wf_M_bound_11 n x1 x2 x3 σ = some res → wx_Arr p l e ({ frames := 2, cells := 0, slots := 0, locals := 48 }) s m args below meth c D ad cI cZ cJ cG A (MQ below (wx_Qi D ad cI cZ cJ cG res A) args s 0 0 A) 7 0 0 11 [(0, .ref (ad 71)), (1, .int x1), (2, .int x2), (3, .int x3)] [] σ := by
    intro  n
    induction n with
    | zero => intro x1 x2 x3 σ hf; exact absurd hf (by intro h9; cases h9)
    | succ n hk11 =>
      intro x1 x2 x3 σ hf H locs ls hP hD hS hl
      have hf : wf_M_bound_11_b (wf_M_bound_11 n) x1 x2 x3 σ = some res := hf
      unfold wf_M_bound_11_b at hf
      refine lv_iload_n hx hb wd_M_bound_11 rfl (lv_at hl 3 rfl) ?_
      refine lv_aload_n hx hb wd_M_bound_12 rfl (lv_at hl 0 rfl) ?_
      refine wx_get (v := .int (σ 71 1)) (C := "WidthCampaignsModel") (T := wx_TM) (N' := 29) hx hb hts wi_M hown hK hP 71 (by decide) rfl rfl 1 (by decide) wt_631 (fun _ h9 => h9) rfl wd_M_bound_13 ?_
      refine lv_topi (fun v2 ev2 => ?_)
      have hf := wc_st_e ev2 hf
      refine lv_icmp_ge (tgt := 107) hx hb wd_M_bound_16 (by decide) (fun c3 => ?_) (fun c3 => ?_)
      · have hf := wc_t c3 hf
        refine lv_iload_n hx hb wd_M_bound_107 rfl (lv_at hl 1 rfl) ?_
        refine lv_iload_n hx hb wd_M_bound_108 rfl (lv_at hl 2 rfl) ?_
        refine lv_isub hx hb wd_M_bound_109 ?_
        refine lv_topi (fun v4 ev4 => ?_)
        have hf := wc_st_e ev4 hf
        exact wx_iret hx hb hr hlocks hf hP hS wd_M_bound_110
      · have hf := wc_f c3 hf
        refine lv_iconst (v := (-1)) hx hb wd_M_bound_19 (by decide) ?_
        refine lv_istore (lv' := [(4, .int (-1)), (0, .ref (ad 71)), (1, .int x1), (2, .int x2), (3, .int x3)]) hx hb wd_M_bound_20 hl (by decide) rfl (fun ls hl => ?_)
        refine lv_iconst (v := 0) hx hb wd_M_bound_22 (by decide) ?_
        refine lv_istore (lv' := [(5, .int 0), (4, .int (-1)), (0, .ref (ad 71)), (1, .int x1), (2, .int x2), (3, .int x3)]) hx hb wd_M_bound_23 hl (by decide) rfl (fun ls hl => ?_)
        exact J25 (wf_M_bound_11 n) hk11 16 x1 x2 x3 (-1) 0 σ hf _ _ _ hP hD hS (lv_sub hl [2, 3, 4, 5, 1, 0] rfl)
  unfold wf_M_bound at hf
  refine lv_aload_n hx hb wd_M_bound_0 rfl (lv_at hl 0 rfl) ?_
  refine lv_iconst (v := 0) hx hb wd_M_bound_1 (by decide) ?_
  refine wx_put (x := 0) (ty := .int) (C := "WidthCampaignsModel") (T := wx_TM) (N' := 29) hx hb hts wi_M wx_tM wx_toM wx_nM hown hK hP hD hS 71 (by decide) (fun _ => rfl) rfl 0 (by decide) wt_630 (fun _ h9 => h9) rfl (by decide +kernel) rfl rfl (Nat.le_of_ble_eq_true rfl) rfl wd_M_bound_2 (fun σ1 H locs eσ1 hP hD hS => ?_)
  have hf := wc_st_e eσ1 hf
  refine lv_iconst (v := 0) hx hb wd_M_bound_5 (by decide) ?_
  refine lv_istore_n (lv' := [(1, .int 0), (0, .ref (ad 71))]) hx hb wd_M_bound_6 rfl hl (by decide) rfl (fun ls hl => ?_)
  refine lv_iconst (v := 0) hx hb wd_M_bound_7 (by decide) ?_
  refine lv_istore_n (lv' := [(2, .int 0), (1, .int 0), (0, .ref (ad 71))]) hx hb wd_M_bound_8 rfl hl (by decide) rfl (fun ls hl => ?_)
  refine lv_iconst (v := 0) hx hb wd_M_bound_9 (by decide) ?_
  refine lv_istore_n (lv' := [(3, .int 0), (2, .int 0), (1, .int 0), (0, .ref (ad 71))]) hx hb wd_M_bound_10 rfl hl (by decide) rfl (fun ls hl => ?_)
  exact J11 16 0 0 0 σ1 hf _ _ _ hP hD hS (lv_sub hl [3, 2, 1, 0] rfl)
