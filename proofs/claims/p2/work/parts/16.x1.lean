set_option maxHeartbeats 4000000 in
set_option maxRecDepth 100000 in
theorem wm_W_run (l : Launch) (D : va_G) (ad : Nat → Nat) (cI cZ cJ cG : ClassId) (htr : l.stackTraces = false) (sz : Nat) (a1 : Int32) (σ : wc_S) (res : wc_X (Int32 × wc_S)) (hf : wf_W_run a1 σ = some res) : wz_Met l wy_W_run (wx_ws_W_run) ({ frames := 27, cells := 1, slots := 6, locals := 607 }) (va_Pc [.ref (ad 0), .int a1] (wx_pre D ad cI cZ cJ cG σ sz)) (wx_Qix D ad cI cZ cJ cG res (va_A (wx_W ad cI cZ cJ cG σ) sz)) (wx_XC D ad cI cZ cJ cG res (va_A (wx_W ad cI cZ cJ cG σ) sz)) 1 6 (va_A (wx_W ad cI cZ cJ cG σ) sz) := by
  refine wx_ofX (cc := prog_1_method_8_code) (maxL := 2) (ret := (some .int)) (Qc := fun A => wx_Qix D ad cI cZ cJ cG res A) (XC := fun A => wx_XC D ad cI cZ cJ cG res A) [.ref (ad 0), .int a1] (by decide) rfl (Nat.le_of_ble_eq_true rfl) ?_
  intro p e s m args below meth c A ls hin ht hl
  obtain ⟨hx, hb, hr, hts, hown, hlocks, hml, hA, hP, hK, hD, hC, hN, hS⟩ := hin
  have hl : lv_has ls 2 [(0, .ref (ad 0)), (1, .int a1)] := hl
  unfold wf_W_run at hf
  refine lv_iload_n hx hb wd_W_run_0 rfl (lv_at hl 1 rfl) ?_
  refine lv_iconst (v := 0) hx hb wd_W_run_1 (by decide) ?_
  refine lv_ldc (v := 100000) hx hb hown (wx_hw hts wt_452) wd_W_run_2 ?_
  obtain ⟨r2, σ1, hq, hf⟩ := wc_b2_e hf
  refine wx_calli (va_runS (As := [.int a1, .int 0, .int 100000]) (rest := []) ⟨hx, hb, hml, hown, hts⟩ (wm_W_isOutside l D ad cI cZ cJ cG _ a1 0 100000 σ _ hq) (wx_cwS 3 hts wt_263 wt_262 wt_1 wt_261 wh_W_isOutside rfl rfl ⟨Nat.le_of_ble_eq_true rfl, Nat.le_of_ble_eq_true rfl⟩) (wx_preS hK hP hD hS hA hC) rfl rfl hl.1 rfl (lv_room (Nat.le_of_ble_eq_true rfl)) wd_W_run_4 ⟨Nat.le_of_ble_eq_true rfl, Nat.le_of_ble_eq_true rfl⟩) hD hS hA (fun H locs hP hD hS => ?_)
  refine lv_if_eq (tgt := 20) hx hb wd_W_run_7 (by decide) (fun c3 => ?_) (fun c3 => ?_)
  · have hf := wc_t c3 hf
    refine lv_aload_n hx hb wd_W_run_20 rfl (lv_at hl 0 rfl) ?_
    refine wx_get (v := .ref (ad 68)) (C := "WidthCampaigns") (T := wx_TW) (N' := 7) hx hb hts wi_W hown hK hP 0 (by decide) rfl rfl 3 (by decide) wt_222 (fun _ h9 => h9) rfl wd_W_run_21 ?_
    refine lv_iload_n hx hb wd_W_run_24 rfl (lv_at hl 1 rfl) ?_
    obtain ⟨σ4, hq, hf⟩ := wc_b1_e hf
    refine wx_callv (va_runVN (As := [.int a1]) (rest := []) ⟨hx, hb, hml, hown, hts⟩ (wm_S_searchWith l D ad cI cZ cJ cG _ a1 σ1 _ hq) (wx_cwN 1 hts wt_457 wt_456 wp_10 wt_6 (hN.1 _ (List.mem_of_getElem? (i := 43) rfl) #[]) wh_S_searchWith rfl rfl ⟨Nat.le_of_ble_eq_true rfl, Nat.le_of_ble_eq_true rfl⟩) (wx_preV hK hP hD hS hA hC (by decide) rfl rfl) rfl rfl hl.1 rfl (lv_room (Nat.le_of_ble_eq_true rfl)) wd_W_run_25 ⟨Nat.le_of_ble_eq_true rfl, Nat.le_of_ble_eq_true rfl⟩) hD hS hA (fun H locs hP hD hS => ?_)
    refine lv_aload_n hx hb wd_W_run_28 rfl (lv_at hl 0 rfl) ?_
    refine lv_iconst (v := 1) hx hb wd_W_run_29 (by decide) ?_
    refine wx_put (x := 1) (ty := .boolean) (C := "WidthCampaigns") (T := wx_TW) (N' := 7) hx hb hts wi_W wx_tW wx_toW wx_nW hown hK hP hD hS 0 (by decide) (fun _ => rfl) rfl 6 (by decide) wt_225 (fun _ h9 => h9) rfl (by decide +kernel) narrow_b1 rfl (Nat.le_of_ble_eq_true rfl) rfl wd_W_run_30 (fun σ5 H locs eσ5 hP hD hS => ?_)
    have hf := wc_st_e eσ5 hf
    refine lv_aload_n hx hb wd_W_run_33 rfl (lv_at hl 0 rfl) ?_
    refine lv_aload_n hx hb wd_W_run_34 rfl (lv_at hl 0 rfl) ?_
    refine wx_get (v := .ref (ad 68)) (C := "WidthCampaigns") (T := wx_TW) (N' := 7) hx hb hts wi_W hown hK hP 0 (by decide) rfl rfl 3 (by decide) wt_222 (fun _ h9 => h9) rfl wd_W_run_35 ?_
    refine wx_getN (v := .int (σ5 68 5)) (C := "WidthCampaigns$Search") (T := wx_TS) (N' := 7) hx hb hts wi_S hown hK hP 68 (by decide) rfl rfl 5 (by decide) (hN.1 _ (List.mem_of_getElem? (i := 44) rfl) #[]) (fun _ h9 => h9) rfl wd_W_run_38 ?_
    refine lv_topi (fun v6 ev6 => ?_)
    have hf := wc_st_e ev6 hf
    obtain ⟨h7, hf⟩ := wc_gd_e hf
    refine wx_put (x := v6) (ty := .boolean) (C := "WidthCampaigns") (T := wx_TW) (N' := 7) hx hb hts wi_W wx_tW wx_toW wx_nW hown hK hP hD hS 0 (by decide) (fun _ => rfl) rfl 5 (by decide) wt_224 (fun _ h9 => h9) rfl (by decide +kernel) (wc_z_e h7) (wc_z_f h7) (Nat.le_of_ble_eq_true rfl) rfl wd_W_run_41 (fun σ8 H locs eσ8 hP hD hS => ?_)
    have hf := wc_st_e eσ8 hf
    refine lv_aload_n hx hb wd_W_run_44 rfl (lv_at hl 0 rfl) ?_
    refine wx_get (v := .int (σ8 0 5)) (C := "WidthCampaigns") (T := wx_TW) (N' := 7) hx hb hts wi_W hown hK hP 0 (by decide) rfl rfl 5 (by decide) wt_224 (fun _ h9 => h9) rfl wd_W_run_45 ?_
    refine lv_topi (fun v9 ev9 => ?_)
    have hf := wc_st_e ev9 hf
    refine lv_if_ne (tgt := 53) hx hb wd_W_run_48 (by decide) (fun c10 => ?_) (fun c10 => ?_)
    · have hf := wc_f c10 hf
      refine lv_aload_n hx hb wd_W_run_53 rfl (lv_at hl 0 rfl) ?_
      refine wx_get (v := .ref (ad 49)) (C := "WidthCampaigns") (T := wx_TW) (N' := 7) hx hb hts wi_W hown hK hP 0 (by decide) rfl rfl 2 (by decide) wt_221 (fun _ h9 => h9) rfl wd_W_run_54 ?_
      refine lv_aload_n hx hb wd_W_run_57 rfl (lv_at hl 0 rfl) ?_
      refine wx_get (v := .ref (ad 68)) (C := "WidthCampaigns") (T := wx_TW) (N' := 7) hx hb hts wi_W hown hK hP 0 (by decide) rfl rfl 3 (by decide) wt_222 (fun _ h9 => h9) rfl wd_W_run_58 ?_
      refine wx_getN (v := .ref (ad 69)) (C := "WidthCampaigns$Search") (T := wx_TS) (N' := 7) hx hb hts wi_S hown hK hP 68 (by decide) rfl rfl 2 (by decide) (hN.1 _ (List.mem_of_getElem? (i := 45) rfl) #[]) (fun _ h9 => h9) rfl wd_W_run_61 ?_
      obtain ⟨r12, σ11, hq, hf⟩ := wc_b2_e hf
      refine wx_calli (va_runVN (As := [.ref (ad 69)]) (rest := []) ⟨hx, hb, hml, hown, hts⟩ (wm_L_layAll l D ad cI cZ cJ cG _ 49 (Or.inr rfl) 69 (Or.inl rfl) σ8 _ hq) (wx_cwN 1 hts wt_517 wt_516 wp_24 wt_5 (hN.1 _ (List.mem_of_getElem? (i := 26) rfl) #[]) wh_L_layAll rfl rfl ⟨Nat.le_of_ble_eq_true rfl, Nat.le_of_ble_eq_true rfl⟩) (wx_preV hK hP hD hS hA hC (by decide) rfl rfl) rfl rfl hl.1 rfl (lv_room (Nat.le_of_ble_eq_true rfl)) wd_W_run_64 ⟨Nat.le_of_ble_eq_true rfl, Nat.le_of_ble_eq_true rfl⟩) hD hS hA (fun H locs hP hD hS => ?_)
      refine lv_pop hx hb wd_W_run_67 rfl ?_
      refine lv_aload_n hx hb wd_W_run_68 rfl (lv_at hl 0 rfl) ?_
      refine wx_get (v := .ref (ad 1)) (C := "WidthCampaigns") (T := wx_TW) (N' := 7) hx hb hts wi_W hown hK hP 0 (by decide) rfl rfl 0 (by decide) wt_219 (fun _ h9 => h9) rfl wd_W_run_69 ?_
      refine wx_getN (v := .int (σ11 1 10)) (C := "WidthCampaigns$Plant") (T := wx_TP) (N' := 15) hx hb hts wi_P hown hK hP 1 (by decide) rfl rfl 10 (by decide) (hN.1 _ (List.mem_of_getElem? (i := 24) rfl) #[]) (fun _ h9 => h9) rfl wd_W_run_72 ?_
      refine lv_topi (fun v13 ev13 => ?_)
      have hf := wc_st_e ev13 hf
      refine W.widen (k := 1) (n := 6) (by decide) (by decide) ?_
      refine wz_ret ?_
      exact wx_iretx hx hb hr hlocks hf hP hS wd_W_run_75
    · have hf := wc_t c10 hf
      refine lv_iconst (v := (-1)) hx hb wd_W_run_51 (by decide) ?_
      refine W.widen (k := 1) (n := 6) (by decide) (by decide) ?_
      refine wz_ret ?_
      exact wx_iretx hx hb hr hlocks hf hP hS wd_W_run_52
  · have hf := wc_f c3 hf
    exact wz_throw (k := 2) (ik := 45) (ic := 49) hx hb htr hown hts hC wt_264 wt_11 (List.mem_of_getElem? (i := 13) rfl) wa_2_49 hS (hl.1.trans hml.symm) wd_W_run_10 wd_W_run_13 wd_W_run_14 wd_W_run_16 wd_W_run_19 ht (Nat.le_of_ble_eq_true rfl) (Nat.le_of_ble_eq_true rfl) (Nat.le_of_ble_eq_true rfl) (Nat.le_of_ble_eq_true rfl) hlocks hP (Option.some.inj hf) (Nat.le_of_ble_eq_true rfl) (Nat.le_of_ble_eq_true rfl)
set_option maxHeartbeats 4000000 in
set_option maxRecDepth 100000 in
theorem wm_W_proved (l : Launch) (D : va_G) (ad : Nat → Nat) (cI cZ cJ cG : ClassId) (htr : l.stackTraces = false) (sz : Nat) (σ : wc_S) (res : wc_X (Int32 × wc_S)) (hf : wf_W_proved  σ = some res) : wz_Met l wy_W_proved (wx_ws_W_proved) ({ frames := 7, cells := 1, slots := 6, locals := 110 }) (va_Pc [.ref (ad 0)] (wx_pre D ad cI cZ cJ cG σ sz)) (wx_Qix D ad cI cZ cJ cG res (va_A (wx_W ad cI cZ cJ cG σ) sz)) (wx_XC D ad cI cZ cJ cG res (va_A (wx_W ad cI cZ cJ cG σ) sz)) 1 6 (va_A (wx_W ad cI cZ cJ cG σ) sz) := by
  refine wx_ofX (cc := prog_1_method_9_code) (maxL := 1) (ret := (some .boolean)) (Qc := fun A => wx_Qix D ad cI cZ cJ cG res A) (XC := fun A => wx_XC D ad cI cZ cJ cG res A) [.ref (ad 0)] (by decide) rfl (Nat.le_of_ble_eq_true rfl) ?_
  intro p e s m args below meth c A ls hin ht hl
  obtain ⟨hx, hb, hr, hts, hown, hlocks, hml, hA, hP, hK, hD, hC, hN, hS⟩ := hin
  have hl : lv_has ls 1 [(0, .ref (ad 0))] := hl
  unfold wf_W_proved at hf
  refine lv_aload_n hx hb wd_W_proved_0 rfl (lv_at hl 0 rfl) ?_
  refine wx_get (v := .int (σ 0 6)) (C := "WidthCampaigns") (T := wx_TW) (N' := 7) hx hb hts wi_W hown hK hP 0 (by decide) rfl rfl 6 (by decide) wt_225 (fun _ h9 => h9) rfl wd_W_proved_1 ?_
  refine lv_topi (fun v1 ev1 => ?_)
  have hf := wc_st_e ev1 hf
  refine lv_if_ne (tgt := 17) hx hb wd_W_proved_4 (by decide) (fun c2 => ?_) (fun c2 => ?_)
  · have hf := wc_f c2 hf
    refine lv_aload_n hx hb wd_W_proved_17 rfl (lv_at hl 0 rfl) ?_
    refine wx_get (v := .ref (ad 68)) (C := "WidthCampaigns") (T := wx_TW) (N' := 7) hx hb hts wi_W hown hK hP 0 (by decide) rfl rfl 3 (by decide) wt_222 (fun _ h9 => h9) rfl wd_W_proved_18 ?_
    refine wx_getN (v := .int (σ 68 6)) (C := "WidthCampaigns$Search") (T := wx_TS) (N' := 7) hx hb hts wi_S hown hK hP 68 (by decide) rfl rfl 6 (by decide) (hN.1 _ (List.mem_of_getElem? (i := 46) rfl) #[]) (fun _ h9 => h9) rfl wd_W_proved_21 ?_
    refine lv_topi (fun v3 ev3 => ?_)
    have hf := wc_st_e ev3 hf
    refine lv_if_ne (tgt := 31) hx hb wd_W_proved_24 (by decide) (fun c4 => ?_) (fun c4 => ?_)
    · have hf := wc_f c4 hf
      refine lv_iconst (v := 0) hx hb wd_W_proved_31 (by decide) ?_
      refine W.widen (k := 1) (n := 6) (by decide) (by decide) ?_
      refine wz_ret ?_
      exact wx_zretx hx hb hr narrow_b0 hlocks hf hP hS wd_W_proved_32
    · have hf := wc_t c4 hf
      refine lv_iconst (v := 1) hx hb wd_W_proved_27 (by decide) ?_
      refine lv_goto (tgt := 32) hx hb wd_W_proved_28 (by decide) ?_
      refine W.widen (k := 1) (n := 6) (by decide) (by decide) ?_
      refine wz_ret ?_
      exact wx_zretx hx hb hr narrow_b1 hlocks hf hP hS wd_W_proved_32
  · have hf := wc_t c2 hf
    exact wz_throw (k := 1) (ik := 164) (ic := 168) hx hb htr hown hts hC wt_529 wt_16 (List.mem_of_getElem? (i := 14) rfl) wa_1_168 hS (hl.1.trans hml.symm) wd_W_proved_7 wd_W_proved_10 wd_W_proved_11 wd_W_proved_13 wd_W_proved_16 ht (Nat.le_of_ble_eq_true rfl) (Nat.le_of_ble_eq_true rfl) (Nat.le_of_ble_eq_true rfl) (Nat.le_of_ble_eq_true rfl) hlocks hP (Option.some.inj hf) (Nat.le_of_ble_eq_true rfl) (Nat.le_of_ble_eq_true rfl)
set_option maxHeartbeats 4000000 in
set_option maxRecDepth 100000 in
theorem wm_W_order (l : Launch) (D : va_G) (ad : Nat → Nat) (cI cZ cJ cG : ClassId) (htr : l.stackTraces = false) (sz : Nat) (a1 : Int32) (σ : wc_S) (res : wc_X (Int32 × wc_S)) (hf : wf_W_order a1 σ = some res) : wz_Met l wy_W_order (wx_ws_W_order) ({ frames := 8, cells := 2, slots := 12, locals := 131 }) (va_Pc [.ref (ad 0), .int a1] (wx_pre D ad cI cZ cJ cG σ sz)) (wx_Qix D ad cI cZ cJ cG res (va_A (wx_W ad cI cZ cJ cG σ) sz)) (wx_XC D ad cI cZ cJ cG res (va_A (wx_W ad cI cZ cJ cG σ) sz)) 2 12 (va_A (wx_W ad cI cZ cJ cG σ) sz) := by
  refine wx_ofX (cc := prog_1_method_10_code) (maxL := 2) (ret := (some .int)) (Qc := fun A => wx_Qix D ad cI cZ cJ cG res A) (XC := fun A => wx_XC D ad cI cZ cJ cG res A) [.ref (ad 0), .int a1] (by decide) rfl (Nat.le_of_ble_eq_true rfl) ?_
  intro p e s m args below meth c A ls hin ht hl
  obtain ⟨hx, hb, hr, hts, hown, hlocks, hml, hA, hP, hK, hD, hC, hN, hS⟩ := hin
  have hl : lv_has ls 2 [(0, .ref (ad 0)), (1, .int a1)] := hl
  unfold wf_W_order at hf
  refine lv_aload_n hx hb wd_W_order_0 rfl (lv_at hl 0 rfl) ?_
  obtain ⟨q, hq, hf⟩ := wc_bx_e hf
  refine wx_callvx (wz_runV (As := []) (rest := []) ⟨hx, hb, hml, hown, hts⟩ (wm_W_requireOrder l D ad cI cZ cJ cG htr _ σ _ hq) (wx_cwV 0 hts wt_555 wt_554 wp_25 wt_1 wt_552 wh_W_requireOrder rfl rfl ⟨Nat.le_of_ble_eq_true rfl, Nat.le_of_ble_eq_true rfl⟩) (wx_preV hK hP hD hS hA hC (by decide) rfl rfl) rfl rfl hl.1 rfl (lv_room (Nat.le_of_ble_eq_true rfl)) wd_W_order_1 ⟨Nat.le_of_ble_eq_true rfl, Nat.le_of_ble_eq_true rfl⟩) hD hS hA (fun E q9 ce k9 σ1 H locs e9 hE hP hD hS hc1 hc2 hc3 => ?_) (fun σ1 H locs e9 hP hD hS => ?_)
  · subst e9; exact wx_outx ht hlocks hc1 hc2 hc3 hE (wc_bx_l hf) hP hS (by decide) (by decide)
  subst e9; have hf := wc_bx_r hf
  refine W.widen (k := 1) (n := 6) (by decide) (by decide) ?_
  refine lv_aload_n hx hb wd_W_order_4 rfl (lv_at hl 0 rfl) ?_
  refine lv_iload_n hx hb wd_W_order_5 rfl (lv_at hl 1 rfl) ?_
  obtain ⟨q, hq, hf⟩ := wc_bx_e hf
  refine wx_callvx (wz_runV (As := [.int a1]) (rest := []) ⟨hx, hb, hml, hown, hts⟩ (wm_W_requirePlace l D ad cI cZ cJ cG htr _ a1 σ1 _ hq) (wx_cwV 1 hts wt_560 wt_559 wp_26 wt_1 wt_557 wh_W_requirePlace rfl rfl ⟨Nat.le_of_ble_eq_true rfl, Nat.le_of_ble_eq_true rfl⟩) (wx_preV hK hP hD hS hA hC (by decide) rfl rfl) rfl rfl hl.1 rfl (lv_room (Nat.le_of_ble_eq_true rfl)) wd_W_order_6 ⟨Nat.le_of_ble_eq_true rfl, Nat.le_of_ble_eq_true rfl⟩) hD hS hA (fun E q9 ce k9 σ2 H locs e9 hE hP hD hS hc1 hc2 hc3 => ?_) (fun σ2 H locs e9 hP hD hS => ?_)
  · subst e9; exact wx_outx ht hlocks hc1 hc2 hc3 hE (wc_bx_l hf) hP hS (by decide) (by decide)
  subst e9; have hf := wc_bx_r hf
  refine W.widen (k := 2) (n := 12) (by decide) (by decide) ?_
  refine lv_aload_n hx hb wd_W_order_9 rfl (lv_at hl 0 rfl) ?_
  refine wx_get (v := .ref (ad 49)) (C := "WidthCampaigns") (T := wx_TW) (N' := 7) hx hb hts wi_W hown hK hP 0 (by decide) rfl rfl 2 (by decide) wt_221 (fun _ h9 => h9) rfl wd_W_order_10 ?_
  refine wx_getN (v := .ref (ad 50)) (C := "WidthCampaigns$Line") (T := wx_TL) (N' := 10) hx hb hts wi_L hown hK hP 49 (by decide) rfl rfl 1 (by decide) (hN.1 _ (List.mem_of_getElem? (i := 25) rfl) #[]) (fun _ h9 => h9) rfl wd_W_order_13 ?_
  refine lv_iload_n hx hb wd_W_order_16 rfl (lv_at hl 1 rfl) ?_
  obtain ⟨h3, hf⟩ := wc_gd_e hf
  refine wx_iald hx hb hK hP 50 (n := 9) (by decide) rfl (wc_in_e h3) wd_W_order_17 ?_
  refine lv_topi (fun v4 ev4 => ?_)
  have hf := wc_st_e ev4 hf
  refine wz_ret ?_
  exact wx_iretx hx hb hr hlocks hf hP hS wd_W_order_18
set_option maxHeartbeats 4000000 in
set_option maxRecDepth 100000 in
theorem wm_W_told (l : Launch) (D : va_G) (ad : Nat → Nat) (cI cZ cJ cG : ClassId) (htr : l.stackTraces = false) (sz : Nat) (a1 : Int32) (σ : wc_S) (res : wc_X (Int32 × wc_S)) (hf : wf_W_told a1 σ = some res) : wz_Met l wy_W_told (wx_ws_W_told) ({ frames := 8, cells := 2, slots := 12, locals := 130 }) (va_Pc [.ref (ad 0), .int a1] (wx_pre D ad cI cZ cJ cG σ sz)) (wx_Qix D ad cI cZ cJ cG res (va_A (wx_W ad cI cZ cJ cG σ) sz)) (wx_XC D ad cI cZ cJ cG res (va_A (wx_W ad cI cZ cJ cG σ) sz)) 2 12 (va_A (wx_W ad cI cZ cJ cG σ) sz) := by
  refine wx_ofX (cc := prog_1_method_11_code) (maxL := 2) (ret := (some .int)) (Qc := fun A => wx_Qix D ad cI cZ cJ cG res A) (XC := fun A => wx_XC D ad cI cZ cJ cG res A) [.ref (ad 0), .int a1] (by decide) rfl (Nat.le_of_ble_eq_true rfl) ?_
  intro p e s m args below meth c A ls hin ht hl
  obtain ⟨hx, hb, hr, hts, hown, hlocks, hml, hA, hP, hK, hD, hC, hN, hS⟩ := hin
  have hl : lv_has ls 2 [(0, .ref (ad 0)), (1, .int a1)] := hl
  unfold wf_W_told at hf
  refine lv_iload_n hx hb wd_W_told_0 rfl (lv_at hl 1 rfl) ?_
  refine lv_iconst (v := 0) hx hb wd_W_told_1 (by decide) ?_
  refine lv_iconst (v := 2) hx hb wd_W_told_2 (by decide) ?_
  obtain ⟨r2, σ1, hq, hf⟩ := wc_b2_e hf
  refine wx_calli (va_runS (As := [.int a1, .int 0, .int 2]) (rest := []) ⟨hx, hb, hml, hown, hts⟩ (wm_W_isOutside l D ad cI cZ cJ cG _ a1 0 2 σ _ hq) (wx_cwS 3 hts wt_263 wt_262 wt_1 wt_261 wh_W_isOutside rfl rfl ⟨Nat.le_of_ble_eq_true rfl, Nat.le_of_ble_eq_true rfl⟩) (wx_preS hK hP hD hS hA hC) rfl rfl hl.1 rfl (lv_room (Nat.le_of_ble_eq_true rfl)) wd_W_told_3 ⟨Nat.le_of_ble_eq_true rfl, Nat.le_of_ble_eq_true rfl⟩) hD hS hA (fun H locs hP hD hS => ?_)
  refine lv_if_eq (tgt := 19) hx hb wd_W_told_6 (by decide) (fun c3 => ?_) (fun c3 => ?_)
  · have hf := wc_t c3 hf
    refine lv_aload_n hx hb wd_W_told_19 rfl (lv_at hl 0 rfl) ?_
    obtain ⟨q, hq, hf⟩ := wc_bx_e hf
    refine wx_callvx (wz_runV (As := []) (rest := []) ⟨hx, hb, hml, hown, hts⟩ (wm_W_requireOrder l D ad cI cZ cJ cG htr _ σ1 _ hq) (wx_cwV 0 hts wt_555 wt_554 wp_25 wt_1 wt_552 wh_W_requireOrder rfl rfl ⟨Nat.le_of_ble_eq_true rfl, Nat.le_of_ble_eq_true rfl⟩) (wx_preV hK hP hD hS hA hC (by decide) rfl rfl) rfl rfl hl.1 rfl (lv_room (Nat.le_of_ble_eq_true rfl)) wd_W_told_20 ⟨Nat.le_of_ble_eq_true rfl, Nat.le_of_ble_eq_true rfl⟩) hD hS hA (fun E q9 ce k9 σ4 H locs e9 hE hP hD hS hc1 hc2 hc3 => ?_) (fun σ4 H locs e9 hP hD hS => ?_)
    · subst e9; exact wx_outx ht hlocks hc1 hc2 hc3 hE (wc_bx_l hf) hP hS (by decide) (by decide)
    subst e9; have hf := wc_bx_r hf
    refine W.widen (k := 1) (n := 6) (by decide) (by decide) ?_
    refine lv_iload_n hx hb wd_W_told_23 rfl (lv_at hl 1 rfl) ?_
    refine lv_if_ne (tgt := 35) hx hb wd_W_told_24 (by decide) (fun c5 => ?_) (fun c5 => ?_)
    · have hf := wc_f c5 hf
      refine lv_iload_n hx hb wd_W_told_35 rfl (lv_at hl 1 rfl) ?_
      refine lv_iconst (v := 1) hx hb wd_W_told_36 (by decide) ?_
      refine lv_icmp_ne (tgt := 50) hx hb wd_W_told_37 (by decide) (fun c6 => ?_) (fun c6 => ?_)
      · have hf := wc_f c6 hf
        refine lv_aload_n hx hb wd_W_told_50 rfl (lv_at hl 0 rfl) ?_
        refine wx_get (v := .ref (ad 49)) (C := "WidthCampaigns") (T := wx_TW) (N' := 7) hx hb hts wi_W hown hK hP 0 (by decide) rfl rfl 2 (by decide) wt_221 (fun _ h9 => h9) rfl wd_W_told_51 ?_
        obtain ⟨r8, σ7, hq, hf⟩ := wc_b2_e hf
        refine wx_calli (va_runVN (As := []) (rest := []) ⟨hx, hb, hml, hown, hts⟩ (wm_L_movedSoFar l D ad cI cZ cJ cG _ 49 (Or.inr rfl) σ4 _ hq) (wx_cwN 0 hts wt_578 wt_577 wp_28 wt_5 (hN.1 _ (List.mem_of_getElem? (i := 47) rfl) #[]) wh_L_movedSoFar rfl rfl ⟨Nat.le_of_ble_eq_true rfl, Nat.le_of_ble_eq_true rfl⟩) (wx_preV hK hP hD hS hA hC (by decide) rfl rfl) rfl rfl hl.1 rfl (lv_room (Nat.le_of_ble_eq_true rfl)) wd_W_told_54 ⟨Nat.le_of_ble_eq_true rfl, Nat.le_of_ble_eq_true rfl⟩) hD hS hA (fun H locs hP hD hS => ?_)
        refine W.widen (k := 2) (n := 12) (by decide) (by decide) ?_
        refine wz_ret ?_
        exact wx_iretx hx hb hr hlocks hf hP hS wd_W_told_57
      · have hf := wc_t c6 hf
        refine lv_aload_n hx hb wd_W_told_40 rfl (lv_at hl 0 rfl) ?_
        refine wx_get (v := .ref (ad 49)) (C := "WidthCampaigns") (T := wx_TW) (N' := 7) hx hb hts wi_W hown hK hP 0 (by decide) rfl rfl 2 (by decide) wt_221 (fun _ h9 => h9) rfl wd_W_told_41 ?_
        obtain ⟨r10, σ9, hq, hf⟩ := wc_b2_e hf
        refine wx_calli (va_runVN (As := []) (rest := []) ⟨hx, hb, hml, hown, hts⟩ (wm_L_changesSoFar l D ad cI cZ cJ cG _ 49 (Or.inr rfl) σ4 _ hq) (wx_cwN 0 hts wt_574 wt_573 wp_27 wt_5 (hN.1 _ (List.mem_of_getElem? (i := 48) rfl) #[]) wh_L_changesSoFar rfl rfl ⟨Nat.le_of_ble_eq_true rfl, Nat.le_of_ble_eq_true rfl⟩) (wx_preV hK hP hD hS hA hC (by decide) rfl rfl) rfl rfl hl.1 rfl (lv_room (Nat.le_of_ble_eq_true rfl)) wd_W_told_44 ⟨Nat.le_of_ble_eq_true rfl, Nat.le_of_ble_eq_true rfl⟩) hD hS hA (fun H locs hP hD hS => ?_)
        refine lv_goto (tgt := 57) hx hb wd_W_told_47 (by decide) ?_
        refine W.widen (k := 2) (n := 12) (by decide) (by decide) ?_
        refine wz_ret ?_
        exact wx_iretx hx hb hr hlocks hf hP hS wd_W_told_57
    · have hf := wc_t c5 hf
      refine lv_aload_n hx hb wd_W_told_27 rfl (lv_at hl 0 rfl) ?_
      refine wx_get (v := .ref (ad 49)) (C := "WidthCampaigns") (T := wx_TW) (N' := 7) hx hb hts wi_W hown hK hP 0 (by decide) rfl rfl 2 (by decide) wt_221 (fun _ h9 => h9) rfl wd_W_told_28 ?_
      obtain ⟨r12, σ11, hq, hf⟩ := wc_b2_e hf
      refine wx_calli (va_runVN (As := []) (rest := []) ⟨hx, hb, hml, hown, hts⟩ (wm_L_penaltySoFar l D ad cI cZ cJ cG _ 49 (Or.inr rfl) σ4 _ hq) (wx_cwN 0 hts wt_474 wt_473 wp_14 wt_5 (hN.1 _ (List.mem_of_getElem? (i := 27) rfl) #[]) wh_L_penaltySoFar rfl rfl ⟨Nat.le_of_ble_eq_true rfl, Nat.le_of_ble_eq_true rfl⟩) (wx_preV hK hP hD hS hA hC (by decide) rfl rfl) rfl rfl hl.1 rfl (lv_room (Nat.le_of_ble_eq_true rfl)) wd_W_told_31 ⟨Nat.le_of_ble_eq_true rfl, Nat.le_of_ble_eq_true rfl⟩) hD hS hA (fun H locs hP hD hS => ?_)
      refine W.widen (k := 2) (n := 12) (by decide) (by decide) ?_
      refine wz_ret ?_
      exact wx_iretx hx hb hr hlocks hf hP hS wd_W_told_34
  · have hf := wc_f c3 hf
    exact wz_throw (k := 0) (ik := 68) (ic := 72) hx hb htr hown hts hC wt_380 wt_14 (List.mem_of_getElem? (i := 15) rfl) wa_0_72 hS (hl.1.trans hml.symm) wd_W_told_9 wd_W_told_12 wd_W_told_13 wd_W_told_15 wd_W_told_18 ht (Nat.le_of_ble_eq_true rfl) (Nat.le_of_ble_eq_true rfl) (Nat.le_of_ble_eq_true rfl) (Nat.le_of_ble_eq_true rfl) hlocks hP (Option.some.inj hf) (Nat.le_of_ble_eq_true rfl) (Nat.le_of_ble_eq_true rfl)
set_option maxHeartbeats 4000000 in
set_option maxRecDepth 100000 in
theorem wm_W_change (l : Launch) (D : va_G) (ad : Nat → Nat) (cI cZ cJ cG : ClassId) (htr : l.stackTraces = false) (sz : Nat) (a1 : Int32) (σ : wc_S) (res : wc_X (Int32 × wc_S)) (hf : wf_W_change a1 σ = some res) : wz_Met l wy_W_change (wx_ws_W_change) ({ frames := 8, cells := 2, slots := 12, locals := 131 }) (va_Pc [.ref (ad 0), .int a1] (wx_pre D ad cI cZ cJ cG σ sz)) (wx_Qix D ad cI cZ cJ cG res (va_A (wx_W ad cI cZ cJ cG σ) sz)) (wx_XC D ad cI cZ cJ cG res (va_A (wx_W ad cI cZ cJ cG σ) sz)) 2 12 (va_A (wx_W ad cI cZ cJ cG σ) sz) := by
  refine wx_ofX (cc := prog_1_method_12_code) (maxL := 2) (ret := (some .boolean)) (Qc := fun A => wx_Qix D ad cI cZ cJ cG res A) (XC := fun A => wx_XC D ad cI cZ cJ cG res A) [.ref (ad 0), .int a1] (by decide) rfl (Nat.le_of_ble_eq_true rfl) ?_
  intro p e s m args below meth c A ls hin ht hl
  obtain ⟨hx, hb, hr, hts, hown, hlocks, hml, hA, hP, hK, hD, hC, hN, hS⟩ := hin
  have hl : lv_has ls 2 [(0, .ref (ad 0)), (1, .int a1)] := hl
  unfold wf_W_change at hf
  refine lv_aload_n hx hb wd_W_change_0 rfl (lv_at hl 0 rfl) ?_
  obtain ⟨q, hq, hf⟩ := wc_bx_e hf
  refine wx_callvx (wz_runV (As := []) (rest := []) ⟨hx, hb, hml, hown, hts⟩ (wm_W_requireOrder l D ad cI cZ cJ cG htr _ σ _ hq) (wx_cwV 0 hts wt_555 wt_554 wp_25 wt_1 wt_552 wh_W_requireOrder rfl rfl ⟨Nat.le_of_ble_eq_true rfl, Nat.le_of_ble_eq_true rfl⟩) (wx_preV hK hP hD hS hA hC (by decide) rfl rfl) rfl rfl hl.1 rfl (lv_room (Nat.le_of_ble_eq_true rfl)) wd_W_change_1 ⟨Nat.le_of_ble_eq_true rfl, Nat.le_of_ble_eq_true rfl⟩) hD hS hA (fun E q9 ce k9 σ1 H locs e9 hE hP hD hS hc1 hc2 hc3 => ?_) (fun σ1 H locs e9 hP hD hS => ?_)
  · subst e9; exact wx_outx ht hlocks hc1 hc2 hc3 hE (wc_bx_l hf) hP hS (by decide) (by decide)
  subst e9; have hf := wc_bx_r hf
  refine W.widen (k := 1) (n := 6) (by decide) (by decide) ?_
  refine lv_aload_n hx hb wd_W_change_4 rfl (lv_at hl 0 rfl) ?_
  refine lv_iload_n hx hb wd_W_change_5 rfl (lv_at hl 1 rfl) ?_
  obtain ⟨q, hq, hf⟩ := wc_bx_e hf
  refine wx_callvx (wz_runV (As := [.int a1]) (rest := []) ⟨hx, hb, hml, hown, hts⟩ (wm_W_requirePlace l D ad cI cZ cJ cG htr _ a1 σ1 _ hq) (wx_cwV 1 hts wt_560 wt_559 wp_26 wt_1 wt_557 wh_W_requirePlace rfl rfl ⟨Nat.le_of_ble_eq_true rfl, Nat.le_of_ble_eq_true rfl⟩) (wx_preV hK hP hD hS hA hC (by decide) rfl rfl) rfl rfl hl.1 rfl (lv_room (Nat.le_of_ble_eq_true rfl)) wd_W_change_6 ⟨Nat.le_of_ble_eq_true rfl, Nat.le_of_ble_eq_true rfl⟩) hD hS hA (fun E q9 ce k9 σ2 H locs e9 hE hP hD hS hc1 hc2 hc3 => ?_) (fun σ2 H locs e9 hP hD hS => ?_)
  · subst e9; exact wx_outx ht hlocks hc1 hc2 hc3 hE (wc_bx_l hf) hP hS (by decide) (by decide)
  subst e9; have hf := wc_bx_r hf
  refine W.widen (k := 2) (n := 12) (by decide) (by decide) ?_
  refine lv_aload_n hx hb wd_W_change_9 rfl (lv_at hl 0 rfl) ?_
  refine wx_get (v := .ref (ad 49)) (C := "WidthCampaigns") (T := wx_TW) (N' := 7) hx hb hts wi_W hown hK hP 0 (by decide) rfl rfl 2 (by decide) wt_221 (fun _ h9 => h9) rfl wd_W_change_10 ?_
  refine wx_getN (v := .ref (ad 52)) (C := "WidthCampaigns$Line") (T := wx_TL) (N' := 10) hx hb hts wi_L hown hK hP 49 (by decide) rfl rfl 3 (by decide) (hN.1 _ (List.mem_of_getElem? (i := 49) rfl) #[]) (fun _ h9 => h9) rfl wd_W_change_13 ?_
  refine lv_iload_n hx hb wd_W_change_16 rfl (lv_at hl 1 rfl) ?_
  obtain ⟨h3, hf⟩ := wc_gd_e hf
  refine wx_zald hx hb hK hP 52 (n := 9) (by decide) rfl (wc_in_e h3) wd_W_change_17 ?_
  refine lv_topi (fun v4 ev4 => ?_)
  have hf := wc_st_e ev4 hf
  obtain ⟨h5, hf⟩ := wc_gd_e hf
  refine wz_ret ?_
  exact wx_zretx hx hb hr (wc_z_e h5) hlocks hf hP hS wd_W_change_18
set_option maxHeartbeats 4000000 in
set_option maxRecDepth 100000 in
theorem wm_W_jump (l : Launch) (D : va_G) (ad : Nat → Nat) (cI cZ cJ cG : ClassId) (htr : l.stackTraces = false) (sz : Nat) (a1 : Int32) (a2 : Int32) (σ : wc_S) (res : wc_X (Int32 × wc_S)) (hf : wf_W_jump a1 a2 σ = some res) : wz_Met l wy_W_jump (wx_ws_W_jump) ({ frames := 7, cells := 1, slots := 6, locals := 110 }) (va_Pc [.ref (ad 0), .int a1, .int a2] (wx_pre D ad cI cZ cJ cG σ sz)) (wx_Qix D ad cI cZ cJ cG res (va_A (wx_W ad cI cZ cJ cG σ) sz)) (wx_XC D ad cI cZ cJ cG res (va_A (wx_W ad cI cZ cJ cG σ) sz)) 1 6 (va_A (wx_W ad cI cZ cJ cG σ) sz) := by
  refine wx_ofX (cc := prog_1_method_13_code) (maxL := 3) (ret := (some .int)) (Qc := fun A => wx_Qix D ad cI cZ cJ cG res A) (XC := fun A => wx_XC D ad cI cZ cJ cG res A) [.ref (ad 0), .int a1, .int a2] (by decide) rfl (Nat.le_of_ble_eq_true rfl) ?_
  intro p e s m args below meth c A ls hin ht hl
  obtain ⟨hx, hb, hr, hts, hown, hlocks, hml, hA, hP, hK, hD, hC, hN, hS⟩ := hin
  have hl : lv_has ls 3 [(0, .ref (ad 0)), (1, .int a1), (2, .int a2)] := hl
  have J21 : ∀ (σ : wc_S), wf_W_jump_21  σ = some res → wx_Arr p l e ({ frames := 7, cells := 1, slots := 6, locals := 110 }) s m args below meth c D ad cI cZ cJ cG A (wz_MQ below (wx_Qix D ad cI cZ cJ cG res A) (wx_XC D ad cI cZ cJ cG res A) args s 1 6 A) 3 0 0 21 [] [] σ := by
    intro   σ hf H locs ls hP hD hS hl
    unfold wf_W_jump_21 at hf
    exact wz_throw (k := 0) (ik := 68) (ic := 72) hx hb htr hown hts hC wt_380 wt_14 (List.mem_of_getElem? (i := 16) rfl) wa_0_72 hS (hl.1.trans hml.symm) wd_W_jump_21 wd_W_jump_24 wd_W_jump_25 wd_W_jump_27 wd_W_jump_30 ht (Nat.le_of_ble_eq_true rfl) (Nat.le_of_ble_eq_true rfl) (Nat.le_of_ble_eq_true rfl) (Nat.le_of_ble_eq_true rfl) hlocks hP (Option.some.inj hf) (Nat.le_of_ble_eq_true rfl) (Nat.le_of_ble_eq_true rfl)
  unfold wf_W_jump at hf
  refine lv_aload_n hx hb wd_W_jump_0 rfl (lv_at hl 0 rfl) ?_
  refine lv_iload_n hx hb wd_W_jump_1 rfl (lv_at hl 1 rfl) ?_
  obtain ⟨r2, σ1, hq, hf⟩ := wc_b2_e hf
  refine wx_calli (va_runV (As := [.int a1]) (rest := []) ⟨hx, hb, hml, hown, hts⟩ (wm_W_isNoCoil l D ad cI cZ cJ cG _ a1 σ _ hq) (wx_cwV 1 hts wt_426 wt_425 wp_9 wt_1 wt_423 wh_W_isNoCoil rfl rfl ⟨Nat.le_of_ble_eq_true rfl, Nat.le_of_ble_eq_true rfl⟩) (wx_preV hK hP hD hS hA hC (by decide) rfl rfl) rfl rfl hl.1 rfl (lv_room (Nat.le_of_ble_eq_true rfl)) wd_W_jump_2 ⟨Nat.le_of_ble_eq_true rfl, Nat.le_of_ble_eq_true rfl⟩) hD hS hA (fun H locs hP hD hS => ?_)
  refine lv_if_ne (tgt := 21) hx hb wd_W_jump_5 (by decide) (fun c3 => ?_) (fun c3 => ?_)
  · have hf := wc_f c3 hf
    exact J21  σ1 hf _ _ _ hP hD hS (lv_sub hl [] rfl)
  · have hf := wc_t c3 hf
    refine lv_aload_n hx hb wd_W_jump_8 rfl (lv_at hl 0 rfl) ?_
    refine lv_iload_n hx hb wd_W_jump_9 rfl (lv_at hl 2 rfl) ?_
    obtain ⟨r5, σ4, hq, hf⟩ := wc_b2_e hf
    refine wx_calli (va_runV (As := [.int a2]) (rest := []) ⟨hx, hb, hml, hown, hts⟩ (wm_W_isNoCoil l D ad cI cZ cJ cG _ a2 σ1 _ hq) (wx_cwV 1 hts wt_426 wt_425 wp_9 wt_1 wt_423 wh_W_isNoCoil rfl rfl ⟨Nat.le_of_ble_eq_true rfl, Nat.le_of_ble_eq_true rfl⟩) (wx_preV hK hP hD hS hA hC (by decide) rfl rfl) rfl rfl hl.1 rfl (lv_room (Nat.le_of_ble_eq_true rfl)) wd_W_jump_10 ⟨Nat.le_of_ble_eq_true rfl, Nat.le_of_ble_eq_true rfl⟩) hD hS hA (fun H locs hP hD hS => ?_)
    refine lv_if_ne (tgt := 21) hx hb wd_W_jump_13 (by decide) (fun c6 => ?_) (fun c6 => ?_)
    · have hf := wc_f c6 hf
      exact J21  σ4 hf _ _ _ hP hD hS (lv_sub hl [] rfl)
    · have hf := wc_t c6 hf
      refine lv_iload_n hx hb wd_W_jump_16 rfl (lv_at hl 1 rfl) ?_
      refine lv_iload_n hx hb wd_W_jump_17 rfl (lv_at hl 2 rfl) ?_
      refine lv_icmp_ne (tgt := 31) hx hb wd_W_jump_18 (by decide) (fun c7 => ?_) (fun c7 => ?_)
      · have hf := wc_f c7 hf
        refine lv_aload_n hx hb wd_W_jump_31 rfl (lv_at hl 0 rfl) ?_
        refine wx_get (v := .ref (ad 1)) (C := "WidthCampaigns") (T := wx_TW) (N' := 7) hx hb hts wi_W hown hK hP 0 (by decide) rfl rfl 0 (by decide) wt_219 (fun _ h9 => h9) rfl wd_W_jump_32 ?_
        refine wx_getN (v := .ref (ad 8)) (C := "WidthCampaigns$Plant") (T := wx_TP) (N' := 15) hx hb hts wi_P hown hK hP 1 (by decide) rfl rfl 6 (by decide) (hN.1 _ (List.mem_of_getElem? (i := 50) rfl) #[]) (fun _ h9 => h9) rfl wd_W_jump_35 ?_
        refine lv_iload_n hx hb wd_W_jump_38 rfl (lv_at hl 1 rfl) ?_
        obtain ⟨h8, hf⟩ := wc_gd_e hf
        refine wx_aald (bs := 9) hx hb hK hP 8 (n := 9) (by decide) rfl h8 wd_W_jump_39 ?_
        refine lv_iload_n hx hb wd_W_jump_40 rfl (lv_at hl 2 rfl) ?_
        obtain ⟨h9, hf⟩ := wc_gd_e hf
        refine wx_iald hx hb hK hP (9 + a1.toNatClampNeg) (n := 9) (wx_g8l h8) (wx_g8 h8 _) (wc_in_e h9) wd_W_jump_41 ?_
        refine lv_topi (fun v10 ev10 => ?_)
        have hf := wc_st_e ev10 hf
        refine W.widen (k := 1) (n := 6) (by decide) (by decide) ?_
        refine wz_ret ?_
        exact wx_iretx hx hb hr hlocks hf hP hS wd_W_jump_42
      · have hf := wc_t c7 hf
        exact J21  σ4 hf _ _ _ hP hD hS (lv_sub hl [] rfl)
set_option maxHeartbeats 4000000 in
set_option maxRecDepth 100000 in
theorem wm_W_tell (l : Launch) (D : va_G) (ad : Nat → Nat) (cI cZ cJ cG : ClassId) (htr : l.stackTraces = false) (sz : Nat) (a1 : Int64) (σ : wc_S) (res : wc_X wc_S) (hf : wf_W_tell a1 σ = some res) : wz_Met l wy_W_tell (wx_ws_W_tell) ({ frames := 7, cells := 1, slots := 6, locals := 110 }) (va_Pc [.ref (ad 0), .long a1] (wx_pre D ad cI cZ cJ cG σ sz)) (wx_Qvx D ad cI cZ cJ cG res (va_A (wx_W ad cI cZ cJ cG σ) sz)) (wx_XC D ad cI cZ cJ cG res (va_A (wx_W ad cI cZ cJ cG σ) sz)) 1 6 (va_A (wx_W ad cI cZ cJ cG σ) sz) := by
  refine wx_ofX (cc := prog_1_method_15_code) (maxL := 3) (ret := none) (Qc := fun A => wx_Qvx D ad cI cZ cJ cG res A) (XC := fun A => wx_XC D ad cI cZ cJ cG res A) [.ref (ad 0), .long a1] (by decide) rfl (Nat.le_of_ble_eq_true rfl) ?_
  intro p e s m args below meth c A ls hin ht hl
  obtain ⟨hx, hb, hr, hts, hown, hlocks, hml, hA, hP, hK, hD, hC, hN, hS⟩ := hin
  have hl : lv_has ls 3 [(0, .ref (ad 0)), (1, .long a1)] := hl
  unfold wf_W_tell at hf
  refine lv_aload_n hx hb wd_W_tell_0 rfl (lv_at hl 0 rfl) ?_
  refine lv_lload_n hx hb wd_W_tell_1 rfl (lv_at hl 1 rfl) ?_
  obtain ⟨r2, σ1, hq, hf⟩ := wc_b2_e hf
  refine wx_calli (va_runV (As := [.long a1]) (rest := []) ⟨hx, hb, hml, hown, hts⟩ (wm_W_readIntoScratch l D ad cI cZ cJ cG _ a1 σ _ hq) (wx_cwV 1 hts wt_604 wt_603 wp_29 wt_1 wt_601 wh_W_readIntoScratch rfl rfl ⟨Nat.le_of_ble_eq_true rfl, Nat.le_of_ble_eq_true rfl⟩) (wx_preV hK hP hD hS hA hC (by decide) rfl rfl) rfl rfl hl.1 rfl (lv_room (Nat.le_of_ble_eq_true rfl)) wd_W_tell_2 ⟨Nat.le_of_ble_eq_true rfl, Nat.le_of_ble_eq_true rfl⟩) hD hS hA (fun H locs hP hD hS => ?_)
  refine lv_if_ne (tgt := 18) hx hb wd_W_tell_5 (by decide) (fun c3 => ?_) (fun c3 => ?_)
  · have hf := wc_f c3 hf
    refine lv_aload_n hx hb wd_W_tell_18 rfl (lv_at hl 0 rfl) ?_
    refine wx_get (v := .ref (ad 30)) (C := "WidthCampaigns") (T := wx_TW) (N' := 7) hx hb hts wi_W hown hK hP 0 (by decide) rfl rfl 1 (by decide) wt_220 (fun _ h9 => h9) rfl wd_W_tell_19 ?_
    refine lv_aload_n hx hb wd_W_tell_22 rfl (lv_at hl 0 rfl) ?_
    refine wx_get (v := .ref (ad 70)) (C := "WidthCampaigns") (T := wx_TW) (N' := 7) hx hb hts wi_W hown hK hP 0 (by decide) rfl rfl 4 (by decide) wt_223 (fun _ h9 => h9) rfl wd_W_tell_23 ?_
    obtain ⟨r5, σ4, hq, hf⟩ := wc_b2_e hf
    refine wx_calli (va_runVN (As := [.ref (ad 70)]) (rest := []) ⟨hx, hb, hml, hown, hts⟩ (wm_L_layAll l D ad cI cZ cJ cG _ 30 (Or.inl rfl) 70 (Or.inr rfl) σ1 _ hq) (wx_cwN 1 hts wt_517 wt_516 wp_24 wt_5 (hN.1 _ (List.mem_of_getElem? (i := 26) rfl) #[]) wh_L_layAll rfl rfl ⟨Nat.le_of_ble_eq_true rfl, Nat.le_of_ble_eq_true rfl⟩) (wx_preV hK hP hD hS hA hC (by decide) rfl rfl) rfl rfl hl.1 rfl (lv_room (Nat.le_of_ble_eq_true rfl)) wd_W_tell_26 ⟨Nat.le_of_ble_eq_true rfl, Nat.le_of_ble_eq_true rfl⟩) hD hS hA (fun H locs hP hD hS => ?_)
    refine lv_if_ne (tgt := 42) hx hb wd_W_tell_29 (by decide) (fun c6 => ?_) (fun c6 => ?_)
    · have hf := wc_f c6 hf
      refine lv_aload_n hx hb wd_W_tell_42 rfl (lv_at hl 0 rfl) ?_
      refine wx_get (v := .ref (ad 49)) (C := "WidthCampaigns") (T := wx_TW) (N' := 7) hx hb hts wi_W hown hK hP 0 (by decide) rfl rfl 2 (by decide) wt_221 (fun _ h9 => h9) rfl wd_W_tell_43 ?_
      refine lv_aload_n hx hb wd_W_tell_46 rfl (lv_at hl 0 rfl) ?_
      refine wx_get (v := .ref (ad 70)) (C := "WidthCampaigns") (T := wx_TW) (N' := 7) hx hb hts wi_W hown hK hP 0 (by decide) rfl rfl 4 (by decide) wt_223 (fun _ h9 => h9) rfl wd_W_tell_47 ?_
      obtain ⟨r8, σ7, hq, hf⟩ := wc_b2_e hf
      refine wx_calli (va_runVN (As := [.ref (ad 70)]) (rest := []) ⟨hx, hb, hml, hown, hts⟩ (wm_L_layAll l D ad cI cZ cJ cG _ 49 (Or.inr rfl) 70 (Or.inr rfl) σ4 _ hq) (wx_cwN 1 hts wt_517 wt_516 wp_24 wt_5 (hN.1 _ (List.mem_of_getElem? (i := 26) rfl) #[]) wh_L_layAll rfl rfl ⟨Nat.le_of_ble_eq_true rfl, Nat.le_of_ble_eq_true rfl⟩) (wx_preV hK hP hD hS hA hC (by decide) rfl rfl) rfl rfl hl.1 rfl (lv_room (Nat.le_of_ble_eq_true rfl)) wd_W_tell_50 ⟨Nat.le_of_ble_eq_true rfl, Nat.le_of_ble_eq_true rfl⟩) hD hS hA (fun H locs hP hD hS => ?_)
      refine lv_pop hx hb wd_W_tell_53 rfl ?_
      refine lv_aload_n hx hb wd_W_tell_54 rfl (lv_at hl 0 rfl) ?_
      refine lv_iconst (v := 1) hx hb wd_W_tell_55 (by decide) ?_
      refine wx_put (x := 1) (ty := .boolean) (C := "WidthCampaigns") (T := wx_TW) (N' := 7) hx hb hts wi_W wx_tW wx_toW wx_nW hown hK hP hD hS 0 (by decide) (fun _ => rfl) rfl 5 (by decide) wt_224 (fun _ h9 => h9) rfl (by decide +kernel) narrow_b1 rfl (Nat.le_of_ble_eq_true rfl) rfl wd_W_tell_56 (fun σ9 H locs eσ9 hP hD hS => ?_)
      have hf := wc_st_e eσ9 hf
      refine W.widen (k := 1) (n := 6) (by decide) (by decide) ?_
      refine wz_ret ?_
      exact wx_vretx hx hb hr hlocks hf hP hS wd_W_tell_59
    · have hf := wc_t c6 hf
      exact wz_throw (k := 3) (ik := 56) (ic := 60) hx hb htr hown hts hC wt_333 wt_12 (List.mem_of_getElem? (i := 17) rfl) wa_3_60 hS (hl.1.trans hml.symm) wd_W_tell_32 wd_W_tell_35 wd_W_tell_36 wd_W_tell_38 wd_W_tell_41 ht (Nat.le_of_ble_eq_true rfl) (Nat.le_of_ble_eq_true rfl) (Nat.le_of_ble_eq_true rfl) (Nat.le_of_ble_eq_true rfl) hlocks hP (Option.some.inj hf) (Nat.le_of_ble_eq_true rfl) (Nat.le_of_ble_eq_true rfl)
  · have hf := wc_t c3 hf
    exact wz_throw (k := 0) (ik := 68) (ic := 72) hx hb htr hown hts hC wt_380 wt_14 (List.mem_of_getElem? (i := 18) rfl) wa_0_72 hS (hl.1.trans hml.symm) wd_W_tell_8 wd_W_tell_11 wd_W_tell_12 wd_W_tell_14 wd_W_tell_17 ht (Nat.le_of_ble_eq_true rfl) (Nat.le_of_ble_eq_true rfl) (Nat.le_of_ble_eq_true rfl) (Nat.le_of_ble_eq_true rfl) hlocks hP (Option.some.inj hf) (Nat.le_of_ble_eq_true rfl) (Nat.le_of_ble_eq_true rfl)
set_option maxHeartbeats 4000000 in
set_option maxRecDepth 100000 in
theorem wm_W_improve (l : Launch) (D : va_G) (ad : Nat → Nat) (cI cZ cJ cG : ClassId) (htr : l.stackTraces = false) (sz : Nat) (a1 : Int32) (σ : wc_S) (res : wc_X (Int32 × wc_S)) (hf : wf_W_improve a1 σ = some res) : wz_Met l wy_W_improve (wx_ws_W_improve) ({ frames := 8, cells := 2, slots := 12, locals := 136 }) (va_Pc [.ref (ad 0), .int a1] (wx_pre D ad cI cZ cJ cG σ sz)) (wx_Qix D ad cI cZ cJ cG res (va_A (wx_W ad cI cZ cJ cG σ) sz)) (wx_XC D ad cI cZ cJ cG res (va_A (wx_W ad cI cZ cJ cG σ) sz)) 2 12 (va_A (wx_W ad cI cZ cJ cG σ) sz) := by
  refine wx_ofX (cc := prog_1_method_16_code) (maxL := 3) (ret := (some .int)) (Qc := fun A => wx_Qix D ad cI cZ cJ cG res A) (XC := fun A => wx_XC D ad cI cZ cJ cG res A) [.ref (ad 0), .int a1] (by decide) rfl (Nat.le_of_ble_eq_true rfl) ?_
  intro p e s m args below meth c A ls hin ht hl
  obtain ⟨hx, hb, hr, hts, hown, hlocks, hml, hA, hP, hK, hD, hC, hN, hS⟩ := hin
  have hl : lv_has ls 3 [(0, .ref (ad 0)), (1, .int a1)] := hl
  have J26 : ∀ (n : Nat) (x1 : Int32) (x2 : Int32) (σ : wc_S), wf_W_improve_26 n x1 x2 σ = some res → wx_Arr p l e ({ frames := 8, cells := 2, slots := 12, locals := 136 }) s m args below meth c D ad cI cZ cJ cG A (wz_MQ below (wx_Qix D ad cI cZ cJ cG res A) (wx_XC D ad cI cZ cJ cG res A) args s 2 12 A) 3 1 6 26 [(0, .ref (ad 0)), (1, .int x1), (2, .int x2)] [] σ := by
    intro  n
    induction n with
    | zero => intro x1 x2 σ hf; exact absurd hf (by intro h9; cases h9)
    | succ n hk26 =>
      intro x1 x2 σ hf H locs ls hP hD hS hl
      have hf : wf_W_improve_26_b (wf_W_improve_26 n) x1 x2 σ = some res := hf
      unfold wf_W_improve_26_b at hf
      refine lv_iload_n hx hb wd_W_improve_26 rfl (lv_at hl 2 rfl) ?_
      refine lv_iload_n hx hb wd_W_improve_27 rfl (lv_at hl 1 rfl) ?_
      refine lv_icmp_ge (tgt := 44) hx hb wd_W_improve_28 (by decide) (fun c5 => ?_) (fun c5 => ?_)
      · have hf := wc_t c5 hf
        refine lv_iload_n hx hb wd_W_improve_44 rfl (lv_at hl 2 rfl) ?_
        refine W.widen (k := 2) (n := 12) (by decide) (by decide) ?_
        refine wz_ret ?_
        exact wx_iretx hx hb hr hlocks hf hP hS wd_W_improve_45
      · have hf := wc_f c5 hf
        refine lv_aload_n hx hb wd_W_improve_31 rfl (lv_at hl 0 rfl) ?_
        obtain ⟨r7, σ6, hq, hf⟩ := wc_b2_e hf
        refine wx_calli (va_runV (As := []) (rest := []) ⟨hx, hb, hml, hown, hts⟩ (wm_W_takeFirstBetterPair l D ad cI cZ cJ cG _ σ _ hq) (wx_cwV 0 hts wt_618 wt_617 wp_30 wt_1 wt_615 wh_W_takeFirstBetterPair rfl rfl ⟨Nat.le_of_ble_eq_true rfl, Nat.le_of_ble_eq_true rfl⟩) (wx_preV hK hP hD hS hA hC (by decide) rfl rfl) rfl rfl hl.1 rfl (lv_room (Nat.le_of_ble_eq_true rfl)) wd_W_improve_32 ⟨Nat.le_of_ble_eq_true rfl, Nat.le_of_ble_eq_true rfl⟩) hD hS hA (fun H locs hP hD hS => ?_)
        refine lv_if_eq (tgt := 44) hx hb wd_W_improve_35 (by decide) (fun c8 => ?_) (fun c8 => ?_)
        · have hf := wc_t c8 hf
          refine lv_iload_n hx hb wd_W_improve_44 rfl (lv_at hl 2 rfl) ?_
          refine W.widen (k := 2) (n := 12) (by decide) (by decide) ?_
          refine wz_ret ?_
          exact wx_iretx hx hb hr hlocks hf hP hS wd_W_improve_45
        · have hf := wc_f c8 hf
          obtain ⟨v9, ev9⟩ : ∃ y : Int32, y = x2 + 1 := ⟨_, rfl⟩
          have hf := wc_st_e ev9 hf
          refine lv_iinc (v := v9) (lv' := [(2, .int v9), (0, .ref (ad 0)), (1, .int x1)]) hx hb wd_W_improve_38 hl (k := 2) rfl (by rw [ev9]; rfl) (by decide) rfl (fun ls hl => ?_)
          refine lv_goto (tgt := 26) hx hb wd_W_improve_41 (by decide) ?_
          exact hk26 x1 v9 σ6 hf _ _ _ hP hD hS (lv_sub hl [1, 2, 0] rfl)
  unfold wf_W_improve at hf
  refine lv_aload_n hx hb wd_W_improve_0 rfl (lv_at hl 0 rfl) ?_
  obtain ⟨q, hq, hf⟩ := wc_bx_e hf
  refine wx_callvx (wz_runV (As := []) (rest := []) ⟨hx, hb, hml, hown, hts⟩ (wm_W_requireOrder l D ad cI cZ cJ cG htr _ σ _ hq) (wx_cwV 0 hts wt_555 wt_554 wp_25 wt_1 wt_552 wh_W_requireOrder rfl rfl ⟨Nat.le_of_ble_eq_true rfl, Nat.le_of_ble_eq_true rfl⟩) (wx_preV hK hP hD hS hA hC (by decide) rfl rfl) rfl rfl hl.1 rfl (lv_room (Nat.le_of_ble_eq_true rfl)) wd_W_improve_1 ⟨Nat.le_of_ble_eq_true rfl, Nat.le_of_ble_eq_true rfl⟩) hD hS hA (fun E q9 ce k9 σ1 H locs e9 hE hP hD hS hc1 hc2 hc3 => ?_) (fun σ1 H locs e9 hP hD hS => ?_)
  · subst e9; exact wx_outx ht hlocks hc1 hc2 hc3 hE (wc_bx_l hf) hP hS (by decide) (by decide)
  subst e9; have hf := wc_bx_r hf
  refine W.widen (k := 1) (n := 6) (by decide) (by decide) ?_
  refine lv_iload_n hx hb wd_W_improve_4 rfl (lv_at hl 1 rfl) ?_
  refine lv_iconst (v := 0) hx hb wd_W_improve_5 (by decide) ?_
  refine lv_bipush (v := 100) hx hb wd_W_improve_6 (by decide) ?_
  obtain ⟨r3, σ2, hq, hf⟩ := wc_b2_e hf
  refine wx_calli (va_runS (As := [.int a1, .int 0, .int 100]) (rest := []) ⟨hx, hb, hml, hown, hts⟩ (wm_W_isOutside l D ad cI cZ cJ cG _ a1 0 100 σ1 _ hq) (wx_cwS 3 hts wt_263 wt_262 wt_1 wt_261 wh_W_isOutside rfl rfl ⟨Nat.le_of_ble_eq_true rfl, Nat.le_of_ble_eq_true rfl⟩) (wx_preS hK hP hD hS hA hC) rfl rfl hl.1 rfl (lv_room (Nat.le_of_ble_eq_true rfl)) wd_W_improve_8 ⟨Nat.le_of_ble_eq_true rfl, Nat.le_of_ble_eq_true rfl⟩) hD hS hA (fun H locs hP hD hS => ?_)
  refine lv_if_eq (tgt := 24) hx hb wd_W_improve_11 (by decide) (fun c4 => ?_) (fun c4 => ?_)
  · have hf := wc_t c4 hf
    refine lv_iconst (v := 0) hx hb wd_W_improve_24 (by decide) ?_
    refine lv_istore_n (lv' := [(2, .int 0), (0, .ref (ad 0)), (1, .int a1)]) hx hb wd_W_improve_25 rfl hl (by decide) rfl (fun ls hl => ?_)
    exact J26 128 a1 0 σ2 hf _ _ _ hP hD hS (lv_sub hl [1, 2, 0] rfl)
  · have hf := wc_f c4 hf
    exact wz_throw (k := 2) (ik := 45) (ic := 49) hx hb htr hown hts hC wt_264 wt_11 (List.mem_of_getElem? (i := 19) rfl) wa_2_49 hS (hl.1.trans hml.symm) wd_W_improve_14 wd_W_improve_17 wd_W_improve_18 wd_W_improve_20 wd_W_improve_23 ht (Nat.le_of_ble_eq_true rfl) (Nat.le_of_ble_eq_true rfl) (Nat.le_of_ble_eq_true rfl) (Nat.le_of_ble_eq_true rfl) hlocks hP (Option.some.inj hf) (Nat.le_of_ble_eq_true rfl) (Nat.le_of_ble_eq_true rfl)
