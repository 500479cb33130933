set_option maxHeartbeats 4000000 in
set_option maxRecDepth 100000 in
theorem wm_W_requireOrder (l : Launch) (D : va_G) (ad : Nat → Nat) (cI cZ cJ cG : ClassId) (htr : l.stackTraces = false) (sz : Nat) (σ : wc_S) (res : wc_X wc_S) (hf : wf_W_requireOrder  σ = some res) : wz_Met l wy_W_requireOrder (wx_ws_W_requireOrder) ({ frames := 7, cells := 1, slots := 6, locals := 110 }) (va_Pc [.ref (ad 0)] (wx_pre D ad cI cZ cJ cG σ sz)) (wx_Qvx D ad cI cZ cJ cG res (va_A (wx_W ad cI cZ cJ cG σ) sz)) (wx_XC D ad cI cZ cJ cG res (va_A (wx_W ad cI cZ cJ cG σ) sz)) 1 6 (va_A (wx_W ad cI cZ cJ cG σ) sz) := by
  refine wx_ofX (cc := prog_1_method_20_code) (maxL := 1) (ret := none) (Qc := fun A => wx_Qvx D ad cI cZ cJ cG res A) (XC := fun A => wx_XC D ad cI cZ cJ cG res A) [.ref (ad 0)] (by decide) rfl (Nat.le_of_ble_eq_true rfl) ?_
  intro p e s m args below meth c A ls hin ht hl
  obtain ⟨hx, hb, hr, hts, hown, hlocks, hml, hA, hP, hK, hD, hC, hN, hS⟩ := hin
  have hl : lv_has ls 1 [(0, .ref (ad 0))] := hl
  unfold wf_W_requireOrder at hf
  refine lv_aload_n hx hb wd_W_requireOrder_0 rfl (lv_at hl 0 rfl) ?_
  refine wx_get (v := .int (σ 0 5)) (C := "WidthCampaigns") (T := wx_TW) (N' := 7) hx hb hts wi_W hown hK hP 0 (by decide) rfl rfl 5 (by decide) wt_224 (fun _ h9 => h9) rfl wd_W_requireOrder_1 ?_
  refine lv_topi (fun v1 ev1 => ?_)
  have hf := wc_st_e ev1 hf
  refine lv_if_ne (tgt := 17) hx hb wd_W_requireOrder_4 (by decide) (fun c2 => ?_) (fun c2 => ?_)
  · have hf := wc_f c2 hf
    refine W.widen (k := 1) (n := 6) (by decide) (by decide) ?_
    refine wz_ret ?_
    exact wx_vretx hx hb hr hlocks hf hP hS wd_W_requireOrder_17
  · have hf := wc_t c2 hf
    exact wz_throw (k := 1) (ik := 164) (ic := 168) hx hb htr hown hts hC wt_529 wt_16 (List.mem_of_getElem? (i := 0) rfl) wa_1_168 hS (hl.1.trans hml.symm) wd_W_requireOrder_7 wd_W_requireOrder_10 wd_W_requireOrder_11 wd_W_requireOrder_13 wd_W_requireOrder_16 ht (Nat.le_of_ble_eq_true rfl) (Nat.le_of_ble_eq_true rfl) (Nat.le_of_ble_eq_true rfl) (Nat.le_of_ble_eq_true rfl) hlocks hP (Option.some.inj hf) (Nat.le_of_ble_eq_true rfl) (Nat.le_of_ble_eq_true rfl)
set_option maxHeartbeats 4000000 in
set_option maxRecDepth 100000 in
theorem wm_W_requirePlace (l : Launch) (D : va_G) (ad : Nat → Nat) (cI cZ cJ cG : ClassId) (htr : l.stackTraces = false) (sz : Nat) (a1 : Int32) (σ : wc_S) (res : wc_X wc_S) (hf : wf_W_requirePlace a1 σ = some res) : wz_Met l wy_W_requirePlace (wx_ws_W_requirePlace) ({ frames := 7, cells := 1, slots := 6, locals := 110 }) (va_Pc [.ref (ad 0), .int a1] (wx_pre D ad cI cZ cJ cG σ sz)) (wx_Qvx D ad cI cZ cJ cG res (va_A (wx_W ad cI cZ cJ cG σ) sz)) (wx_XC D ad cI cZ cJ cG res (va_A (wx_W ad cI cZ cJ cG σ) sz)) 1 6 (va_A (wx_W ad cI cZ cJ cG σ) sz) := by
  refine wx_ofX (cc := prog_1_method_21_code) (maxL := 2) (ret := none) (Qc := fun A => wx_Qvx D ad cI cZ cJ cG res A) (XC := fun A => wx_XC D ad cI cZ cJ cG res A) [.ref (ad 0), .int a1] (by decide) rfl (Nat.le_of_ble_eq_true rfl) ?_
  intro p e s m args below meth c A ls hin ht hl
  obtain ⟨hx, hb, hr, hts, hown, hlocks, hml, hA, hP, hK, hD, hC, hN, hS⟩ := hin
  have hl : lv_has ls 2 [(0, .ref (ad 0)), (1, .int a1)] := hl
  unfold wf_W_requirePlace at hf
  refine lv_aload_n hx hb wd_W_requirePlace_0 rfl (lv_at hl 0 rfl) ?_
  refine lv_iload_n hx hb wd_W_requirePlace_1 rfl (lv_at hl 1 rfl) ?_
  obtain ⟨r2, σ1, hq, hf⟩ := wc_b2_e hf
  refine wx_calli (va_runV (As := [.int a1]) (rest := []) ⟨hx, hb, hml, hown, hts⟩ (wm_W_isNoCoil l D ad cI cZ cJ cG _ a1 σ _ hq) (wx_cwV 1 hts wt_426 wt_425 wp_9 wt_1 wt_423 wh_W_isNoCoil rfl rfl ⟨Nat.le_of_ble_eq_true rfl, Nat.le_of_ble_eq_true rfl⟩) (wx_preV hK hP hD hS hA hC (by decide) rfl rfl) rfl rfl hl.1 rfl (lv_room (Nat.le_of_ble_eq_true rfl)) wd_W_requirePlace_2 ⟨Nat.le_of_ble_eq_true rfl, Nat.le_of_ble_eq_true rfl⟩) hD hS hA (fun H locs hP hD hS => ?_)
  refine lv_if_eq (tgt := 18) hx hb wd_W_requirePlace_5 (by decide) (fun c3 => ?_) (fun c3 => ?_)
  · have hf := wc_t c3 hf
    refine W.widen (k := 1) (n := 6) (by decide) (by decide) ?_
    refine wz_ret ?_
    exact wx_vretx hx hb hr hlocks hf hP hS wd_W_requirePlace_18
  · have hf := wc_f c3 hf
    exact wz_throw (k := 0) (ik := 68) (ic := 72) hx hb htr hown hts hC wt_380 wt_14 (List.mem_of_getElem? (i := 1) rfl) wa_0_72 hS (hl.1.trans hml.symm) wd_W_requirePlace_8 wd_W_requirePlace_11 wd_W_requirePlace_12 wd_W_requirePlace_14 wd_W_requirePlace_17 ht (Nat.le_of_ble_eq_true rfl) (Nat.le_of_ble_eq_true rfl) (Nat.le_of_ble_eq_true rfl) (Nat.le_of_ble_eq_true rfl) hlocks hP (Option.some.inj hf) (Nat.le_of_ble_eq_true rfl) (Nat.le_of_ble_eq_true rfl)
set_option maxHeartbeats 4000000 in
set_option maxRecDepth 100000 in
theorem wm_W_coil (l : Launch) (D : va_G) (ad : Nat → Nat) (cI cZ cJ cG : ClassId) (htr : l.stackTraces = false) (sz : Nat) (a1 : Int32) (a2 : Int32) (a3 : Int32) (a4 : Int32) (σ : wc_S) (res : wc_X (Int32 × wc_S)) (hf : wf_W_coil a1 a2 a3 a4 σ = some res) : wz_Met l wy_W_coil (wx_ws_W_coil) ({ frames := 7, cells := 1, slots := 6, locals := 131 }) (va_Pc [.ref (ad 0), .int a1, .int a2, .int a3, .int a4] (wx_pre D ad cI cZ cJ cG σ sz)) (wx_Qix D ad cI cZ cJ cG res (va_A (wx_W ad cI cZ cJ cG σ) sz)) (wx_XC D ad cI cZ cJ cG res (va_A (wx_W ad cI cZ cJ cG σ) sz)) 1 6 (va_A (wx_W ad cI cZ cJ cG σ) sz) := by
  refine wx_ofX (cc := prog_1_method_2_code) (maxL := 5) (ret := (some .int)) (Qc := fun A => wx_Qix D ad cI cZ cJ cG res A) (XC := fun A => wx_XC D ad cI cZ cJ cG res A) [.ref (ad 0), .int a1, .int a2, .int a3, .int a4] (by decide) rfl (Nat.le_of_ble_eq_true rfl) ?_
  intro p e s m args below meth c A ls hin ht hl
  obtain ⟨hx, hb, hr, hts, hown, hlocks, hml, hA, hP, hK, hD, hC, hN, hS⟩ := hin
  have hl : lv_has ls 5 [(0, .ref (ad 0)), (1, .int a1), (2, .int a2), (3, .int a3), (4, .int a4)] := hl
  have J43 : ∀ (σ : wc_S), wf_W_coil_43  σ = some res → wx_Arr p l e ({ frames := 7, cells := 1, slots := 6, locals := 131 }) s m args below meth c D ad cI cZ cJ cG A (wz_MQ below (wx_Qix D ad cI cZ cJ cG res A) (wx_XC D ad cI cZ cJ cG res A) args s 1 6 A) 5 0 0 43 [] [] σ := by
    intro   σ hf H locs ls hP hD hS hl
    unfold wf_W_coil_43 at hf
    exact wz_throw (k := 2) (ik := 45) (ic := 49) hx hb htr hown hts hC wt_264 wt_11 (List.mem_of_getElem? (i := 2) rfl) wa_2_49 hS (hl.1.trans hml.symm) wd_W_coil_43 wd_W_coil_46 wd_W_coil_47 wd_W_coil_49 wd_W_coil_52 ht (Nat.le_of_ble_eq_true rfl) (Nat.le_of_ble_eq_true rfl) (Nat.le_of_ble_eq_true rfl) (Nat.le_of_ble_eq_true rfl) hlocks hP (Option.some.inj hf) (Nat.le_of_ble_eq_true rfl) (Nat.le_of_ble_eq_true rfl)
  unfold wf_W_coil at hf
  refine lv_iload_n hx hb wd_W_coil_0 rfl (lv_at hl 1 rfl) ?_
  refine lv_iconst (v := 1) hx hb wd_W_coil_1 (by decide) ?_
  refine lv_sipush (v := 2000) hx hb wd_W_coil_2 (by decide) ?_
  obtain ⟨r2, σ1, hq, hf⟩ := wc_b2_e hf
  refine wx_calli (va_runS (As := [.int a1, .int 1, .int 2000]) (rest := []) ⟨hx, hb, hml, hown, hts⟩ (wm_W_isOutside l D ad cI cZ cJ cG _ a1 1 2000 σ _ hq) (wx_cwS 3 hts wt_263 wt_262 wt_1 wt_261 wh_W_isOutside rfl rfl ⟨Nat.le_of_ble_eq_true rfl, Nat.le_of_ble_eq_true rfl⟩) (wx_preS hK hP hD hS hA hC) rfl rfl hl.1 rfl (lv_room (Nat.le_of_ble_eq_true rfl)) wd_W_coil_5 ⟨Nat.le_of_ble_eq_true rfl, Nat.le_of_ble_eq_true rfl⟩) hD hS hA (fun H locs hP hD hS => ?_)
  refine lv_if_ne (tgt := 43) hx hb wd_W_coil_8 (by decide) (fun c3 => ?_) (fun c3 => ?_)
  · have hf := wc_f c3 hf
    exact J43  σ1 hf _ _ _ hP hD hS (lv_sub hl [] rfl)
  · have hf := wc_t c3 hf
    refine lv_iload_n hx hb wd_W_coil_11 rfl (lv_at hl 2 rfl) ?_
    refine lv_iconst (v := 1) hx hb wd_W_coil_12 (by decide) ?_
    refine lv_sipush (v := 1000) hx hb wd_W_coil_13 (by decide) ?_
    obtain ⟨r5, σ4, hq, hf⟩ := wc_b2_e hf
    refine wx_calli (va_runS (As := [.int a2, .int 1, .int 1000]) (rest := []) ⟨hx, hb, hml, hown, hts⟩ (wm_W_isOutside l D ad cI cZ cJ cG _ a2 1 1000 σ1 _ hq) (wx_cwS 3 hts wt_263 wt_262 wt_1 wt_261 wh_W_isOutside rfl rfl ⟨Nat.le_of_ble_eq_true rfl, Nat.le_of_ble_eq_true rfl⟩) (wx_preS hK hP hD hS hA hC) rfl rfl hl.1 rfl (lv_room (Nat.le_of_ble_eq_true rfl)) wd_W_coil_16 ⟨Nat.le_of_ble_eq_true rfl, Nat.le_of_ble_eq_true rfl⟩) hD hS hA (fun H locs hP hD hS => ?_)
    refine lv_if_ne (tgt := 43) hx hb wd_W_coil_19 (by decide) (fun c6 => ?_) (fun c6 => ?_)
    · have hf := wc_f c6 hf
      exact J43  σ4 hf _ _ _ hP hD hS (lv_sub hl [] rfl)
    · have hf := wc_t c6 hf
      refine lv_iload_n hx hb wd_W_coil_22 rfl (lv_at hl 3 rfl) ?_
      refine lv_iconst (v := 0) hx hb wd_W_coil_23 (by decide) ?_
      refine lv_bipush (v := 9) hx hb wd_W_coil_24 (by decide) ?_
      obtain ⟨r8, σ7, hq, hf⟩ := wc_b2_e hf
      refine wx_calli (va_runS (As := [.int a3, .int 0, .int 9]) (rest := []) ⟨hx, hb, hml, hown, hts⟩ (wm_W_isOutside l D ad cI cZ cJ cG _ a3 0 9 σ4 _ hq) (wx_cwS 3 hts wt_263 wt_262 wt_1 wt_261 wh_W_isOutside rfl rfl ⟨Nat.le_of_ble_eq_true rfl, Nat.le_of_ble_eq_true rfl⟩) (wx_preS hK hP hD hS hA hC) rfl rfl hl.1 rfl (lv_room (Nat.le_of_ble_eq_true rfl)) wd_W_coil_26 ⟨Nat.le_of_ble_eq_true rfl, Nat.le_of_ble_eq_true rfl⟩) hD hS hA (fun H locs hP hD hS => ?_)
      refine lv_if_ne (tgt := 43) hx hb wd_W_coil_29 (by decide) (fun c9 => ?_) (fun c9 => ?_)
      · have hf := wc_f c9 hf
        exact J43  σ7 hf _ _ _ hP hD hS (lv_sub hl [] rfl)
      · have hf := wc_t c9 hf
        refine lv_iload hx hb wd_W_coil_32 (lv_at hl 4 rfl) ?_
        refine lv_iconst (v := 1) hx hb wd_W_coil_34 (by decide) ?_
        refine lv_bipush (v := 100) hx hb wd_W_coil_35 (by decide) ?_
        obtain ⟨r11, σ10, hq, hf⟩ := wc_b2_e hf
        refine wx_calli (va_runS (As := [.int a4, .int 1, .int 100]) (rest := []) ⟨hx, hb, hml, hown, hts⟩ (wm_W_isOutside l D ad cI cZ cJ cG _ a4 1 100 σ7 _ hq) (wx_cwS 3 hts wt_263 wt_262 wt_1 wt_261 wh_W_isOutside rfl rfl ⟨Nat.le_of_ble_eq_true rfl, Nat.le_of_ble_eq_true rfl⟩) (wx_preS hK hP hD hS hA hC) rfl rfl hl.1 rfl (lv_room (Nat.le_of_ble_eq_true rfl)) wd_W_coil_37 ⟨Nat.le_of_ble_eq_true rfl, Nat.le_of_ble_eq_true rfl⟩) hD hS hA (fun H locs hP hD hS => ?_)
        refine lv_if_eq (tgt := 53) hx hb wd_W_coil_40 (by decide) (fun c12 => ?_) (fun c12 => ?_)
        · have hf := wc_t c12 hf
          refine lv_aload_n hx hb wd_W_coil_53 rfl (lv_at hl 0 rfl) ?_
          refine wx_get (v := .ref (ad 1)) (C := "WidthCampaigns") (T := wx_TW) (N' := 7) hx hb hts wi_W hown hK hP 0 (by decide) rfl rfl 0 (by decide) wt_219 (fun _ h9 => h9) rfl wd_W_coil_54 ?_
          refine wx_getN (v := .int (σ10 1 10)) (C := "WidthCampaigns$Plant") (T := wx_TP) (N' := 15) hx hb hts wi_P hown hK hP 1 (by decide) rfl rfl 10 (by decide) (hN.1 _ (List.mem_of_getElem? (i := 24) rfl) #[]) (fun _ h9 => h9) rfl wd_W_coil_57 ?_
          refine lv_topi (fun v13 ev13 => ?_)
          have hf := wc_st_e ev13 hf
          refine lv_bipush (v := 9) hx hb wd_W_coil_60 (by decide) ?_
          refine lv_icmp_lt (tgt := 75) hx hb wd_W_coil_62 (by decide) (fun c14 => ?_) (fun c14 => ?_)
          · have hf := wc_t c14 hf
            refine lv_aload_n hx hb wd_W_coil_75 rfl (lv_at hl 0 rfl) ?_
            obtain ⟨σ15, hq, hf⟩ := wc_b1_e hf
            refine wx_callv (va_runV (As := []) (rest := []) ⟨hx, hb, hml, hown, hts⟩ (wm_W_forgetOrder l D ad cI cZ cJ cG _ σ10 _ hq) (wx_cwV 0 hts wt_352 wt_351 wp_2 wt_1 wt_349 wh_W_forgetOrder rfl rfl ⟨Nat.le_of_ble_eq_true rfl, Nat.le_of_ble_eq_true rfl⟩) (wx_preV hK hP hD hS hA hC (by decide) rfl rfl) rfl rfl hl.1 rfl (lv_room (Nat.le_of_ble_eq_true rfl)) wd_W_coil_76 ⟨Nat.le_of_ble_eq_true rfl, Nat.le_of_ble_eq_true rfl⟩) hD hS hA (fun H locs hP hD hS => ?_)
            refine lv_aload_n hx hb wd_W_coil_79 rfl (lv_at hl 0 rfl) ?_
            refine wx_get (v := .ref (ad 1)) (C := "WidthCampaigns") (T := wx_TW) (N' := 7) hx hb hts wi_W hown hK hP 0 (by decide) rfl rfl 0 (by decide) wt_219 (fun _ h9 => h9) rfl wd_W_coil_80 ?_
            refine lv_iload_n hx hb wd_W_coil_83 rfl (lv_at hl 1 rfl) ?_
            refine lv_iload_n hx hb wd_W_coil_84 rfl (lv_at hl 2 rfl) ?_
            refine lv_iload_n hx hb wd_W_coil_85 rfl (lv_at hl 3 rfl) ?_
            refine lv_iload hx hb wd_W_coil_86 (lv_at hl 4 rfl) ?_
            obtain ⟨r17, σ16, hq, hf⟩ := wc_b2_e hf
            refine wx_calli (va_runVN (As := [.int a1, .int a2, .int a3, .int a4]) (rest := []) ⟨hx, hb, hml, hown, hts⟩ (wm_P_addCoil l D ad cI cZ cJ cG _ a1 a2 a3 a4 σ15 _ hq) (wx_cwN 4 hts wt_356 wt_355 wp_3 wt_2 (hN.1 _ (List.mem_of_getElem? (i := 28) rfl) #[]) wh_P_addCoil rfl rfl ⟨Nat.le_of_ble_eq_true rfl, Nat.le_of_ble_eq_true rfl⟩) (wx_preV hK hP hD hS hA hC (by decide) rfl rfl) rfl rfl hl.1 rfl (lv_room (Nat.le_of_ble_eq_true rfl)) wd_W_coil_88 ⟨Nat.le_of_ble_eq_true rfl, Nat.le_of_ble_eq_true rfl⟩) hD hS hA (fun H locs hP hD hS => ?_)
            refine W.widen (k := 1) (n := 6) (by decide) (by decide) ?_
            refine wz_ret ?_
            exact wx_iretx hx hb hr hlocks hf hP hS wd_W_coil_91
          · have hf := wc_f c14 hf
            exact wz_throw (k := 3) (ik := 56) (ic := 60) hx hb htr hown hts hC wt_333 wt_12 (List.mem_of_getElem? (i := 3) rfl) wa_3_60 hS (hl.1.trans hml.symm) wd_W_coil_65 wd_W_coil_68 wd_W_coil_69 wd_W_coil_71 wd_W_coil_74 ht (Nat.le_of_ble_eq_true rfl) (Nat.le_of_ble_eq_true rfl) (Nat.le_of_ble_eq_true rfl) (Nat.le_of_ble_eq_true rfl) hlocks hP (Option.some.inj hf) (Nat.le_of_ble_eq_true rfl) (Nat.le_of_ble_eq_true rfl)
        · have hf := wc_f c12 hf
          exact J43  σ10 hf _ _ _ hP hD hS (lv_sub hl [] rfl)
set_option maxHeartbeats 4000000 in
set_option maxRecDepth 100000 in
theorem wm_W_table (l : Launch) (D : va_G) (ad : Nat → Nat) (cI cZ cJ cG : ClassId) (htr : l.stackTraces = false) (sz : Nat) (a1 : Int32) (a2 : Int32) (a3 : Int32) (a4 : Int32) (σ : wc_S) (res : wc_X (Int32 × wc_S)) (hf : wf_W_table a1 a2 a3 a4 σ = some res) : wz_Met l wy_W_table (wx_ws_W_table) ({ frames := 7, cells := 1, slots := 6, locals := 110 }) (va_Pc [.ref (ad 0), .int a1, .int a2, .int a3, .int a4] (wx_pre D ad cI cZ cJ cG σ sz)) (wx_Qix D ad cI cZ cJ cG res (va_A (wx_W ad cI cZ cJ cG σ) sz)) (wx_XC D ad cI cZ cJ cG res (va_A (wx_W ad cI cZ cJ cG σ) sz)) 1 6 (va_A (wx_W ad cI cZ cJ cG σ) sz) := by
  refine wx_ofX (cc := prog_1_method_3_code) (maxL := 6) (ret := (some .int)) (Qc := fun A => wx_Qix D ad cI cZ cJ cG res A) (XC := fun A => wx_XC D ad cI cZ cJ cG res A) [.ref (ad 0), .int a1, .int a2, .int a3, .int a4] (by decide) rfl (Nat.le_of_ble_eq_true rfl) ?_
  intro p e s m args below meth c A ls hin ht hl
  obtain ⟨hx, hb, hr, hts, hown, hlocks, hml, hA, hP, hK, hD, hC, hN, hS⟩ := hin
  have hl : lv_has ls 6 [(0, .ref (ad 0)), (1, .int a1), (2, .int a2), (3, .int a3), (4, .int a4)] := hl
  have J53 : ∀ (σ : wc_S), wf_W_table_53  σ = some res → wx_Arr p l e ({ frames := 7, cells := 1, slots := 6, locals := 110 }) s m args below meth c D ad cI cZ cJ cG A (wz_MQ below (wx_Qix D ad cI cZ cJ cG res A) (wx_XC D ad cI cZ cJ cG res A) args s 1 6 A) 6 0 0 53 [] [] σ := by
    intro   σ hf H locs ls hP hD hS hl
    unfold wf_W_table_53 at hf
    exact wz_throw (k := 2) (ik := 45) (ic := 49) hx hb htr hown hts hC wt_264 wt_11 (List.mem_of_getElem? (i := 4) rfl) wa_2_49 hS (hl.1.trans hml.symm) wd_W_table_53 wd_W_table_56 wd_W_table_57 wd_W_table_59 wd_W_table_62 ht (Nat.le_of_ble_eq_true rfl) (Nat.le_of_ble_eq_true rfl) (Nat.le_of_ble_eq_true rfl) (Nat.le_of_ble_eq_true rfl) hlocks hP (Option.some.inj hf) (Nat.le_of_ble_eq_true rfl) (Nat.le_of_ble_eq_true rfl)
  have J84 : ∀ (x2 : Int32) (x3 : Int32) (x4 : Int32) (s0_ : Nat) (hs0_ : s0_ = 18 ∨ s0_ = 22) (σ : wc_S), wf_W_table_84 x2 x3 x4 s0_ σ = some res → wx_Arr p l e ({ frames := 7, cells := 1, slots := 6, locals := 110 }) s m args below meth c D ad cI cZ cJ cG A (wz_MQ below (wx_Qix D ad cI cZ cJ cG res A) (wx_XC D ad cI cZ cJ cG res A) args s 1 6 A) 6 0 0 84 [(0, .ref (ad 0)), (2, .int x2), (3, .int x3), (4, .int x4)] [.ref (ad s0_)] σ := by
    intro  x2 x3 x4 s0_ hs0_ σ hf H locs ls hP hD hS hl
    unfold wf_W_table_84 at hf
    refine lv_astore (lv' := [(5, .ref (ad s0_)), (0, .ref (ad 0)), (2, .int x2), (3, .int x3), (4, .int x4)]) hx hb wd_W_table_84 hl (by decide) rfl (fun ls hl => ?_)
    refine lv_aload hx hb wd_W_table_86 (lv_at hl 0 rfl) ?_
    refine wx_getN (v := .int (σ s0_ 3)) (C := "WidthCampaigns$JumpTable") (T := wx_TJ) (N' := 4) hx hb hts wi_J hown hK hP s0_ (wx_Jl0 hs0_) (wx_J0 hs0_ _) rfl 3 (by decide) (hN.1 _ (List.mem_of_getElem? (i := 30) rfl) #[]) (fun _ h9 => h9) rfl wd_W_table_88 ?_
    refine lv_topi (fun v14 ev14 => ?_)
    have hf := wc_st_e ev14 hf
    refine lv_bipush (v := 8) hx hb wd_W_table_91 (by decide) ?_
    refine lv_icmp_lt (tgt := 106) hx hb wd_W_table_93 (by decide) (fun c15 => ?_) (fun c15 => ?_)
    · have hf := wc_t c15 hf
      refine lv_aload_n hx hb wd_W_table_106 rfl (lv_at hl 1 rfl) ?_
      obtain ⟨σ16, hq, hf⟩ := wc_b1_e hf
      refine wx_callv (va_runV (As := []) (rest := []) ⟨hx, hb, hml, hown, hts⟩ (wm_W_forgetOrder l D ad cI cZ cJ cG _ σ _ hq) (wx_cwV 0 hts wt_352 wt_351 wp_2 wt_1 wt_349 wh_W_forgetOrder rfl rfl ⟨Nat.le_of_ble_eq_true rfl, Nat.le_of_ble_eq_true rfl⟩) (wx_preV hK hP hD hS hA hC (by decide) rfl rfl) rfl rfl hl.1 rfl (lv_room (Nat.le_of_ble_eq_true rfl)) wd_W_table_107 ⟨Nat.le_of_ble_eq_true rfl, Nat.le_of_ble_eq_true rfl⟩) hD hS hA (fun H locs hP hD hS => ?_)
      refine lv_aload hx hb wd_W_table_110 (lv_at hl 0 rfl) ?_
      refine lv_iload_n hx hb wd_W_table_112 rfl (lv_at hl 2 rfl) ?_
      refine lv_iload_n hx hb wd_W_table_113 rfl (lv_at hl 3 rfl) ?_
      refine lv_iload hx hb wd_W_table_114 (lv_at hl 4 rfl) ?_
      obtain ⟨σ17, hq, hf⟩ := wc_b1_e hf
      refine wx_callv (va_runVN (As := [.int x2, .int x3, .int x4]) (rest := []) ⟨hx, hb, hml, hown, hts⟩ (wm_J_addRow l D ad cI cZ cJ cG _ s0_ hs0_ x2 x3 x4 σ16 _ hq) (wx_cwN 3 hts wt_401 wt_400 wp_7 wt_3 (hN.1 _ (List.mem_of_getElem? (i := 31) rfl) #[]) wh_J_addRow rfl rfl ⟨Nat.le_of_ble_eq_true rfl, Nat.le_of_ble_eq_true rfl⟩) (wx_preV hK hP hD hS hA hC (wx_Jl0 hs0_) (wx_J0 hs0_ _) rfl) rfl rfl hl.1 rfl (lv_room (Nat.le_of_ble_eq_true rfl)) wd_W_table_116 ⟨Nat.le_of_ble_eq_true rfl, Nat.le_of_ble_eq_true rfl⟩) hD hS hA (fun H locs hP hD hS => ?_)
      refine lv_aload_n hx hb wd_W_table_119 rfl (lv_at hl 1 rfl) ?_
      refine wx_get (v := .ref (ad 1)) (C := "WidthCampaigns") (T := wx_TW) (N' := 7) hx hb hts wi_W hown hK hP 0 (by decide) rfl rfl 0 (by decide) wt_219 (fun _ h9 => h9) rfl wd_W_table_120 ?_
      obtain ⟨σ18, hq, hf⟩ := wc_b1_e hf
      refine wx_callv (va_runVN (As := []) (rest := []) ⟨hx, hb, hml, hown, hts⟩ (wm_P_reckonJumps l D ad cI cZ cJ cG _ σ17 _ hq) (wx_cwN 0 hts wt_360 wt_359 wp_4 wt_2 (hN.1 _ (List.mem_of_getElem? (i := 32) rfl) #[]) wh_P_reckonJumps rfl rfl ⟨Nat.le_of_ble_eq_true rfl, Nat.le_of_ble_eq_true rfl⟩) (wx_preV hK hP hD hS hA hC (by decide) rfl rfl) rfl rfl hl.1 rfl (lv_room (Nat.le_of_ble_eq_true rfl)) wd_W_table_123 ⟨Nat.le_of_ble_eq_true rfl, Nat.le_of_ble_eq_true rfl⟩) hD hS hA (fun H locs hP hD hS => ?_)
      refine lv_aload hx hb wd_W_table_126 (lv_at hl 0 rfl) ?_
      refine wx_getN (v := .int (σ18 s0_ 3)) (C := "WidthCampaigns$JumpTable") (T := wx_TJ) (N' := 4) hx hb hts wi_J hown hK hP s0_ (wx_Jl0 hs0_) (wx_J0 hs0_ _) rfl 3 (by decide) (hN.1 _ (List.mem_of_getElem? (i := 30) rfl) #[]) (fun _ h9 => h9) rfl wd_W_table_128 ?_
      refine lv_topi (fun v19 ev19 => ?_)
      have hf := wc_st_e ev19 hf
      refine W.widen (k := 1) (n := 6) (by decide) (by decide) ?_
      refine wz_ret ?_
      exact wx_iretx hx hb hr hlocks hf hP hS wd_W_table_131
    · have hf := wc_f c15 hf
      exact wz_throw (k := 3) (ik := 56) (ic := 60) hx hb htr hown hts hC wt_333 wt_12 (List.mem_of_getElem? (i := 5) rfl) wa_3_60 hS (hl.1.trans hml.symm) wd_W_table_96 wd_W_table_99 wd_W_table_100 wd_W_table_102 wd_W_table_105 ht (Nat.le_of_ble_eq_true rfl) (Nat.le_of_ble_eq_true rfl) (Nat.le_of_ble_eq_true rfl) (Nat.le_of_ble_eq_true rfl) hlocks hP (Option.some.inj hf) (Nat.le_of_ble_eq_true rfl) (Nat.le_of_ble_eq_true rfl)
  unfold wf_W_table at hf
  refine lv_iload_n hx hb wd_W_table_0 rfl (lv_at hl 1 rfl) ?_
  refine lv_iconst (v := 0) hx hb wd_W_table_1 (by decide) ?_
  refine lv_iconst (v := 1) hx hb wd_W_table_2 (by decide) ?_
  obtain ⟨r2, σ1, hq, hf⟩ := wc_b2_e hf
  refine wx_calli (va_runS (As := [.int a1, .int 0, .int 1]) (rest := []) ⟨hx, hb, hml, hown, hts⟩ (wm_W_isOutside l D ad cI cZ cJ cG _ a1 0 1 σ _ hq) (wx_cwS 3 hts wt_263 wt_262 wt_1 wt_261 wh_W_isOutside rfl rfl ⟨Nat.le_of_ble_eq_true rfl, Nat.le_of_ble_eq_true rfl⟩) (wx_preS hK hP hD hS hA hC) rfl rfl hl.1 rfl (lv_room (Nat.le_of_ble_eq_true rfl)) wd_W_table_3 ⟨Nat.le_of_ble_eq_true rfl, Nat.le_of_ble_eq_true rfl⟩) hD hS hA (fun H locs hP hD hS => ?_)
  refine lv_if_eq (tgt := 19) hx hb wd_W_table_6 (by decide) (fun c3 => ?_) (fun c3 => ?_)
  · have hf := wc_t c3 hf
    refine lv_iload_n hx hb wd_W_table_19 rfl (lv_at hl 2 rfl) ?_
    refine lv_iconst (v := 0) hx hb wd_W_table_20 (by decide) ?_
    refine lv_sipush (v := 1000) hx hb wd_W_table_21 (by decide) ?_
    obtain ⟨r5, σ4, hq, hf⟩ := wc_b2_e hf
    refine wx_calli (va_runS (As := [.int a2, .int 0, .int 1000]) (rest := []) ⟨hx, hb, hml, hown, hts⟩ (wm_W_isOutside l D ad cI cZ cJ cG _ a2 0 1000 σ1 _ hq) (wx_cwS 3 hts wt_263 wt_262 wt_1 wt_261 wh_W_isOutside rfl rfl ⟨Nat.le_of_ble_eq_true rfl, Nat.le_of_ble_eq_true rfl⟩) (wx_preS hK hP hD hS hA hC) rfl rfl hl.1 rfl (lv_room (Nat.le_of_ble_eq_true rfl)) wd_W_table_24 ⟨Nat.le_of_ble_eq_true rfl, Nat.le_of_ble_eq_true rfl⟩) hD hS hA (fun H locs hP hD hS => ?_)
    refine lv_if_ne (tgt := 53) hx hb wd_W_table_27 (by decide) (fun c6 => ?_) (fun c6 => ?_)
    · have hf := wc_f c6 hf
      exact J53  σ4 hf _ _ _ hP hD hS (lv_sub hl [] rfl)
    · have hf := wc_t c6 hf
      refine lv_iload_n hx hb wd_W_table_30 rfl (lv_at hl 3 rfl) ?_
      refine lv_iload_n hx hb wd_W_table_31 rfl (lv_at hl 2 rfl) ?_
      refine lv_sipush (v := 1000) hx hb wd_W_table_32 (by decide) ?_
      obtain ⟨r8, σ7, hq, hf⟩ := wc_b2_e hf
      refine wx_calli (va_runS (As := [.int a3, .int a2, .int 1000]) (rest := []) ⟨hx, hb, hml, hown, hts⟩ (wm_W_isOutside l D ad cI cZ cJ cG _ a3 a2 1000 σ4 _ hq) (wx_cwS 3 hts wt_263 wt_262 wt_1 wt_261 wh_W_isOutside rfl rfl ⟨Nat.le_of_ble_eq_true rfl, Nat.le_of_ble_eq_true rfl⟩) (wx_preS hK hP hD hS hA hC) rfl rfl hl.1 rfl (lv_room (Nat.le_of_ble_eq_true rfl)) wd_W_table_35 ⟨Nat.le_of_ble_eq_true rfl, Nat.le_of_ble_eq_true rfl⟩) hD hS hA (fun H locs hP hD hS => ?_)
      refine lv_if_ne (tgt := 53) hx hb wd_W_table_38 (by decide) (fun c9 => ?_) (fun c9 => ?_)
      · have hf := wc_f c9 hf
        exact J53  σ7 hf _ _ _ hP hD hS (lv_sub hl [] rfl)
      · have hf := wc_t c9 hf
        refine lv_iload hx hb wd_W_table_41 (lv_at hl 4 rfl) ?_
        refine lv_iconst (v := 0) hx hb wd_W_table_43 (by decide) ?_
        refine lv_sipush (v := 10000) hx hb wd_W_table_44 (by decide) ?_
        obtain ⟨r11, σ10, hq, hf⟩ := wc_b2_e hf
        refine wx_calli (va_runS (As := [.int a4, .int 0, .int 10000]) (rest := []) ⟨hx, hb, hml, hown, hts⟩ (wm_W_isOutside l D ad cI cZ cJ cG _ a4 0 10000 σ7 _ hq) (wx_cwS 3 hts wt_263 wt_262 wt_1 wt_261 wh_W_isOutside rfl rfl ⟨Nat.le_of_ble_eq_true rfl, Nat.le_of_ble_eq_true rfl⟩) (wx_preS hK hP hD hS hA hC) rfl rfl hl.1 rfl (lv_room (Nat.le_of_ble_eq_true rfl)) wd_W_table_47 ⟨Nat.le_of_ble_eq_true rfl, Nat.le_of_ble_eq_true rfl⟩) hD hS hA (fun H locs hP hD hS => ?_)
        refine lv_if_eq (tgt := 63) hx hb wd_W_table_50 (by decide) (fun c12 => ?_) (fun c12 => ?_)
        · have hf := wc_t c12 hf
          refine lv_iload_n hx hb wd_W_table_63 rfl (lv_at hl 1 rfl) ?_
          refine lv_if_ne (tgt := 77) hx hb wd_W_table_64 (by decide) (fun c13 => ?_) (fun c13 => ?_)
          · have hf := wc_f c13 hf
            refine lv_aload_n hx hb wd_W_table_77 rfl (lv_at hl 0 rfl) ?_
            refine wx_get (v := .ref (ad 1)) (C := "WidthCampaigns") (T := wx_TW) (N' := 7) hx hb hts wi_W hown hK hP 0 (by decide) rfl rfl 0 (by decide) wt_219 (fun _ h9 => h9) rfl wd_W_table_78 ?_
            refine wx_getN (v := .ref (ad 22)) (C := "WidthCampaigns$Plant") (T := wx_TP) (N' := 15) hx hb hts wi_P hown hK hP 1 (by decide) rfl rfl 8 (by decide) (hN.1 _ (List.mem_of_getElem? (i := 29) rfl) #[]) (fun _ h9 => h9) rfl wd_W_table_81 ?_
            exact J84 a2 a3 a4 22 (Or.inr rfl) σ10 hf _ _ _ hP hD hS (lv_sub hl [0, 2, 3, 4] rfl)
          · have hf := wc_t c13 hf
            refine lv_aload_n hx hb wd_W_table_67 rfl (lv_at hl 0 rfl) ?_
            refine wx_get (v := .ref (ad 1)) (C := "WidthCampaigns") (T := wx_TW) (N' := 7) hx hb hts wi_W hown hK hP 0 (by decide) rfl rfl 0 (by decide) wt_219 (fun _ h9 => h9) rfl wd_W_table_68 ?_
            refine wx_getN (v := .ref (ad 18)) (C := "WidthCampaigns$Plant") (T := wx_TP) (N' := 15) hx hb hts wi_P hown hK hP 1 (by decide) rfl rfl 7 (by decide) (hN.1 _ (List.mem_of_getElem? (i := 33) rfl) #[]) (fun _ h9 => h9) rfl wd_W_table_71 ?_
            refine lv_goto (tgt := 84) hx hb wd_W_table_74 (by decide) ?_
            exact J84 a2 a3 a4 18 (Or.inl rfl) σ10 hf _ _ _ hP hD hS (lv_sub hl [0, 2, 3, 4] rfl)
        · have hf := wc_f c12 hf
          exact J53  σ10 hf _ _ _ hP hD hS (lv_sub hl [] rfl)
  · have hf := wc_f c3 hf
    exact wz_throw (k := 0) (ik := 68) (ic := 72) hx hb htr hown hts hC wt_380 wt_14 (List.mem_of_getElem? (i := 6) rfl) wa_0_72 hS (hl.1.trans hml.symm) wd_W_table_9 wd_W_table_12 wd_W_table_13 wd_W_table_15 wd_W_table_18 ht (Nat.le_of_ble_eq_true rfl) (Nat.le_of_ble_eq_true rfl) (Nat.le_of_ble_eq_true rfl) (Nat.le_of_ble_eq_true rfl) hlocks hP (Option.some.inj hf) (Nat.le_of_ble_eq_true rfl) (Nat.le_of_ble_eq_true rfl)
set_option maxHeartbeats 4000000 in
set_option maxRecDepth 100000 in
theorem wm_W_group (l : Launch) (D : va_G) (ad : Nat → Nat) (cI cZ cJ cG : ClassId) (htr : l.stackTraces = false) (sz : Nat) (a1 : Int32) (a2 : Int32) (a3 : Int32) (σ : wc_S) (res : wc_X (Int32 × wc_S)) (hf : wf_W_group a1 a2 a3 σ = some res) : wz_Met l wy_W_group (wx_ws_W_group) ({ frames := 7, cells := 1, slots := 6, locals := 110 }) (va_Pc [.ref (ad 0), .int a1, .int a2, .int a3] (wx_pre D ad cI cZ cJ cG σ sz)) (wx_Qix D ad cI cZ cJ cG res (va_A (wx_W ad cI cZ cJ cG σ) sz)) (wx_XC D ad cI cZ cJ cG res (va_A (wx_W ad cI cZ cJ cG σ) sz)) 1 6 (va_A (wx_W ad cI cZ cJ cG σ) sz) := by
  refine wx_ofX (cc := prog_1_method_4_code) (maxL := 4) (ret := (some .int)) (Qc := fun A => wx_Qix D ad cI cZ cJ cG res A) (XC := fun A => wx_XC D ad cI cZ cJ cG res A) [.ref (ad 0), .int a1, .int a2, .int a3] (by decide) rfl (Nat.le_of_ble_eq_true rfl) ?_
  intro p e s m args below meth c A ls hin ht hl
  obtain ⟨hx, hb, hr, hts, hown, hlocks, hml, hA, hP, hK, hD, hC, hN, hS⟩ := hin
  have hl : lv_has ls 4 [(0, .ref (ad 0)), (1, .int a1), (2, .int a2), (3, .int a3)] := hl
  have J33 : ∀ (σ : wc_S), wf_W_group_33  σ = some res → wx_Arr p l e ({ frames := 7, cells := 1, slots := 6, locals := 110 }) s m args below meth c D ad cI cZ cJ cG A (wz_MQ below (wx_Qix D ad cI cZ cJ cG res A) (wx_XC D ad cI cZ cJ cG res A) args s 1 6 A) 4 0 0 33 [] [] σ := by
    intro   σ hf H locs ls hP hD hS hl
    unfold wf_W_group_33 at hf
    exact wz_throw (k := 2) (ik := 45) (ic := 49) hx hb htr hown hts hC wt_264 wt_11 (List.mem_of_getElem? (i := 7) rfl) wa_2_49 hS (hl.1.trans hml.symm) wd_W_group_33 wd_W_group_36 wd_W_group_37 wd_W_group_39 wd_W_group_42 ht (Nat.le_of_ble_eq_true rfl) (Nat.le_of_ble_eq_true rfl) (Nat.le_of_ble_eq_true rfl) (Nat.le_of_ble_eq_true rfl) hlocks hP (Option.some.inj hf) (Nat.le_of_ble_eq_true rfl) (Nat.le_of_ble_eq_true rfl)
  unfold wf_W_group at hf
  refine lv_iload_n hx hb wd_W_group_0 rfl (lv_at hl 1 rfl) ?_
  refine lv_iconst (v := 1) hx hb wd_W_group_1 (by decide) ?_
  refine lv_sipush (v := 2000) hx hb wd_W_group_2 (by decide) ?_
  obtain ⟨r2, σ1, hq, hf⟩ := wc_b2_e hf
  refine wx_calli (va_runS (As := [.int a1, .int 1, .int 2000]) (rest := []) ⟨hx, hb, hml, hown, hts⟩ (wm_W_isOutside l D ad cI cZ cJ cG _ a1 1 2000 σ _ hq) (wx_cwS 3 hts wt_263 wt_262 wt_1 wt_261 wh_W_isOutside rfl rfl ⟨Nat.le_of_ble_eq_true rfl, Nat.le_of_ble_eq_true rfl⟩) (wx_preS hK hP hD hS hA hC) rfl rfl hl.1 rfl (lv_room (Nat.le_of_ble_eq_true rfl)) wd_W_group_5 ⟨Nat.le_of_ble_eq_true rfl, Nat.le_of_ble_eq_true rfl⟩) hD hS hA (fun H locs hP hD hS => ?_)
  refine lv_if_ne (tgt := 33) hx hb wd_W_group_8 (by decide) (fun c3 => ?_) (fun c3 => ?_)
  · have hf := wc_f c3 hf
    exact J33  σ1 hf _ _ _ hP hD hS (lv_sub hl [] rfl)
  · have hf := wc_t c3 hf
    refine lv_iload_n hx hb wd_W_group_11 rfl (lv_at hl 2 rfl) ?_
    refine lv_iload_n hx hb wd_W_group_12 rfl (lv_at hl 1 rfl) ?_
    refine lv_sipush (v := 2000) hx hb wd_W_group_13 (by decide) ?_
    obtain ⟨r5, σ4, hq, hf⟩ := wc_b2_e hf
    refine wx_calli (va_runS (As := [.int a2, .int a1, .int 2000]) (rest := []) ⟨hx, hb, hml, hown, hts⟩ (wm_W_isOutside l D ad cI cZ cJ cG _ a2 a1 2000 σ1 _ hq) (wx_cwS 3 hts wt_263 wt_262 wt_1 wt_261 wh_W_isOutside rfl rfl ⟨Nat.le_of_ble_eq_true rfl, Nat.le_of_ble_eq_true rfl⟩) (wx_preS hK hP hD hS hA hC) rfl rfl hl.1 rfl (lv_room (Nat.le_of_ble_eq_true rfl)) wd_W_group_16 ⟨Nat.le_of_ble_eq_true rfl, Nat.le_of_ble_eq_true rfl⟩) hD hS hA (fun H locs hP hD hS => ?_)
    refine lv_if_ne (tgt := 33) hx hb wd_W_group_19 (by decide) (fun c6 => ?_) (fun c6 => ?_)
    · have hf := wc_f c6 hf
      exact J33  σ4 hf _ _ _ hP hD hS (lv_sub hl [] rfl)
    · have hf := wc_t c6 hf
      refine lv_iload_n hx hb wd_W_group_22 rfl (lv_at hl 3 rfl) ?_
      refine lv_iconst (v := 1) hx hb wd_W_group_23 (by decide) ?_
      refine lv_sipush (v := 1000) hx hb wd_W_group_24 (by decide) ?_
      obtain ⟨r8, σ7, hq, hf⟩ := wc_b2_e hf
      refine wx_calli (va_runS (As := [.int a3, .int 1, .int 1000]) (rest := []) ⟨hx, hb, hml, hown, hts⟩ (wm_W_isOutside l D ad cI cZ cJ cG _ a3 1 1000 σ4 _ hq) (wx_cwS 3 hts wt_263 wt_262 wt_1 wt_261 wh_W_isOutside rfl rfl ⟨Nat.le_of_ble_eq_true rfl, Nat.le_of_ble_eq_true rfl⟩) (wx_preS hK hP hD hS hA hC) rfl rfl hl.1 rfl (lv_room (Nat.le_of_ble_eq_true rfl)) wd_W_group_27 ⟨Nat.le_of_ble_eq_true rfl, Nat.le_of_ble_eq_true rfl⟩) hD hS hA (fun H locs hP hD hS => ?_)
      refine lv_if_eq (tgt := 43) hx hb wd_W_group_30 (by decide) (fun c9 => ?_) (fun c9 => ?_)
      · have hf := wc_t c9 hf
        refine lv_aload_n hx hb wd_W_group_43 rfl (lv_at hl 0 rfl) ?_
        refine wx_get (v := .ref (ad 1)) (C := "WidthCampaigns") (T := wx_TW) (N' := 7) hx hb hts wi_W hown hK hP 0 (by decide) rfl rfl 0 (by decide) wt_219 (fun _ h9 => h9) rfl wd_W_group_44 ?_
        refine wx_getN (v := .ref (ad 26)) (C := "WidthCampaigns$Plant") (T := wx_TP) (N' := 15) hx hb hts wi_P hown hK hP 1 (by decide) rfl rfl 9 (by decide) (hN.1 _ (List.mem_of_getElem? (i := 34) rfl) #[]) (fun _ h9 => h9) rfl wd_W_group_47 ?_
        refine wx_getN (v := .int (σ7 26 3)) (C := "WidthCampaigns$WidthGroups") (T := wx_TG) (N' := 4) hx hb hts wi_G hown hK hP 26 (by decide) rfl rfl 3 (by decide) (hN.1 _ (List.mem_of_getElem? (i := 35) rfl) #[]) (fun _ h9 => h9) rfl wd_W_group_50 ?_
        refine lv_topi (fun v10 ev10 => ?_)
        have hf := wc_st_e ev10 hf
        refine lv_iconst (v := 4) hx hb wd_W_group_53 (by decide) ?_
        refine lv_icmp_lt (tgt := 67) hx hb wd_W_group_54 (by decide) (fun c11 => ?_) (fun c11 => ?_)
        · have hf := wc_t c11 hf
          refine lv_aload_n hx hb wd_W_group_67 rfl (lv_at hl 0 rfl) ?_
          obtain ⟨σ12, hq, hf⟩ := wc_b1_e hf
          refine wx_callv (va_runV (As := []) (rest := []) ⟨hx, hb, hml, hown, hts⟩ (wm_W_forgetOrder l D ad cI cZ cJ cG _ σ7 _ hq) (wx_cwV 0 hts wt_352 wt_351 wp_2 wt_1 wt_349 wh_W_forgetOrder rfl rfl ⟨Nat.le_of_ble_eq_true rfl, Nat.le_of_ble_eq_true rfl⟩) (wx_preV hK hP hD hS hA hC (by decide) rfl rfl) rfl rfl hl.1 rfl (lv_room (Nat.le_of_ble_eq_true rfl)) wd_W_group_68 ⟨Nat.le_of_ble_eq_true rfl, Nat.le_of_ble_eq_true rfl⟩) hD hS hA (fun H locs hP hD hS => ?_)
          refine lv_aload_n hx hb wd_W_group_71 rfl (lv_at hl 0 rfl) ?_
          refine wx_get (v := .ref (ad 1)) (C := "WidthCampaigns") (T := wx_TW) (N' := 7) hx hb hts wi_W hown hK hP 0 (by decide) rfl rfl 0 (by decide) wt_219 (fun _ h9 => h9) rfl wd_W_group_72 ?_
          refine wx_getN (v := .ref (ad 26)) (C := "WidthCampaigns$Plant") (T := wx_TP) (N' := 15) hx hb hts wi_P hown hK hP 1 (by decide) rfl rfl 9 (by decide) (hN.1 _ (List.mem_of_getElem? (i := 34) rfl) #[]) (fun _ h9 => h9) rfl wd_W_group_75 ?_
          refine lv_iload_n hx hb wd_W_group_78 rfl (lv_at hl 1 rfl) ?_
          refine lv_iload_n hx hb wd_W_group_79 rfl (lv_at hl 2 rfl) ?_
          refine lv_iload_n hx hb wd_W_group_80 rfl (lv_at hl 3 rfl) ?_
          obtain ⟨σ13, hq, hf⟩ := wc_b1_e hf
          refine wx_callv (va_runVN (As := [.int a1, .int a2, .int a3]) (rest := []) ⟨hx, hb, hml, hown, hts⟩ (wm_G_addGroup l D ad cI cZ cJ cG _ a1 a2 a3 σ12 _ hq) (wx_cwN 3 hts wt_415 wt_414 wp_8 wt_4 (hN.1 _ (List.mem_of_getElem? (i := 36) rfl) #[]) wh_G_addGroup rfl rfl ⟨Nat.le_of_ble_eq_true rfl, Nat.le_of_ble_eq_true rfl⟩) (wx_preV hK hP hD hS hA hC (by decide) rfl rfl) rfl rfl hl.1 rfl (lv_room (Nat.le_of_ble_eq_true rfl)) wd_W_group_81 ⟨Nat.le_of_ble_eq_true rfl, Nat.le_of_ble_eq_true rfl⟩) hD hS hA (fun H locs hP hD hS => ?_)
          refine lv_aload_n hx hb wd_W_group_84 rfl (lv_at hl 0 rfl) ?_
          refine wx_get (v := .ref (ad 1)) (C := "WidthCampaigns") (T := wx_TW) (N' := 7) hx hb hts wi_W hown hK hP 0 (by decide) rfl rfl 0 (by decide) wt_219 (fun _ h9 => h9) rfl wd_W_group_85 ?_
          refine wx_getN (v := .ref (ad 26)) (C := "WidthCampaigns$Plant") (T := wx_TP) (N' := 15) hx hb hts wi_P hown hK hP 1 (by decide) rfl rfl 9 (by decide) (hN.1 _ (List.mem_of_getElem? (i := 34) rfl) #[]) (fun _ h9 => h9) rfl wd_W_group_88 ?_
          refine wx_getN (v := .int (σ13 26 3)) (C := "WidthCampaigns$WidthGroups") (T := wx_TG) (N' := 4) hx hb hts wi_G hown hK hP 26 (by decide) rfl rfl 3 (by decide) (hN.1 _ (List.mem_of_getElem? (i := 35) rfl) #[]) (fun _ h9 => h9) rfl wd_W_group_91 ?_
          refine lv_topi (fun v14 ev14 => ?_)
          have hf := wc_st_e ev14 hf
          refine W.widen (k := 1) (n := 6) (by decide) (by decide) ?_
          refine wz_ret ?_
          exact wx_iretx hx hb hr hlocks hf hP hS wd_W_group_94
        · have hf := wc_f c11 hf
          exact wz_throw (k := 3) (ik := 56) (ic := 60) hx hb htr hown hts hC wt_333 wt_12 (List.mem_of_getElem? (i := 8) rfl) wa_3_60 hS (hl.1.trans hml.symm) wd_W_group_57 wd_W_group_60 wd_W_group_61 wd_W_group_63 wd_W_group_66 ht (Nat.le_of_ble_eq_true rfl) (Nat.le_of_ble_eq_true rfl) (Nat.le_of_ble_eq_true rfl) (Nat.le_of_ble_eq_true rfl) hlocks hP (Option.some.inj hf) (Nat.le_of_ble_eq_true rfl) (Nat.le_of_ble_eq_true rfl)
      · have hf := wc_f c9 hf
        exact J33  σ7 hf _ _ _ hP hD hS (lv_sub hl [] rfl)
set_option maxHeartbeats 4000000 in
set_option maxRecDepth 100000 in
theorem wm_W_urgent (l : Launch) (D : va_G) (ad : Nat → Nat) (cI cZ cJ cG : ClassId) (htr : l.stackTraces = false) (sz : Nat) (a1 : Int32) (a2 : Int32) (σ : wc_S) (res : wc_X wc_S) (hf : wf_W_urgent a1 a2 σ = some res) : wz_Met l wy_W_urgent (wx_ws_W_urgent) ({ frames := 7, cells := 1, slots := 6, locals := 110 }) (va_Pc [.ref (ad 0), .int a1, .int a2] (wx_pre D ad cI cZ cJ cG σ sz)) (wx_Qvx D ad cI cZ cJ cG res (va_A (wx_W ad cI cZ cJ cG σ) sz)) (wx_XC D ad cI cZ cJ cG res (va_A (wx_W ad cI cZ cJ cG σ) sz)) 1 6 (va_A (wx_W ad cI cZ cJ cG σ) sz) := by
  refine wx_ofX (cc := prog_1_method_5_code) (maxL := 3) (ret := none) (Qc := fun A => wx_Qvx D ad cI cZ cJ cG res A) (XC := fun A => wx_XC D ad cI cZ cJ cG res A) [.ref (ad 0), .int a1, .int a2] (by decide) rfl (Nat.le_of_ble_eq_true rfl) ?_
  intro p e s m args below meth c A ls hin ht hl
  obtain ⟨hx, hb, hr, hts, hown, hlocks, hml, hA, hP, hK, hD, hC, hN, hS⟩ := hin
  have hl : lv_has ls 3 [(0, .ref (ad 0)), (1, .int a1), (2, .int a2)] := hl
  unfold wf_W_urgent at hf
  refine lv_aload_n hx hb wd_W_urgent_0 rfl (lv_at hl 0 rfl) ?_
  refine lv_iload_n hx hb wd_W_urgent_1 rfl (lv_at hl 1 rfl) ?_
  obtain ⟨r2, σ1, hq, hf⟩ := wc_b2_e hf
  refine wx_calli (va_runV (As := [.int a1]) (rest := []) ⟨hx, hb, hml, hown, hts⟩ (wm_W_isNoCoil l D ad cI cZ cJ cG _ a1 σ _ hq) (wx_cwV 1 hts wt_426 wt_425 wp_9 wt_1 wt_423 wh_W_isNoCoil rfl rfl ⟨Nat.le_of_ble_eq_true rfl, Nat.le_of_ble_eq_true rfl⟩) (wx_preV hK hP hD hS hA hC (by decide) rfl rfl) rfl rfl hl.1 rfl (lv_room (Nat.le_of_ble_eq_true rfl)) wd_W_urgent_2 ⟨Nat.le_of_ble_eq_true rfl, Nat.le_of_ble_eq_true rfl⟩) hD hS hA (fun H locs hP hD hS => ?_)
  refine lv_if_eq (tgt := 18) hx hb wd_W_urgent_5 (by decide) (fun c3 => ?_) (fun c3 => ?_)
  · have hf := wc_t c3 hf
    refine lv_iload_n hx hb wd_W_urgent_18 rfl (lv_at hl 2 rfl) ?_
    refine lv_iconst (v := 0) hx hb wd_W_urgent_19 (by decide) ?_
    refine lv_bipush (v := 8) hx hb wd_W_urgent_20 (by decide) ?_
    obtain ⟨r5, σ4, hq, hf⟩ := wc_b2_e hf
    refine wx_calli (va_runS (As := [.int a2, .int 0, .int 8]) (rest := []) ⟨hx, hb, hml, hown, hts⟩ (wm_W_isOutside l D ad cI cZ cJ cG _ a2 0 8 σ1 _ hq) (wx_cwS 3 hts wt_263 wt_262 wt_1 wt_261 wh_W_isOutside rfl rfl ⟨Nat.le_of_ble_eq_true rfl, Nat.le_of_ble_eq_true rfl⟩) (wx_preS hK hP hD hS hA hC) rfl rfl hl.1 rfl (lv_room (Nat.le_of_ble_eq_true rfl)) wd_W_urgent_22 ⟨Nat.le_of_ble_eq_true rfl, Nat.le_of_ble_eq_true rfl⟩) hD hS hA (fun H locs hP hD hS => ?_)
    refine lv_if_eq (tgt := 38) hx hb wd_W_urgent_25 (by decide) (fun c6 => ?_) (fun c6 => ?_)
    · have hf := wc_t c6 hf
      refine lv_aload_n hx hb wd_W_urgent_38 rfl (lv_at hl 0 rfl) ?_
      obtain ⟨σ7, hq, hf⟩ := wc_b1_e hf
      refine wx_callv (va_runV (As := []) (rest := []) ⟨hx, hb, hml, hown, hts⟩ (wm_W_forgetOrder l D ad cI cZ cJ cG _ σ4 _ hq) (wx_cwV 0 hts wt_352 wt_351 wp_2 wt_1 wt_349 wh_W_forgetOrder rfl rfl ⟨Nat.le_of_ble_eq_true rfl, Nat.le_of_ble_eq_true rfl⟩) (wx_preV hK hP hD hS hA hC (by decide) rfl rfl) rfl rfl hl.1 rfl (lv_room (Nat.le_of_ble_eq_true rfl)) wd_W_urgent_39 ⟨Nat.le_of_ble_eq_true rfl, Nat.le_of_ble_eq_true rfl⟩) hD hS hA (fun H locs hP hD hS => ?_)
      refine lv_aload_n hx hb wd_W_urgent_42 rfl (lv_at hl 0 rfl) ?_
      refine wx_get (v := .ref (ad 1)) (C := "WidthCampaigns") (T := wx_TW) (N' := 7) hx hb hts wi_W hown hK hP 0 (by decide) rfl rfl 0 (by decide) wt_219 (fun _ h9 => h9) rfl wd_W_urgent_43 ?_
      refine wx_getN (v := .ref (ad 6)) (C := "WidthCampaigns$Plant") (T := wx_TP) (N' := 15) hx hb hts wi_P hown hK hP 1 (by decide) rfl rfl 4 (by decide) (hN.1 _ (List.mem_of_getElem? (i := 37) rfl) #[]) (fun _ h9 => h9) rfl wd_W_urgent_46 ?_
      refine lv_iload_n hx hb wd_W_urgent_49 rfl (lv_at hl 1 rfl) ?_
      refine lv_iload_n hx hb wd_W_urgent_50 rfl (lv_at hl 2 rfl) ?_
      obtain ⟨h8, hf⟩ := wc_gd_e hf
      refine wx_iast hx hb hK hP hD hS 6 (n := 9) (by decide) (fun _ => rfl) h8 wd_W_urgent_51 (fun σ9 H locs eσ9 hP hD hS => ?_)
      have hf := wc_st_e eσ9 hf
      refine W.widen (k := 1) (n := 6) (by decide) (by decide) ?_
      refine wz_ret ?_
      exact wx_vretx hx hb hr hlocks hf hP hS wd_W_urgent_52
    · have hf := wc_f c6 hf
      exact wz_throw (k := 2) (ik := 45) (ic := 49) hx hb htr hown hts hC wt_264 wt_11 (List.mem_of_getElem? (i := 9) rfl) wa_2_49 hS (hl.1.trans hml.symm) wd_W_urgent_28 wd_W_urgent_31 wd_W_urgent_32 wd_W_urgent_34 wd_W_urgent_37 ht (Nat.le_of_ble_eq_true rfl) (Nat.le_of_ble_eq_true rfl) (Nat.le_of_ble_eq_true rfl) (Nat.le_of_ble_eq_true rfl) hlocks hP (Option.some.inj hf) (Nat.le_of_ble_eq_true rfl) (Nat.le_of_ble_eq_true rfl)
  · have hf := wc_f c3 hf
    exact wz_throw (k := 0) (ik := 68) (ic := 72) hx hb htr hown hts hC wt_380 wt_14 (List.mem_of_getElem? (i := 10) rfl) wa_0_72 hS (hl.1.trans hml.symm) wd_W_urgent_8 wd_W_urgent_11 wd_W_urgent_12 wd_W_urgent_14 wd_W_urgent_17 ht (Nat.le_of_ble_eq_true rfl) (Nat.le_of_ble_eq_true rfl) (Nat.le_of_ble_eq_true rfl) (Nat.le_of_ble_eq_true rfl) hlocks hP (Option.some.inj hf) (Nat.le_of_ble_eq_true rfl) (Nat.le_of_ble_eq_true rfl)
set_option maxHeartbeats 4000000 in
set_option maxRecDepth 100000 in
theorem wm_W_old (l : Launch) (D : va_G) (ad : Nat → Nat) (cI cZ cJ cG : ClassId) (htr : l.stackTraces = false) (sz : Nat) (a1 : Int32) (a2 : Int32) (σ : wc_S) (res : wc_X wc_S) (hf : wf_W_old a1 a2 σ = some res) : wz_Met l wy_W_old (wx_ws_W_old) ({ frames := 7, cells := 1, slots := 6, locals := 110 }) (va_Pc [.ref (ad 0), .int a1, .int a2] (wx_pre D ad cI cZ cJ cG σ sz)) (wx_Qvx D ad cI cZ cJ cG res (va_A (wx_W ad cI cZ cJ cG σ) sz)) (wx_XC D ad cI cZ cJ cG res (va_A (wx_W ad cI cZ cJ cG σ) sz)) 1 6 (va_A (wx_W ad cI cZ cJ cG σ) sz) := by
  refine wx_ofX (cc := prog_1_method_6_code) (maxL := 3) (ret := none) (Qc := fun A => wx_Qvx D ad cI cZ cJ cG res A) (XC := fun A => wx_XC D ad cI cZ cJ cG res A) [.ref (ad 0), .int a1, .int a2] (by decide) rfl (Nat.le_of_ble_eq_true rfl) ?_
  intro p e s m args below meth c A ls hin ht hl
  obtain ⟨hx, hb, hr, hts, hown, hlocks, hml, hA, hP, hK, hD, hC, hN, hS⟩ := hin
  have hl : lv_has ls 3 [(0, .ref (ad 0)), (1, .int a1), (2, .int a2)] := hl
  unfold wf_W_old at hf
  refine lv_aload_n hx hb wd_W_old_0 rfl (lv_at hl 0 rfl) ?_
  refine lv_iload_n hx hb wd_W_old_1 rfl (lv_at hl 1 rfl) ?_
  obtain ⟨r2, σ1, hq, hf⟩ := wc_b2_e hf
  refine wx_calli (va_runV (As := [.int a1]) (rest := []) ⟨hx, hb, hml, hown, hts⟩ (wm_W_isNoCoil l D ad cI cZ cJ cG _ a1 σ _ hq) (wx_cwV 1 hts wt_426 wt_425 wp_9 wt_1 wt_423 wh_W_isNoCoil rfl rfl ⟨Nat.le_of_ble_eq_true rfl, Nat.le_of_ble_eq_true rfl⟩) (wx_preV hK hP hD hS hA hC (by decide) rfl rfl) rfl rfl hl.1 rfl (lv_room (Nat.le_of_ble_eq_true rfl)) wd_W_old_2 ⟨Nat.le_of_ble_eq_true rfl, Nat.le_of_ble_eq_true rfl⟩) hD hS hA (fun H locs hP hD hS => ?_)
  refine lv_if_eq (tgt := 18) hx hb wd_W_old_5 (by decide) (fun c3 => ?_) (fun c3 => ?_)
  · have hf := wc_t c3 hf
    refine lv_iload_n hx hb wd_W_old_18 rfl (lv_at hl 2 rfl) ?_
    refine lv_iconst (v := (-1)) hx hb wd_W_old_19 (by decide) ?_
    refine lv_bipush (v := 8) hx hb wd_W_old_20 (by decide) ?_
    obtain ⟨r5, σ4, hq, hf⟩ := wc_b2_e hf
    refine wx_calli (va_runS (As := [.int a2, .int (-1), .int 8]) (rest := []) ⟨hx, hb, hml, hown, hts⟩ (wm_W_isOutside l D ad cI cZ cJ cG _ a2 (-1) 8 σ1 _ hq) (wx_cwS 3 hts wt_263 wt_262 wt_1 wt_261 wh_W_isOutside rfl rfl ⟨Nat.le_of_ble_eq_true rfl, Nat.le_of_ble_eq_true rfl⟩) (wx_preS hK hP hD hS hA hC) rfl rfl hl.1 rfl (lv_room (Nat.le_of_ble_eq_true rfl)) wd_W_old_22 ⟨Nat.le_of_ble_eq_true rfl, Nat.le_of_ble_eq_true rfl⟩) hD hS hA (fun H locs hP hD hS => ?_)
    refine lv_if_eq (tgt := 38) hx hb wd_W_old_25 (by decide) (fun c6 => ?_) (fun c6 => ?_)
    · have hf := wc_t c6 hf
      refine lv_aload_n hx hb wd_W_old_38 rfl (lv_at hl 0 rfl) ?_
      obtain ⟨σ7, hq, hf⟩ := wc_b1_e hf
      refine wx_callv (va_runV (As := []) (rest := []) ⟨hx, hb, hml, hown, hts⟩ (wm_W_forgetOrder l D ad cI cZ cJ cG _ σ4 _ hq) (wx_cwV 0 hts wt_352 wt_351 wp_2 wt_1 wt_349 wh_W_forgetOrder rfl rfl ⟨Nat.le_of_ble_eq_true rfl, Nat.le_of_ble_eq_true rfl⟩) (wx_preV hK hP hD hS hA hC (by decide) rfl rfl) rfl rfl hl.1 rfl (lv_room (Nat.le_of_ble_eq_true rfl)) wd_W_old_39 ⟨Nat.le_of_ble_eq_true rfl, Nat.le_of_ble_eq_true rfl⟩) hD hS hA (fun H locs hP hD hS => ?_)
      refine lv_aload_n hx hb wd_W_old_42 rfl (lv_at hl 0 rfl) ?_
      refine wx_get (v := .ref (ad 1)) (C := "WidthCampaigns") (T := wx_TW) (N' := 7) hx hb hts wi_W hown hK hP 0 (by decide) rfl rfl 0 (by decide) wt_219 (fun _ h9 => h9) rfl wd_W_old_43 ?_
      refine wx_getN (v := .ref (ad 7)) (C := "WidthCampaigns$Plant") (T := wx_TP) (N' := 15) hx hb hts wi_P hown hK hP 1 (by decide) rfl rfl 5 (by decide) (hN.1 _ (List.mem_of_getElem? (i := 38) rfl) #[]) (fun _ h9 => h9) rfl wd_W_old_46 ?_
      refine lv_iload_n hx hb wd_W_old_49 rfl (lv_at hl 1 rfl) ?_
      refine lv_iload_n hx hb wd_W_old_50 rfl (lv_at hl 2 rfl) ?_
      obtain ⟨h8, hf⟩ := wc_gd_e hf
      refine wx_iast hx hb hK hP hD hS 7 (n := 9) (by decide) (fun _ => rfl) h8 wd_W_old_51 (fun σ9 H locs eσ9 hP hD hS => ?_)
      have hf := wc_st_e eσ9 hf
      refine W.widen (k := 1) (n := 6) (by decide) (by decide) ?_
      refine wz_ret ?_
      exact wx_vretx hx hb hr hlocks hf hP hS wd_W_old_52
    · have hf := wc_f c6 hf
      exact wz_throw (k := 2) (ik := 45) (ic := 49) hx hb htr hown hts hC wt_264 wt_11 (List.mem_of_getElem? (i := 11) rfl) wa_2_49 hS (hl.1.trans hml.symm) wd_W_old_28 wd_W_old_31 wd_W_old_32 wd_W_old_34 wd_W_old_37 ht (Nat.le_of_ble_eq_true rfl) (Nat.le_of_ble_eq_true rfl) (Nat.le_of_ble_eq_true rfl) (Nat.le_of_ble_eq_true rfl) hlocks hP (Option.some.inj hf) (Nat.le_of_ble_eq_true rfl) (Nat.le_of_ble_eq_true rfl)
  · have hf := wc_f c3 hf
    exact wz_throw (k := 0) (ik := 68) (ic := 72) hx hb htr hown hts hC wt_380 wt_14 (List.mem_of_getElem? (i := 10) rfl) wa_0_72 hS (hl.1.trans hml.symm) wd_W_old_8 wd_W_old_11 wd_W_old_12 wd_W_old_14 wd_W_old_17 ht (Nat.le_of_ble_eq_true rfl) (Nat.le_of_ble_eq_true rfl) (Nat.le_of_ble_eq_true rfl) (Nat.le_of_ble_eq_true rfl) hlocks hP (Option.some.inj hf) (Nat.le_of_ble_eq_true rfl) (Nat.le_of_ble_eq_true rfl)
set_option maxHeartbeats 4000000 in
set_option maxRecDepth 100000 in
theorem wm_W_rules (l : Launch) (D : va_G) (ad : Nat → Nat) (cI cZ cJ cG : ClassId) (htr : l.stackTraces = false) (sz : Nat) (a1 : Int32) (a2 : Int32) (a3 : Int32) (a4 : Int32) (σ : wc_S) (res : wc_X wc_S) (hf : wf_W_rules a1 a2 a3 a4 σ = some res) : wz_Met l wy_W_rules (wx_ws_W_rules) ({ frames := 7, cells := 1, slots := 6, locals := 110 }) (va_Pc [.ref (ad 0), .int a1, .int a2, .int a3, .int a4] (wx_pre D ad cI cZ cJ cG σ sz)) (wx_Qvx D ad cI cZ cJ cG res (va_A (wx_W ad cI cZ cJ cG σ) sz)) (wx_XC D ad cI cZ cJ cG res (va_A (wx_W ad cI cZ cJ cG σ) sz)) 1 6 (va_A (wx_W ad cI cZ cJ cG σ) sz) := by
  refine wx_ofX (cc := prog_1_method_7_code) (maxL := 5) (ret := none) (Qc := fun A => wx_Qvx D ad cI cZ cJ cG res A) (XC := fun A => wx_XC D ad cI cZ cJ cG res A) [.ref (ad 0), .int a1, .int a2, .int a3, .int a4] (by decide) rfl (Nat.le_of_ble_eq_true rfl) ?_
  intro p e s m args below meth c A ls hin ht hl
  obtain ⟨hx, hb, hr, hts, hown, hlocks, hml, hA, hP, hK, hD, hC, hN, hS⟩ := hin
  have hl : lv_has ls 5 [(0, .ref (ad 0)), (1, .int a1), (2, .int a2), (3, .int a3), (4, .int a4)] := hl
  have J44 : ∀ (σ : wc_S), wf_W_rules_44  σ = some res → wx_Arr p l e ({ frames := 7, cells := 1, slots := 6, locals := 110 }) s m args below meth c D ad cI cZ cJ cG A (wz_MQ below (wx_Qvx D ad cI cZ cJ cG res A) (wx_XC D ad cI cZ cJ cG res A) args s 1 6 A) 5 0 0 44 [] [] σ := by
    intro   σ hf H locs ls hP hD hS hl
    unfold wf_W_rules_44 at hf
    exact wz_throw (k := 2) (ik := 45) (ic := 49) hx hb htr hown hts hC wt_264 wt_11 (List.mem_of_getElem? (i := 12) rfl) wa_2_49 hS (hl.1.trans hml.symm) wd_W_rules_44 wd_W_rules_47 wd_W_rules_48 wd_W_rules_50 wd_W_rules_53 ht (Nat.le_of_ble_eq_true rfl) (Nat.le_of_ble_eq_true rfl) (Nat.le_of_ble_eq_true rfl) (Nat.le_of_ble_eq_true rfl) hlocks hP (Option.some.inj hf) (Nat.le_of_ble_eq_true rfl) (Nat.le_of_ble_eq_true rfl)
  unfold wf_W_rules at hf
  refine lv_iload_n hx hb wd_W_rules_0 rfl (lv_at hl 1 rfl) ?_
  refine lv_iconst (v := 0) hx hb wd_W_rules_1 (by decide) ?_
  refine lv_bipush (v := 9) hx hb wd_W_rules_2 (by decide) ?_
  obtain ⟨r2, σ1, hq, hf⟩ := wc_b2_e hf
  refine wx_calli (va_runS (As := [.int a1, .int 0, .int 9]) (rest := []) ⟨hx, hb, hml, hown, hts⟩ (wm_W_isOutside l D ad cI cZ cJ cG _ a1 0 9 σ _ hq) (wx_cwS 3 hts wt_263 wt_262 wt_1 wt_261 wh_W_isOutside rfl rfl ⟨Nat.le_of_ble_eq_true rfl, Nat.le_of_ble_eq_true rfl⟩) (wx_preS hK hP hD hS hA hC) rfl rfl hl.1 rfl (lv_room (Nat.le_of_ble_eq_true rfl)) wd_W_rules_4 ⟨Nat.le_of_ble_eq_true rfl, Nat.le_of_ble_eq_true rfl⟩) hD hS hA (fun H locs hP hD hS => ?_)
  refine lv_if_ne (tgt := 44) hx hb wd_W_rules_7 (by decide) (fun c3 => ?_) (fun c3 => ?_)
  · have hf := wc_f c3 hf
    exact J44  σ1 hf _ _ _ hP hD hS (lv_sub hl [] rfl)
  · have hf := wc_t c3 hf
    refine lv_iload_n hx hb wd_W_rules_10 rfl (lv_at hl 2 rfl) ?_
    refine lv_iconst (v := 1) hx hb wd_W_rules_11 (by decide) ?_
    refine lv_sipush (v := 1000) hx hb wd_W_rules_12 (by decide) ?_
    obtain ⟨r5, σ4, hq, hf⟩ := wc_b2_e hf
    refine wx_calli (va_runS (As := [.int a2, .int 1, .int 1000]) (rest := []) ⟨hx, hb, hml, hown, hts⟩ (wm_W_isOutside l D ad cI cZ cJ cG _ a2 1 1000 σ1 _ hq) (wx_cwS 3 hts wt_263 wt_262 wt_1 wt_261 wh_W_isOutside rfl rfl ⟨Nat.le_of_ble_eq_true rfl, Nat.le_of_ble_eq_true rfl⟩) (wx_preS hK hP hD hS hA hC) rfl rfl hl.1 rfl (lv_room (Nat.le_of_ble_eq_true rfl)) wd_W_rules_15 ⟨Nat.le_of_ble_eq_true rfl, Nat.le_of_ble_eq_true rfl⟩) hD hS hA (fun H locs hP hD hS => ?_)
    refine lv_if_ne (tgt := 44) hx hb wd_W_rules_18 (by decide) (fun c6 => ?_) (fun c6 => ?_)
    · have hf := wc_f c6 hf
      exact J44  σ4 hf _ _ _ hP hD hS (lv_sub hl [] rfl)
    · have hf := wc_t c6 hf
      refine lv_iload_n hx hb wd_W_rules_21 rfl (lv_at hl 3 rfl) ?_
      refine lv_iconst (v := 0) hx hb wd_W_rules_22 (by decide) ?_
      refine lv_sipush (v := 10000) hx hb wd_W_rules_23 (by decide) ?_
      obtain ⟨r8, σ7, hq, hf⟩ := wc_b2_e hf
      refine wx_calli (va_runS (As := [.int a3, .int 0, .int 10000]) (rest := []) ⟨hx, hb, hml, hown, hts⟩ (wm_W_isOutside l D ad cI cZ cJ cG _ a3 0 10000 σ4 _ hq) (wx_cwS 3 hts wt_263 wt_262 wt_1 wt_261 wh_W_isOutside rfl rfl ⟨Nat.le_of_ble_eq_true rfl, Nat.le_of_ble_eq_true rfl⟩) (wx_preS hK hP hD hS hA hC) rfl rfl hl.1 rfl (lv_room (Nat.le_of_ble_eq_true rfl)) wd_W_rules_26 ⟨Nat.le_of_ble_eq_true rfl, Nat.le_of_ble_eq_true rfl⟩) hD hS hA (fun H locs hP hD hS => ?_)
      refine lv_if_ne (tgt := 44) hx hb wd_W_rules_29 (by decide) (fun c9 => ?_) (fun c9 => ?_)
      · have hf := wc_f c9 hf
        exact J44  σ7 hf _ _ _ hP hD hS (lv_sub hl [] rfl)
      · have hf := wc_t c9 hf
        refine lv_iload hx hb wd_W_rules_32 (lv_at hl 4 rfl) ?_
        refine lv_iconst (v := 0) hx hb wd_W_rules_34 (by decide) ?_
        refine lv_sipush (v := 10000) hx hb wd_W_rules_35 (by decide) ?_
        obtain ⟨r11, σ10, hq, hf⟩ := wc_b2_e hf
        refine wx_calli (va_runS (As := [.int a4, .int 0, .int 10000]) (rest := []) ⟨hx, hb, hml, hown, hts⟩ (wm_W_isOutside l D ad cI cZ cJ cG _ a4 0 10000 σ7 _ hq) (wx_cwS 3 hts wt_263 wt_262 wt_1 wt_261 wh_W_isOutside rfl rfl ⟨Nat.le_of_ble_eq_true rfl, Nat.le_of_ble_eq_true rfl⟩) (wx_preS hK hP hD hS hA hC) rfl rfl hl.1 rfl (lv_room (Nat.le_of_ble_eq_true rfl)) wd_W_rules_38 ⟨Nat.le_of_ble_eq_true rfl, Nat.le_of_ble_eq_true rfl⟩) hD hS hA (fun H locs hP hD hS => ?_)
        refine lv_if_eq (tgt := 54) hx hb wd_W_rules_41 (by decide) (fun c12 => ?_) (fun c12 => ?_)
        · have hf := wc_t c12 hf
          refine lv_aload_n hx hb wd_W_rules_54 rfl (lv_at hl 0 rfl) ?_
          obtain ⟨σ13, hq, hf⟩ := wc_b1_e hf
          refine wx_callv (va_runV (As := []) (rest := []) ⟨hx, hb, hml, hown, hts⟩ (wm_W_forgetOrder l D ad cI cZ cJ cG _ σ10 _ hq) (wx_cwV 0 hts wt_352 wt_351 wp_2 wt_1 wt_349 wh_W_forgetOrder rfl rfl ⟨Nat.le_of_ble_eq_true rfl, Nat.le_of_ble_eq_true rfl⟩) (wx_preV hK hP hD hS hA hC (by decide) rfl rfl) rfl rfl hl.1 rfl (lv_room (Nat.le_of_ble_eq_true rfl)) wd_W_rules_55 ⟨Nat.le_of_ble_eq_true rfl, Nat.le_of_ble_eq_true rfl⟩) hD hS hA (fun H locs hP hD hS => ?_)
          refine lv_aload_n hx hb wd_W_rules_58 rfl (lv_at hl 0 rfl) ?_
          refine wx_get (v := .ref (ad 1)) (C := "WidthCampaigns") (T := wx_TW) (N' := 7) hx hb hts wi_W hown hK hP 0 (by decide) rfl rfl 0 (by decide) wt_219 (fun _ h9 => h9) rfl wd_W_rules_59 ?_
          refine lv_iload_n hx hb wd_W_rules_62 rfl (lv_at hl 1 rfl) ?_
          refine wx_putN (x := a1) (ty := .int) (C := "WidthCampaigns$Plant") (T := wx_TP) (N' := 15) hx hb hts wi_P wx_tP wx_toP wx_nP hown hK hP hD hS 1 (by decide) (fun _ => rfl) rfl 11 (by decide) (hN.1 _ (List.mem_of_getElem? (i := 39) rfl) #[]) (fun _ h9 => h9) rfl (by decide +kernel) rfl rfl (Nat.le_of_ble_eq_true rfl) rfl wd_W_rules_63 (fun σ14 H locs eσ14 hP hD hS => ?_)
          have hf := wc_st_e eσ14 hf
          refine lv_aload_n hx hb wd_W_rules_66 rfl (lv_at hl 0 rfl) ?_
          refine wx_get (v := .ref (ad 1)) (C := "WidthCampaigns") (T := wx_TW) (N' := 7) hx hb hts wi_W hown hK hP 0 (by decide) rfl rfl 0 (by decide) wt_219 (fun _ h9 => h9) rfl wd_W_rules_67 ?_
          refine lv_iload_n hx hb wd_W_rules_70 rfl (lv_at hl 2 rfl) ?_
          refine wx_putN (x := a2) (ty := .int) (C := "WidthCampaigns$Plant") (T := wx_TP) (N' := 15) hx hb hts wi_P wx_tP wx_toP wx_nP hown hK hP hD hS 1 (by decide) (fun _ => rfl) rfl 12 (by decide) (hN.1 _ (List.mem_of_getElem? (i := 40) rfl) #[]) (fun _ h9 => h9) rfl (by decide +kernel) rfl rfl (Nat.le_of_ble_eq_true rfl) rfl wd_W_rules_71 (fun σ15 H locs eσ15 hP hD hS => ?_)
          have hf := wc_st_e eσ15 hf
          refine lv_aload_n hx hb wd_W_rules_74 rfl (lv_at hl 0 rfl) ?_
          refine wx_get (v := .ref (ad 1)) (C := "WidthCampaigns") (T := wx_TW) (N' := 7) hx hb hts wi_W hown hK hP 0 (by decide) rfl rfl 0 (by decide) wt_219 (fun _ h9 => h9) rfl wd_W_rules_75 ?_
          refine lv_iload_n hx hb wd_W_rules_78 rfl (lv_at hl 3 rfl) ?_
          refine wx_putN (x := a3) (ty := .int) (C := "WidthCampaigns$Plant") (T := wx_TP) (N' := 15) hx hb hts wi_P wx_tP wx_toP wx_nP hown hK hP hD hS 1 (by decide) (fun _ => rfl) rfl 13 (by decide) (hN.1 _ (List.mem_of_getElem? (i := 41) rfl) #[]) (fun _ h9 => h9) rfl (by decide +kernel) rfl rfl (Nat.le_of_ble_eq_true rfl) rfl wd_W_rules_79 (fun σ16 H locs eσ16 hP hD hS => ?_)
          have hf := wc_st_e eσ16 hf
          refine lv_aload_n hx hb wd_W_rules_82 rfl (lv_at hl 0 rfl) ?_
          refine wx_get (v := .ref (ad 1)) (C := "WidthCampaigns") (T := wx_TW) (N' := 7) hx hb hts wi_W hown hK hP 0 (by decide) rfl rfl 0 (by decide) wt_219 (fun _ h9 => h9) rfl wd_W_rules_83 ?_
          refine lv_iload hx hb wd_W_rules_86 (lv_at hl 4 rfl) ?_
          refine wx_putN (x := a4) (ty := .int) (C := "WidthCampaigns$Plant") (T := wx_TP) (N' := 15) hx hb hts wi_P wx_tP wx_toP wx_nP hown hK hP hD hS 1 (by decide) (fun _ => rfl) rfl 14 (by decide) (hN.1 _ (List.mem_of_getElem? (i := 42) rfl) #[]) (fun _ h9 => h9) rfl (by decide +kernel) rfl rfl (Nat.le_of_ble_eq_true rfl) rfl wd_W_rules_88 (fun σ17 H locs eσ17 hP hD hS => ?_)
          have hf := wc_st_e eσ17 hf
          refine W.widen (k := 1) (n := 6) (by decide) (by decide) ?_
          refine wz_ret ?_
          exact wx_vretx hx hb hr hlocks hf hP hS wd_W_rules_91
        · have hf := wc_f c12 hf
          exact J44  σ10 hf _ _ _ hP hD hS (lv_sub hl [] rfl)
