set_option maxHeartbeats 4000000 in
set_option maxRecDepth 100000 in
theorem wm_W_requireOrder (l : Launch) (D : va_G) (ad : Nat → Nat) (cI cZ cJ cG : ClassId) (htr : l.stackTraces = false) (sz : Nat) (σ : wc_S) (res : wc_X wc_S) (hf : wf_W_requireOrder  σ = some res) : wz_Met l wy_W_requireOrder (wx_ws_W_requireOrder) ({ frames := 7, cells := 1, slots := 6, locals := 110 }) (va_Pc [.ref (ad 0)] (wx_pre D ad cI cZ cJ cG σ sz)) (wx_Qvx D ad cI cZ cJ cG res (va_A (wx_W ad cI cZ cJ cG σ) sz)) (wx_XC D ad cI cZ cJ cG res (va_A (wx_W ad cI cZ cJ cG σ) sz)) 1 6 (va_A (wx_W ad cI cZ cJ cG σ) sz) := by
  refine wx_ofX (cc := prog_1_method_20_code) (maxL := 1) (ret := none) (Qc := fun A => wx_Qvx D ad cI cZ cJ cG res A) (XC := fun A => wx_XC D ad cI cZ cJ cG res A) [.ref (ad 0)] (by decide) rfl (Nat.le_of_ble_eq_true rfl) ?_
  intro p e s m args below meth c A ls hin ht hl
  obtain ⟨hx, hb, hr, hts, hown, hlocks, hml, hA, hP, hK, hD, hC, hN, hS⟩ := hin
  have hl : lv_has ls 1 [(0, .ref (ad 0))] := hl
  unfold wf_W_requireOrder at hf
  refine lv_aload_n hx hb wd_W_requireOrder_0 rfl (lv_at hl 0 rfl) ?_
  refine wx_get (v := .int (σ 0 5)) (C := "WidthCampaigns") (T := wx_TW) (N' := 7) hx hb hts wi_W hown hK hP 0 (by decide) rfl rfl 5 (by decide) wt_224 (fun _ h9 => h9) rfl wd_W_requireOrder_1 ?_
  refine lv_topi (fun v1 ev1 => ?_)
  have hf := wc_st_e ev1 hf
  refine lv_if_ne (tgt := 17) hx hb wd_W_requireOrder_4 (by decide) (fun c2 => ?_) (fun c2 => ?_)
  · have hf := wc_f c2 hf
    refine W.widen (k := 1) (n := 6) (by decide) (by decide) ?_
    refine wz_ret ?_
    exact wx_vretx hx hb hr hlocks hf hP hS wd_W_requireOrder_17
  · have hf := wc_t c2 hf
    exact wz_throw (k := 1) (ik := 164) (ic := 168) hx hb htr hown hts hC wt_529 wt_16 (List.mem_of_getElem? (i := 0) rfl) wa_1_168 hS (hl.1.trans hml.symm) wd_W_requireOrder_7 wd_W_requireOrder_10 wd_W_requireOrder_11 wd_W_requireOrder_13 wd_W_requireOrder_16 ht (Nat.le_of_ble_eq_true rfl) (Nat.le_of_ble_eq_true rfl) (Nat.le_of_ble_eq_true rfl) (Nat.le_of_ble_eq_true rfl) hlocks hP (Option.some.inj hf) (Nat.le_of_ble_eq_true rfl) (Nat.le_of_ble_eq_true rfl)
set_option maxHeartbeats 4000000 in
set_option maxRecDepth 100000 in
theorem wm_W_requirePlace (l : Launch) (D : va_G) (ad : Nat → Nat) (cI cZ cJ cG : ClassId) (htr : l.stackTraces = false) (sz : Nat) (a1 : Int32) (σ : wc_S) (res : wc_X wc_S) (hf : wf_W_requirePlace a1 σ = some res) : wz_Met l wy_W_requirePlace (wx_ws_W_requirePlace) ({ frames := 7, cells := 1, slots := 6, locals := 110 }) (va_Pc [.ref (ad 0), .int a1] (wx_pre D ad cI cZ cJ cG σ sz)) (wx_Qvx D ad cI cZ cJ cG res (va_A (wx_W ad cI cZ cJ cG σ) sz)) (wx_XC D ad cI cZ cJ cG res (va_A (wx_W ad cI cZ cJ cG σ) sz)) 1 6 (va_A (wx_W ad cI cZ cJ cG σ) sz) := by
  refine wx_ofX (cc := prog_1_method_21_code) (maxL := 2) (ret := none) (Qc := fun A => wx_Qvx D ad cI cZ cJ cG res A) (XC := fun A => wx_XC D ad cI cZ cJ cG res A) [.ref (ad 0), .int a1] (by decide) rfl (Nat.le_of_ble_eq_true rfl) ?_
  intro p e s m args below meth c A ls hin ht hl
  obtain ⟨hx, hb, hr, hts, hown, hlocks, hml, hA, hP, hK, hD, hC, hN, hS⟩ := hin
  have hl : lv_has ls 2 [(0, .ref (ad 0)), (1, .int a1)] := hl
  unfold wf_W_requirePlace at hf
  refine lv_aload_n hx hb wd_W_requirePlace_0 rfl (lv_at hl 0 rfl) ?_
  refine lv_iload_n hx hb wd_W_requirePlace_1 rfl (lv_at hl 1 rfl) ?_
  obtain ⟨r2, σ1, hq, hf⟩ := wc_b2_e hf
  refine wx_calli (va_runV (As := [.int a1]) (rest := []) ⟨hx, hb, hml, hown, hts⟩ (wm_W_isNoCoil l D ad cI cZ cJ cG _ a1 σ _ hq) (wx_cwV 1 hts wt_426 wt_425 wp_9 wt_1 wt_423 wh_W_isNoCoil rfl rfl ⟨Nat.le_of_ble_eq_true rfl, Nat.le_of_ble_eq_true rfl⟩) (wx_preV hK hP hD hS hA hC (by decide) rfl rfl) rfl rfl hl.1 rfl (lv_room (Nat.le_of_ble_eq_true rfl)) wd_W_requirePlace_2 ⟨Nat.le_of_ble_eq_true rfl, Nat.le_of_ble_eq_true rfl⟩) hD hS hA (fun H locs hP hD hS => ?_)
  refine lv_if_eq (tgt := 18) hx hb wd_W_requirePlace_5 (by decide) (fun c3 => ?_) (fun c3 => ?_)
  · have hf := wc_t c3 hf
    refine W.widen (k := 1) (n := 6) (by decide) (by decide) ?_
    refine wz_ret ?_
    exact wx_vretx hx hb hr hlocks hf hP hS wd_W_requirePlace_18
  · have hf := wc_f c3 hf
    exact wz_throw (k := 0) (ik := 68) (ic := 72) hx hb htr hown hts hC wt_380 wt_14 (List.mem_of_getElem? (i := 1) rfl) wa_0_72 hS (hl.1.trans hml.symm) wd_W_requirePlace_8 wd_W_requirePlace_11 wd_W_requirePlace_12 wd_W_requirePlace_14 wd_W_requirePlace_17 ht (Nat.le_of_ble_eq_true rfl) (Nat.le_of_ble_eq_true rfl) (Nat.le_of_ble_eq_true rfl) (Nat.le_of_ble_eq_true rfl) hlocks hP (Option.some.inj hf) (Nat.le_of_ble_eq_true rfl) (Nat.le_of_ble_eq_true rfl)
set_option maxHeartbeats 4000000 in
set_option maxRecDepth 100000 in
theorem wm_W_coil (l : Launch) (D : va_G) (ad : Nat → Nat) (cI cZ cJ cG : ClassId) (htr : l.stackTraces = false) (sz : Nat) (a1 : Int32) (a2 : Int32) (a3 : Int32) (a4 : Int32) (σ : wc_S) (res : wc_X (Int32 × wc_S)) (hf : wf_W_coil a1 a2 a3 a4 σ = some res) : wz_Met l wy_W_coil (wx_ws_W_coil) ({ frames := 7, cells := 1, slots := 6, locals := 131 }) (va_Pc [.ref (ad 0), .int a1, .int a2, .int a3, .int a4] (wx_pre D ad cI cZ cJ cG σ sz)) (wx_Qix D ad cI cZ cJ cG res (va_A (wx_W ad cI cZ cJ cG σ) sz)) (wx_XC D ad cI cZ cJ cG res (va_A (wx_W ad cI cZ cJ cG σ) sz)) 1 6 (va_A (wx_W ad cI cZ cJ cG σ) sz) := by
  refine wx_ofX (cc := prog_1_method_2_code) (maxL := 5) (ret := (some .int)) (Qc := fun A => wx_Qix D ad cI cZ cJ cG res A) (XC := fun A => wx_XC D ad cI cZ cJ cG res A) [.ref (ad 0), .int a1, .int a2, .int a3, .int a4] (by decide) rfl (Nat.le_of_ble_eq_true rfl) ?_
  intro p e s m args below meth c A ls hin ht hl
  obtain ⟨hx, hb, hr, hts, hown, hlocks, hml, hA, hP, hK, hD, hC, hN, hS⟩ := hin
  have hl : lv_has ls 5 [(0, .ref (ad 0)), (1, .int a1), (2, .int a2), (3, .int a3), (4, .int a4)] := hl
  have J43 : ∀ (σ : wc_S), wf_W_coil_43  σ = some res → wx_Arr p l e ({ frames := 7, cells := 1, slots := 6, locals := 131 }) s m args below meth c D ad cI cZ cJ cG A (wz_MQ below (wx_Qix D ad cI cZ cJ cG res A) (wx_XC D ad cI cZ cJ cG res A) args s 1 6 A) 5 0 0 43 [] [] σ := by
    intro   σ hf H locs ls hP hD hS hl
    unfold wf_W_coil_43 at hf
    exact wz_throw (k := 2) (ik := 45) (ic := 49) hx hb htr hown hts hC wt_264 wt_11 (List.mem_of_getElem? (i := 2) rfl) wa_2_49 hS (hl.1.trans hml.symm) wd_W_coil_43 wd_W_coil_46 wd_W_coil_47 wd_W_coil_49 wd_W_coil_52 ht (Nat.le_of_ble_eq_true rfl) (Nat.le_of_ble_eq_true rfl) (Nat.le_of_ble_eq_true rfl) (Nat.le_of_ble_eq_true rfl) hlocks hP (Option.some.inj hf) (Nat.le_of_ble_eq_true rfl) (Nat.le_of_ble_eq_true rfl)
  unfold wf_W_coil at hf
  refine lv_iload_n hx hb wd_W_coil_0 rfl (lv_at hl 1 rfl) ?_
  refine lv_iconst (v := 1) hx hb wd_W_coil_1 (by decide) ?_
  refine lv_sipush (v := 2000) hx hb wd_W_coil_2 (by decide) ?_
  obtain ⟨r2, σ1, hq, hf⟩ := wc_b2_e hf
  refine wx_calli (va_runS (As := [.int a1, .int 1, .int 2000]) (rest := []) ⟨hx, hb, hml, hown, hts⟩ (wm_W_isOutside l D ad cI cZ cJ cG _ a1 1 2000 σ _ hq) (wx_cwS 3 hts wt_263 wt_262 wt_1 wt_261 wh_W_isOutside rfl rfl ⟨Nat.le_of_ble_eq_true rfl, Nat.le_of_ble_eq_true rfl⟩) (wx_preS hK hP hD hS hA hC) rfl rfl hl.1 rfl (lv_room (Nat.le_of_ble_eq_true rfl)) wd_W_coil_5 ⟨Nat.le_of_ble_eq_true rfl, Nat.le_of_ble_eq_true rfl⟩) hD hS hA (fun H locs hP hD hS => ?_)
  refine lv_if_ne (tgt := 43) hx hb wd_W_coil_8 (by decide) (fun c3 => ?_) (fun c3 => ?_)
  · have hf := wc_f c3 hf
    exact J43  σ1 hf _ _ _ hP hD hS (lv_sub hl [] rfl)
  · have hf := wc_t c3 hf
    refine lv_iload_n hx hb wd_W_coil_11 rfl (lv_at hl 2 rfl) ?_
    refine lv_iconst (v := 1) hx hb wd_W_coil_12 (by decide) ?_
    refine lv_sipush (v := 1000) hx hb wd_W_coil_13 (by decide) ?_
    obtain ⟨r5, σ4, hq, hf⟩ := wc_b2_e hf
    refine wx_calli (va_runS (As := [.int a2, .int 1, .int 1000]) (rest := []) ⟨hx, hb, hml, hown, hts⟩ (wm_W_isOutside l D ad cI cZ cJ cG _ a2 1 1000 σ1 _ hq) (wx_cwS 3 hts wt_263 wt_262 wt_1 wt_261 wh_W_isOutside rfl rfl ⟨Nat.le_of_ble_eq_true rfl, Nat.le_of_ble_eq_true rfl⟩) (wx_preS hK hP hD hS hA hC) rfl rfl hl.1 rfl (lv_room (Nat.le_of_ble_eq_true rfl)) wd_W_coil_16 ⟨Nat.le_of_ble_eq_true rfl, Nat.le_of_ble_eq_true rfl⟩) hD hS hA (fun H locs hP hD hS => ?_)
    refine lv_if_ne (tgt := 43) hx hb wd_W_coil_19 (by decide) (fun c6 => ?_) (fun c6 => ?_)
    · have hf := wc_f c6 hf
      exact J43  σ4 hf _ _ _ hP hD hS (lv_sub hl [] rfl)
    · have hf := wc_t c6 hf
      refine lv_iload_n hx hb wd_W_coil_22 rfl (lv_at hl 3 rfl) ?_
      refine lv_iconst (v := 0) hx hb wd_W_coil_23 (by decide) ?_
      refine lv_bipush (v := 9) hx hb wd_W_coil_24 (by decide) ?_
      obtain ⟨r8, σ7, hq, hf⟩ := wc_b2_e hf
      refine wx_calli (va_runS (As := [.int a3, .int 0, .int 9]) (rest := []) ⟨hx, hb, hml, hown, hts⟩ (wm_W_isOutside l D ad cI cZ cJ cG _ a3 0 9 σ4 _ hq) (wx_cwS 3 hts wt_263 wt_262 wt_1 wt_261 wh_W_isOutside rfl rfl ⟨Nat.le_of_ble_eq_true rfl, Nat.le_of_ble_eq_true rfl⟩) (wx_preS hK hP hD hS hA hC) rfl rfl hl.1 rfl (lv_room (Nat.le_of_ble_eq_true rfl)) wd_W_coil_26 ⟨Nat.le_of_ble_eq_true rfl, Nat.le_of_ble_eq_true rfl⟩) hD hS hA (fun H locs hP hD hS => ?_)
      refine lv_if_ne (tgt := 43) hx hb wd_W_coil_29 (by decide) (fun c9 => ?_) (fun c9 => ?_)
      · have hf := wc_f c9 hf
        exact J43  σ7 hf _ _ _ hP hD hS (lv_sub hl [] rfl)
      · have hf := wc_t c9 hf
        refine lv_iload hx hb wd_W_coil_32 (lv_at hl 4 rfl) ?_
        refine lv_iconst (v := 1) hx hb wd_W_coil_34 (by decide) ?_
        refine lv_bipush (v := 100) hx hb wd_W_coil_35 (by decide) ?_
        obtain ⟨r11, σ10, hq, hf⟩ := wc_b2_e hf
        refine wx_calli (va_runS (As := [.int a4, .int 1, .int 100]) (rest := []) ⟨hx, hb, hml, hown, hts⟩ (wm_W_isOutside l D ad cI cZ cJ cG _ a4 1 100 σ7 _ hq) (wx_cwS 3 hts wt_263 wt_262 wt_1 wt_261 wh_W_isOutside rfl rfl ⟨Nat.le_of_ble_eq_true rfl, Nat.le_of_ble_eq_true rfl⟩) (wx_preS hK hP hD hS hA hC) rfl rfl hl.1 rfl (lv_room (Nat.le_of_ble_eq_true rfl)) wd_W_coil_37 ⟨Nat.le_of_ble_eq_true rfl, Nat.le_of_ble_eq_true rfl⟩) hD hS hA (fun H locs hP hD hS => ?_)
        refine lv_if_eq (tgt := 53) hx hb wd_W_coil_40 (by decide) (fun c12 => ?_) (fun c12 => ?_)
        · have hf := wc_t c12 hf
          refine lv_aload_n hx hb wd_W_coil_53 rfl (lv_at hl 0 rfl) ?_
          refine wx_get (v := .ref (ad 1)) (C := "WidthCampaigns") (T := wx_TW) (N' := 7) hx hb hts wi_W hown hK hP 0 (by decide) rfl rfl 0 (by decide) wt_219 (fun _ h9 => h9) rfl wd_W_coil_54 ?_
          refine wx_getN (v := .int (σ10 1 10)) (C := "WidthCampaigns$Plant") (T := wx_TP) (N' := 15) hx hb hts wi_P hown hK hP 1 (by decide) rfl rfl 10 (by decide) (hN.1 _ (List.mem_of_getElem? (i := 24) rfl) #[]) (fun _ h9 => h9) rfl wd_W_coil_57 ?_
          refine lv_topi (fun v13 ev13 => ?_)
          have hf := wc_st_e ev13 hf
          refine lv_bipush (v := 9) hx hb wd_W_coil_60 (by decide) ?_
          refine lv_icmp_lt (tgt := 75) hx hb wd_W_coil_62 (by decide) (fun c14 => ?_) (fun c14 => ?_)
          · have hf := wc_t c14 hf
            refine lv_aload_n hx hb wd_W_coil_75 rfl (lv_at hl 0 rfl) ?_
            obtain ⟨σ15, hq, hf⟩ := wc_b1_e hf
            refine wx_callv (va_runV (As := []) (rest := []) ⟨hx, hb, hml, hown, hts⟩ (wm_W_forgetOrder l D ad cI cZ cJ cG _ σ10 _ hq) (wx_cwV 0 hts wt_352 wt_351 wp_2 wt_1 wt_349 wh_W_forgetOrder rfl rfl ⟨Nat.le_of_ble_eq_true rfl, Nat.le_of_ble_eq_true rfl⟩) (wx_preV hK hP hD hS hA hC (by decide) rfl rfl) rfl rfl hl.1 rfl (lv_room (Nat.le_of_ble_eq_true rfl)) wd_W_coil_76 ⟨Nat.le_of_ble_eq_true rfl, Nat.le_of_ble_eq_true rfl⟩) hD hS hA (fun H locs hP hD hS => ?_)
            refine lv_aload_n hx hb wd_W_coil_79 rfl (lv_at hl 0 rfl) ?_
            refine wx_get (v := .ref (ad 1)) (C := "WidthCampaigns") (T := wx_TW) (N' := 7) hx hb hts wi_W hown hK hP 0 (by decide) rfl rfl 0 (by decide) wt_219 (fun _ h9 => h9) rfl wd_W_coil_80 ?_
            refine lv_iload_n hx hb wd_W_coil_83 rfl (lv_at hl 1 rfl) ?_
            refine lv_iload_n hx hb wd_W_coil_84 rfl (lv_at hl 2 rfl) ?_
            refine lv_iload_n hx hb wd_W_coil_85 rfl (lv_at hl 3 rfl) ?_
            refine lv_iload hx hb wd_W_coil_86 (lv_at hl 4 rfl) ?_
            obtain ⟨r17, σ16, hq, hf⟩ := wc_b2_e hf
            refine wx_calli (va_runVN (As := [.int a1, .int a2, .int a3, .int a4]) (rest := []) ⟨hx, hb, hml, hown, hts⟩ (wm_P_addCoil l D ad cI cZ cJ cG _ a1 a2 a3 a4 σ15 _ hq) (wx_cwN 4 hts wt_356 wt_355 wp_3 wt_2 (hN.1 _ (List.mem_of_getElem? (i := 28) rfl) #[]) wh_P_addCoil rfl rfl ⟨Nat.le_of_ble_eq_true rfl, Nat.le_of_ble_eq_true rfl⟩) (wx_preV hK hP hD hS hA hC (by decide) rfl rfl) rfl rfl hl.1 rfl (lv_room (Nat.le_of_ble_eq_true rfl)) wd_W_coil_88 ⟨Nat.le_of_ble_eq_true rfl, Nat.le_of_ble_eq_true rfl⟩) hD hS hA (fun H locs hP hD hS => ?_)
            refine W.widen (k := 1) (n := 6) (by decide) (by decide) ?_
            refine wz_ret ?_
            exact wx_iretx hx hb hr hlocks hf hP hS wd_W_coil_91
          · have hf := wc_f c14 hf
            exact wz_throw (k := 3) (ik := 56) (ic := 60) hx hb htr hown hts hC wt_333 wt_12 (List.mem_of_getElem? (i := 3) rfl) wa_3_60 hS (hl.1.trans hml.symm) wd_W_coil_65 wd_W_coil_68 wd_W_coil_69 wd_W_coil_71 wd_W_coil_74 ht (Nat.le_of_ble_eq_true rfl) (Nat.le_of_ble_eq_true rfl) (Nat.le_of_ble_eq_true rfl) (Nat.le_of_ble_eq_true rfl) hlocks hP (Option.some.inj hf) (Nat.le_of_ble_eq_true rfl) (Nat.le_of_ble_eq_true rfl)
        · have hf := wc_f c12 hf
          exact J43  σ10 hf _ _ _ hP hD hS (lv_sub hl [] rfl)
set_option maxHeartbeats 4000000 in
set_option maxRecDepth 100000 in
theorem wm_W_table (l : Launch) (D : va_G) (ad : Nat → Nat) (cI cZ cJ cG : ClassId) (htr : l.stackTraces = false) (sz : Nat) (a1 : Int32) (a2 : Int32) (a3 : Int32) (a4 : Int32) (σ : wc_S) (res : wc_X (Int32 × wc_S)) (hf : wf_W_table a1 a2 a3 a4 σ = some res) : wz_Met l wy_W_table (wx_ws_W_table) ({ frames := 7, cells := 1, slots := 6, locals := 110 }) (va_Pc [.ref (ad 0), .int a1, .int a2, .int a3, .int a4] (wx_pre D ad cI cZ cJ cG σ sz)) (wx_Qix D ad cI cZ cJ cG res (va_A (wx_W ad cI cZ cJ cG σ) sz)) (wx_XC D ad cI cZ cJ cG res (va_A (wx_W ad cI cZ cJ cG σ) sz)) 1 6 (va_A (wx_W ad cI cZ cJ cG σ) sz) := by
  refine wx_ofX (cc := prog_1_method_3_code) (maxL := 6) (ret := (some .int)) (Qc := fun A => wx_Qix D ad cI cZ cJ cG res A) (XC := fun A => wx_XC D ad cI cZ cJ cG res A) [.ref (ad 0), .int a1, .int a2, .int a3, .int a4] (by decide) rfl (Nat.le_of_ble_eq_true rfl) ?_
  intro p e s m args below meth c A ls hin ht hl
  obtain ⟨hx, hb, hr, hts, hown, hlocks, hml, hA, hP, hK, hD, hC, hN, hS⟩ := hin
  have hl : lv_has ls 6 [(0, .ref (ad 0)), (1, .int a1), (2, .int a2), (3, .int a3), (4, .int a4)] := hl
  have J53 : ∀ (σ : wc_S), wf_W_table_53  σ = some res → wx_Arr p l e ({ frames := 7, cells := 1, slots := 6, locals := 110 }) s m args below meth c D ad cI cZ cJ cG A (wz_MQ below (wx_Qix D ad cI cZ cJ cG res A) (wx_XC D ad cI cZ cJ cG res A) args s 1 6 A) 6 0 0 53 [] [] σ := by
    intro   σ hf H locs ls hP hD hS hl
    unfold wf_W_table_53 at hf
    exact wz_throw (k := 2) (ik := 45) (ic := 49) hx hb htr hown hts hC wt_264 wt_11 (List.mem_of_getElem? (i := 4) rfl) wa_2_49 hS (hl.1.trans hml.symm) wd_W_table_53 wd_W_table_56 wd_W_table_57 wd_W_table_59 wd_W_table_62 ht (Nat.le_of_ble_eq_true rfl) (Nat.le_of_ble_eq_true rfl) (Nat.le_of_ble_eq_true rfl) (Nat.le_of_ble_eq_true rfl) hlocks hP (Option.some.inj hf) (Nat.le_of_ble_eq_true rfl) (Nat.le_of_ble_eq_true rfl)
  have J84 : ∀ (x2 : Int32) (x3 : Int32) (x4 : Int32) (s0_ : Nat) (hs0_ : s0_ = 18 ∨ s0_ = 22) (σ : wc_S), wf_W_table_84 x2 x3 x4 s0_ σ = some res → wx_Arr p l e ({ frames := 7, cells := 1, slots := 6, locals := 110 }) s m args below meth c D ad cI cZ cJ cG A (wz_MQ below (wx_Qix D ad cI cZ cJ cG res A) (wx_XC D ad cI cZ cJ cG res A) args s 1 6 A) 6 0 0 84 [(0, .ref (ad 0)), (2, .int x2), (3, .int x3), (4, .int x4)] [.ref (ad s0_)] σ := by
    intro  x2 x3 x4 s0_ hs0_ σ hf H locs ls hP hD hS hl
    unfold wf_W_table_84 at hf
    refine lv_astore (lv' := [(5, .ref (ad s0_)), (0, .ref (ad 0)), (2, .int x2), (3, .int x3), (4, .int x4)]) hx hb wd_W_table_84 hl (by decide) rfl (fun ls hl => ?_)
    refine lv_aload hx hb wd_W_table_86 (lv_at hl 0 rfl) ?_
    refine wx_getN (v := .int (σ s0_ 3)) (C := "WidthCampaigns$JumpTable") (T := wx_TJ) (N' := 4) hx hb hts wi_J hown hK hP s0_ (wx_Jl0 hs0_) (wx_J0 hs0_ _) rfl 3 (by decide) (hN.1 _ (List.mem_of_getElem? (i := 30) rfl) #[]) (fun _ h9 => h9) rfl wd_W_table_88 ?_
    refine lv_topi (fun v14 ev14 => ?_)
    have hf := wc_st_e ev14 hf
    refine lv_bipush (v := 8) hx hb wd_W_table_91 (by decide) ?_
    refine lv_icmp_lt (tgt := 106) hx hb wd_W_table_93 (by decide) (fun c15 => ?_) (fun c15 => ?_)
    · have hf := wc_t c15 hf
      refine lv_aload_n hx hb wd_W_table_106 rfl (lv_at hl 1 rfl) ?_
      obtain ⟨σ16, hq, hf⟩ := wc_b1_e hf
      refine wx_callv (va_runV (As := []) (rest := []) ⟨hx, hb, hml, hown, hts⟩ (wm_W_forgetOrder l D ad cI cZ cJ cG _ σ _ hq) (wx_cwV 0 hts wt_352 wt_351 wp_2 wt_1 wt_349 wh_W_forgetOrder rfl rfl ⟨Nat.le_of_ble_eq_true rfl, Nat.le_of_ble_eq_true rfl⟩) (wx_preV hK hP hD hS hA hC (by decide) rfl rfl) rfl rfl hl.1 rfl (lv_room (Nat.le_of_ble_eq_true rfl)) wd_W_table_107 ⟨Nat.le_of_ble_eq_true rfl, Nat.le_of_ble_eq_true rfl⟩) hD hS hA (fun H locs hP hD hS => ?_)
      refine lv_aload hx hb wd_W_table_110 (lv_at hl 0 rfl) ?_
      refine lv_iload_n hx hb wd_W_table_112 rfl (lv_at hl 2 rfl) ?_
      refine lv_iload_n hx hb wd_W_table_113 rfl (lv_at hl 3 rfl) ?_
      refine lv_iload hx hb wd_W_table_114 (lv_at hl 4 rfl) ?_
      obtain ⟨σ17, hq, hf⟩ := wc_b1_e hf
      refine wx_callv (va_runVN (As := [.int x2, .int x3, .int x4]) (rest := []) ⟨hx, hb, hml, hown, hts⟩ (wm_J_addRow l D ad cI cZ cJ cG _ s0_ hs0_ x2 x3 x4 σ16 _ hq) (wx_cwN 3 hts wt_401 wt_400 wp_7 wt_3 (hN.1 _ (List.mem_of_getElem? (i := 31) rfl) #[]) wh_J_addRow rfl rfl ⟨Nat.le_of_ble_eq_true rfl, Nat.le_of_ble_eq_true rfl⟩) (wx_preV hK hP hD hS hA hC (wx_Jl0 hs0_) (wx_J0 hs0_ _) rfl) rfl rfl hl.1 rfl (lv_room (Nat.le_of_ble_eq_true rfl)) wd_W_table_116 ⟨Nat.le_of_ble_eq_true rfl, Nat.le_of_ble_eq_true rfl⟩) hD hS hA (fun H locs hP hD hS => ?_)
      refine lv_aload_n hx hb wd_W_table_119 rfl (lv_at hl 1 rfl) ?_
      refine wx_get (v := .ref (ad 1)) (C := "WidthCampaigns") (T := wx_TW) (N' := 7) hx hb hts wi_W hown hK hP 0 (by decide) rfl rfl 0 (by decide) wt_219 (fun _ h9 => h9) rfl wd_W_table_120 ?_
      obtain ⟨σ18, hq, hf⟩ := wc_b1_e hf
      refine wx_callv (va_runVN (As := []) (rest := []) ⟨hx, hb, hml, hown, hts⟩ (wm_P_reckonJumps l D ad cI cZ cJ cG _ σ17 _ hq) (wx_cwN 0 hts wt_360 wt_359 wp_4 wt_2 (hN.1 _ (List.mem_of_getElem? (i := 32) rfl) #[]) wh_P_reckonJumps rfl rfl ⟨Nat.le_of_ble_eq_true rfl, Nat.le_of_ble_eq_true rfl⟩) (wx_preV hK hP hD hS hA hC (by decide) rfl rfl) rfl rfl hl.1 rfl (lv_room (Nat.le_of_ble_eq_true rfl)) wd_W_table_123 ⟨Nat.le_of_ble_eq_true rfl, Nat.le_of_ble_eq_true rfl⟩) hD hS hA (fun H locs hP hD hS => ?_)
      refine lv_aload hx hb wd_W_table_126 (lv_at hl 0 rfl) ?_
      refine wx_getN (v := .int (σ18 s0_ 3)) (C := "WidthCampaigns$JumpTable") (T := wx_TJ) (N' := 4) hx hb hts wi_J hown hK hP s0_ (wx_Jl0 hs0_) (wx_J0 hs0_ _) rfl 3 (by decide) (hN.1 _ (List.mem_of_getElem? (i := 30) rfl) #[]) (fun _ h9 => h9) rfl wd_W_table_128 ?_
      refine lv_topi (fun v19 ev19 => ?_)
      have hf := wc_st_e ev19 hf
      refine W.widen (k := 1) (n := 6) (by decide) (by decide) ?_
      refine wz_ret ?_
      exact wx_iretx hx hb hr hlocks hf hP hS wd_W_table_131
    · have hf := wc_f c15 hf
      exact wz_throw (k := 3) (ik := 56) (ic := 60) hx hb htr hown hts hC wt_333 wt_12 (List.mem_of_getElem? (i := 5) rfl) wa_3_60 hS (hl.1.trans hml.symm) wd_W_table_96 wd_W_table_99 wd_W_table_100 wd_W_table_102 wd_W_table_105 ht (Nat.le_of_ble_eq_true rfl) (Nat.le_of_ble_eq_true rfl) (Nat.le_of_ble_eq_true rfl) (Nat.le_of_ble_eq_true rfl) hlocks hP (Option.some.inj hf) (Nat.le_of_ble_eq_true rfl) (Nat.le_of_ble_eq_true rfl)
  unfold wf_W_table at hf
  refine lv_iload_n hx hb wd_W_table_0 rfl (lv_at hl 1 rfl) ?_
  refine lv_iconst (v := 0) hx hb wd_W_table_1 (by decide) ?_
  refine lv_iconst (v := 1) hx hb wd_W_table_2 (by decide) ?_
  obtain ⟨r2, σ1, hq, hf⟩ := wc_b2_e hf
  refine wx_calli (va_runS (As := [.int a1, .int 0, .int 1]) (rest := []) ⟨hx, hb, hml, hown, hts⟩ (wm_W_isOutside l D ad cI cZ cJ cG _ a1 0 1 σ _ hq) (wx_cwS 3 hts wt_263 wt_262 wt_1 wt_261 wh_W_isOutside rfl rfl ⟨Nat.le_of_ble_eq_true rfl, Nat.le_of_ble_eq_true rfl⟩) (wx_preS hK hP hD hS hA hC) rfl rfl hl.1 rfl (lv_room (Nat.le_of_ble_eq_true rfl)) wd_W_table_3 ⟨Nat.le_of_ble_eq_true rfl, Nat.le_of_ble_eq_true rfl⟩) hD hS hA (fun H locs hP hD hS => ?_)
  refine lv_if_eq (tgt := 19) hx hb wd_W_table_6 (by decide) (fun c3 => ?_) (fun c3 => ?_)
  · have hf := wc_t c3 hf
    refine lv_iload_n hx hb wd_W_table_19 rfl (lv_at hl 2 rfl) ?_
    refine lv_iconst (v := 0) hx hb wd_W_table_20 (by decide) ?_
    refine lv_sipush (v := 1000) hx hb wd_W_table_21 (by decide) ?_
    obtain ⟨r5, σ4, hq, hf⟩ := wc_b2_e hf
    refine wx_calli (va_runS (As := [.int a2, .int 0, .int 1000]) (rest := []) ⟨hx, hb, hml, hown, hts⟩ (wm_W_isOutside l D ad cI cZ cJ cG _ a2 0 1000 σ1 _ hq) (wx_cwS 3 hts wt_263 wt_262 wt_1 wt_261 wh_W_isOutside rfl rfl ⟨Nat.le_of_ble_eq_true rfl, Nat.le_of_ble_eq_true rfl⟩) (wx_preS hK hP hD hS hA hC) rfl rfl hl.1 rfl (lv_room (Nat.le_of_ble_eq_true rfl)) wd_W_table_24 ⟨Nat.le_of_ble_eq_true rfl, Nat.le_of_ble_eq_true rfl⟩) hD hS hA (fun H locs hP hD hS => ?_)
    refine lv_if_ne (tgt := 53) hx hb wd_W_table_27 (by decide) (fun c6 => ?_) (fun c6 => ?_)
    · have hf := wc_f c6 hf
      exact J53  σ4 hf _ _ _ hP hD hS (lv_sub hl [] rfl)
    · have hf := wc_t c6 hf
      refine lv_iload_n hx hb wd_W_table_30 rfl (lv_at hl 3 rfl) ?_
      refine lv_iload_n hx hb wd_W_table_31 rfl (lv_at hl 2 rfl) ?_
      refine lv_sipush (v := 1000) hx hb wd_W_table_32 (by decide) ?_
      obtain ⟨r8, σ7, hq, hf⟩ := wc_b2_e hf
      refine wx_calli (va_runS (As := [.int a3, .int a2, .int 1000]) (rest := []) ⟨hx, hb, hml, hown, hts⟩ (wm_W_isOutside l D ad cI cZ cJ cG _ a3 a2 1000 σ4 _ hq) (wx_cwS 3 hts wt_263 wt_262 wt_1 wt_261 wh_W_isOutside rfl rfl ⟨Nat.le_of_ble_eq_true rfl, Nat.le_of_ble_eq_true rfl⟩) (wx_preS hK hP hD hS hA hC) rfl rfl hl.1 rfl (lv_room (Nat.le_of_ble_eq_true rfl)) wd_W_table_35 ⟨Nat.le_of_ble_eq_true rfl, Nat.le_of_ble_eq_true rfl⟩) hD hS hA (fun H locs hP hD hS => ?_)
      refine lv_if_ne (tgt := 53) hx hb wd_W_table_38 (by decide) (fun c9 => ?_) (fun c9 => ?_)
      · have hf := wc_f c9 hf
        exact J53  σ7 hf _ _ _ hP hD hS (lv_sub hl [] rfl)
      · have hf := wc_t c9 hf
        refine lv_iload hx hb wd_W_table_41 (lv_at hl 4 rfl) ?_
        refine lv_iconst (v := 0) hx hb wd_W_table_43 (by decide) ?_
        refine lv_sipush (v := 10000) hx hb wd_W_table_44 (by decide) ?_
        obtain ⟨r11, σ10, hq, hf⟩ := wc_b2_e hf
        refine wx_calli (va_runS (As := [.int a4, .int 0, .int 10000]) (rest := []) ⟨hx, hb, hml, hown, hts⟩ (wm_W_isOutside l D ad cI cZ cJ cG _ a4 0 10000 σ7 _ hq) (wx_cwS 3 hts wt_263 wt_262 wt_1 wt_261 wh_W_isOutside rfl rfl ⟨Nat.le_of_ble_eq_true rfl, Nat.le_of_ble_eq_true rfl⟩) (wx_preS hK hP hD hS hA hC) rfl rfl hl.1 rfl (lv_room (Nat.le_of_ble_eq_true rfl)) wd_W_table_47 ⟨Nat.le_of_ble_eq_true rfl, Nat.le_of_ble_eq_true rfl⟩) hD hS hA (fun H locs hP hD hS => ?_)
        refine lv_if_eq (tgt := 63) hx hb wd_W_table_50 (by decide) (fun c12 => ?_) (fun c12 => ?_)
        · have hf := wc_t c12 hf
          refine lv_iload_n hx hb wd_W_table_63 rfl (lv_at hl 1 rfl) ?_
          refine lv_if_ne (tgt := 77) hx hb wd_W_table_64 (by decide) (fun c13 => ?_) (fun c13 => ?_)
          · have hf := wc_f c13 hf
            refine lv_aload_n hx hb wd_W_table_77 rfl (lv_at hl 0 rfl) ?_
            refine wx_get (v := .ref (ad 1)) (C := "WidthCampaigns") (T := wx_TW) (N' := 7) hx hb hts wi_W hown hK hP 0 (by decide) rfl rfl 0 (by decide) wt_219 (fun _ h9 => h9) rfl wd_W_table_78 ?_
            refine wx_getN (v := .ref (ad 22)) (C := "WidthCampaigns$Plant") (T := wx_TP) (N' := 15) hx hb hts wi_P hown hK hP 1 (by decide) rfl rfl 8 (by decide) (hN.1 _ (List.mem_of_getElem? (i := 29) rfl) #[]) (fun _ h9 => h9) rfl wd_W_table_81 ?_
            exact J84 a2 a3 a4 22 (Or.inr rfl) σ10 hf _ _ _ hP hD hS (lv_sub hl [0, 2, 3, 4] rfl)
          · have hf := wc_t c13 hf
            refine lv_aload_n hx hb wd_W_table_67 rfl (lv_at hl 0 rfl) ?_
            refine wx_get (v := .ref (ad 1)) (C := "WidthCampaigns") (T := wx_TW) (N' := 7) hx hb hts wi_W hown hK hP 0 (by decide) rfl rfl 0 (by decide) wt_219 (fun _ h9 => h9) rfl wd_W_table_68 ?_
            refine wx_getN (v := .ref (ad 18)) (C := "WidthCampaigns$Plant") (T := wx_TP) (N' := 15) hx hb hts wi_P hown hK hP 1 (by decide) rfl rfl 7 (by decide) (hN.1 _ (List.mem_of_getElem? (i := 33) rfl) #[]) (fun _ h9 => h9) rfl wd_W_table_71 ?_
            refine lv_goto (tgt := 84) hx hb wd_W_table_74 (by decide) ?_
            exact J84 a2 a3 a4 18 (Or.inl rfl) σ10 hf _ _ _ hP hD hS (lv_sub hl [0, 2, 3, 4] rfl)
        · have hf := wc_f c12 hf
          exact J53  σ10 hf _ _ _ hP hD hS (lv_sub hl [] rfl)
  · have hf := wc_f c3 hf
    exact wz_throw (k := 0) (ik := 68) (ic := 72) hx hb htr hown hts hC wt_380 wt_14 (List.mem_of_getElem? (i := 6) rfl) wa_0_72 hS (hl.1.trans hml.symm) wd_W_table_9 wd_W_table_12 wd_W_table_13 wd_W_table_15 wd_W_table_18 ht (Nat.le_of_ble_eq_true rfl) (Nat.le_of_ble_eq_true rfl) (Nat.le_of_ble_eq_true rfl) (Nat.le_of_ble_eq_true rfl) hlocks hP (Option.some.inj hf) (Nat.le_of_ble_eq_true rfl) (Nat.le_of_ble_eq_true rfl)
set_option maxHeartbeats 4000000 in
set_option maxRecDepth 100000 in
theorem wm_W_group (l : Launch) (D : va_G) (ad : Nat → Nat) (cI cZ cJ cG : ClassId) (htr : l.stackTraces = false) (sz : Nat) (a1 : Int32) (a2 : Int32) (a3 : Int32) (σ : wc_S) (res : wc_X (Int32 × wc_S)) (hf : wf_W_group a1 a2 a3 σ = some res) : wz_Met l wy_W_group (wx_ws_W_group) ({ frames := 7, cells := 1, slots := 6, locals := 110 }) (va_Pc [.ref (ad 0), .int a1, .int a2, .int a3] (wx_pre D ad cI cZ cJ cG σ sz)) (wx_Qix D ad cI cZ cJ cG res (va_A (wx_W ad cI cZ cJ cG σ) sz)) (wx_XC D ad cI cZ cJ cG res (va_A (wx_W ad cI cZ cJ cG σ) sz)) 1 6 (va_A (wx_W ad cI cZ cJ cG σ) sz) := by
  refine wx_ofX (cc := prog_1_method_4_code) (maxL := 4) (ret := (some .int)) (Qc := fun A => wx_Qix D ad cI cZ cJ cG res A) (XC := fun A => wx_XC D ad cI cZ cJ cG res A) [.ref (ad 0), .int a1, .int a2, .int a3] (by decide) rfl (Nat.le_of_ble_eq_true rfl) ?_
  intro p e s m args below meth c A ls hin ht hl
  obtain ⟨hx, hb, hr, hts, hown, hlocks, hml, hA, hP, hK, hD, hC, hN, hS⟩ := hin
  have hl : lv_has ls 4 [(0, .ref (ad 0)), (1, .int a1), (2, .int a2), (3, .int a3)] := hl
  have J33 : ∀ (σ : wc_S), wf_W_group_33  σ = some res → wx_Arr p l e ({ frames := 7, cells := 1, slots := 6, locals := 110 }) s m args below meth c D ad cI cZ cJ cG A (wz_MQ below (wx_Qix D ad cI cZ cJ cG res A) (wx_XC D ad cI cZ cJ cG res A) args s 1 6 A) 4 0 0 33 [] [] σ := by
    intro   σ hf H locs ls hP hD hS hl
    unfold wf_W_group_33 at hf
    exact wz_throw (k := 2) (ik := 45) (ic := 49) hx hb htr hown hts hC wt_264 wt_11 (List.mem_of_getElem? (i := 7) rfl) wa_2_49 hS (hl.1.trans hml.symm) wd_W_group_33 wd_W_group_36 wd_W_group_37 wd_W_group_39 wd_W_group_42 ht (Nat.le_of_ble_eq_true rfl) (Nat.le_of_ble_eq_true rfl) (Nat.le_of_ble_eq_true rfl) (Nat.le_of_ble_eq_true rfl) hlocks hP (Option.some.inj hf) (Nat.le_of_ble_eq_true rfl) (Nat.le_of_ble_eq_true rfl)
  unfold wf_W_group at hf
  refine lv_iload_n hx hb wd_W_group_0 rfl (lv_at hl 1 rfl) ?_
  refine lv_iconst (v := 1) hx hb wd_W_group_1 (by decide) ?_
  refine lv_sipush (v := 2000) hx hb wd_W_group_2 (by decide) ?_
  obtain ⟨r2, σ1, hq, hf⟩ := wc_b2_e hf
  refine wx_calli (va_runS (As := [.int a1, .int 1, .int 2000]) (rest := []) ⟨hx, hb, hml, hown, hts⟩ (wm_W_isOutside l D ad cI cZ cJ cG _ a1 1 2000 σ _ hq) (wx_cwS 3 hts wt_263 wt_262 wt_1 wt_261 wh_W_isOutside rfl rfl ⟨Nat.le_of_ble_eq_true rfl, Nat.le_of_ble_eq_true rfl⟩) (wx_preS hK hP hD hS hA hC) rfl rfl hl.1 rfl (lv_room (Nat.le_of_ble_eq_true rfl)) wd_W_group_5 ⟨Nat.le_of_ble_eq_true rfl, Nat.le_of_ble_eq_true rfl⟩) hD hS hA (fun H locs hP hD hS => ?_)
  refine lv_if_ne (tgt := 33) hx hb wd_W_group_8 (by decide) (fun c3 => ?_) (fun c3 => ?_)
  · have hf := wc_f c3 hf
    exact J33  σ1 hf _ _ _ hP hD hS (lv_sub hl [] rfl)
  · have hf := wc_t c3 hf
    refine lv_iload_n hx hb wd_W_group_11 rfl (lv_at hl 2 rfl) ?_
    refine lv_iload_n hx hb wd_W_group_12 rfl (lv_at hl 1 rfl) ?_
    refine lv_sipush (v := 2000) hx hb wd_W_group_13 (by decide) ?_
    obtain ⟨r5, σ4, hq, hf⟩ := wc_b2_e hf
    refine wx_calli (va_runS (As := [.int a2, .int a1, .int 2000]) (rest := []) ⟨hx, hb, hml, hown, hts⟩ (wm_W_isOutside l D ad cI cZ cJ cG _ a2 a1 2000 σ1 _ hq) (wx_cwS 3 hts wt_263 wt_262 wt_1 wt_261 wh_W_isOutside rfl rfl ⟨Nat.le_of_ble_eq_true rfl, Nat.le_of_ble_eq_true rfl⟩) (wx_preS hK hP hD hS hA hC) rfl rfl hl.1 rfl (lv_room (Nat.le_of_ble_eq_true rfl)) wd_W_group_16 ⟨Nat.le_of_ble_eq_true rfl, Nat.le_of_ble_eq_true rfl⟩) hD hS hA (fun H locs hP hD hS => ?_)
    refine lv_if_ne (tgt := 33) hx hb wd_W_group_19 (by decide) (fun c6 => ?_) (fun c6 => ?_)
    · have hf := wc_f c6 hf
      exact J33  σ4 hf _ _ _ hP hD hS (lv_sub hl [] rfl)
    · have hf := wc_t c6 hf
      refine lv_iload_n hx hb wd_W_group_22 rfl (lv_at hl 3 rfl) ?_
      refine lv_iconst (v := 1) hx hb wd_W_group_23 (by decide) ?_
      refine lv_sipush (v := 1000) hx hb wd_W_group_24 (by decide) ?_
      obtain ⟨r8, σ7, hq, hf⟩ := wc_b2_e hf
      refine wx_calli (va_runS (As := [.int a3, .int 1, .int 1000]) (rest := []) ⟨hx, hb, hml, hown, hts⟩ (wm_W_isOutside l D ad cI cZ cJ cG _ a3 1 1000 σ4 _ hq) (wx_cwS 3 hts wt_263 wt_262 wt_1 wt_261 wh_W_isOutside rfl rfl ⟨Nat.le_of_ble_eq_true rfl, Nat.le_of_ble_eq_true rfl⟩) (wx_preS hK hP hD hS hA hC) rfl rfl hl.1 rfl (lv_room (Nat.le_of_ble_eq_true rfl)) wd_W_group_27 ⟨Nat.le_of_ble_eq_true rfl, Nat.le_of_ble_eq_true rfl⟩) hD hS hA (fun H locs hP hD hS => ?_)
      refine lv_if_eq (tgt := 43) hx hb wd_W_group_30 (by decide) (fun c9 => ?_) (fun c9 => ?_)
      · have hf := wc_t c9 hf
        refine lv_aload_n hx hb wd_W_group_43 rfl (lv_at hl 0 rfl) ?_
        refine wx_get (v := .ref (ad 1)) (C := "WidthCampaigns") (T := wx_TW) (N' := 7) hx hb hts wi_W hown hK hP 0 (by decide) rfl rfl 0 (by decide) wt_219 (fun _ h9 => h9) rfl wd_W_group_44 ?_
        refine wx_getN (v := .ref (ad 26)) (C := "WidthCampaigns$Plant") (T := wx_TP) (N' := 15) hx hb hts wi_P hown hK hP 1 (by decide) rfl rfl 9 (by decide) (hN.1 _ (List.mem_of_getElem? (i := 34) rfl) #[]) (fun _ h9 => h9) rfl wd_W_group_47 ?_
        refine wx_getN (v := .int (σ7 26 3)) (C := "WidthCampaigns$WidthGroups") (T := wx_TG) (N' := 4) hx hb hts wi_G hown hK hP 26 (by decide) rfl rfl 3 (by decide) (hN.1 _ (List.mem_of_getElem? (i := 35) rfl) #[]) (fun _ h9 => h9) rfl wd_W_group_50 ?_
        refine lv_topi (fun v10 ev10 => ?_)
        have hf := wc_st_e ev10 hf
        refine lv_iconst (v := 4) hx hb wd_W_group_53 (by decide) ?_
        refine lv_icmp_lt (tgt := 67) hx hb wd_W_group_54 (by decide) (fun c11 => ?_) (fun c11 => ?_)
        · have hf := wc_t c11 hf
          refine lv_aload_n hx hb wd_W_group_67 rfl (lv_at hl 0 rfl) ?_
          obtain ⟨σ12, hq, hf⟩ := wc_b1_e hf
          refine wx_callv (va_runV (As := []) (rest := []) ⟨hx, hb, hml, hown, hts⟩ (wm_W_forgetOrder l D ad cI cZ cJ cG _ σ7 _ hq) (wx_cwV 0 hts wt_352 wt_351 wp_2 wt_1 wt_349 wh_W_forgetOrder rfl rfl ⟨Nat.le_of_ble_eq_true rfl, Nat.le_of_ble_eq_true rfl⟩) (wx_preV hK hP hD hS hA hC (by decide) rfl rfl) rfl rfl hl.1 rfl (lv_room (Nat.le_of_ble_eq_true rfl)) wd_W_group_68 ⟨Nat.le_of_ble_eq_true rfl, Nat.le_of_ble_eq_true rfl⟩) hD hS hA (fun H locs hP hD hS => ?_)
          refine lv_aload_n hx hb wd_W_group_71 rfl (lv_at hl 0 rfl) ?_
          refine wx_get (v := .ref (ad 1)) (C := "WidthCampaigns") (T := wx_TW) (N' := 7) hx hb hts wi_W hown hK hP 0 (by decide) rfl rfl 0 (by decide) wt_219 (fun _ h9 => h9) rfl wd_W_group_72 ?_
          refine wx_getN (v := .ref (ad 26)) (C := "WidthCampaigns$Plant") (T := wx_TP) (N' := 15) hx hb hts wi_P hown hK hP 1 (by decide) rfl rfl 9 (by decide) (hN.1 _ (List.mem_of_getElem? (i := 34) rfl) #[]) (fun _ h9 => h9) rfl wd_W_group_75 ?_
          refine lv_iload_n hx hb wd_W_group_78 rfl (lv_at hl 1 rfl) ?_
          refine lv_iload_n hx hb wd_W_group_79 rfl (lv_at hl 2 rfl) ?_
          refine lv_iload_n hx hb wd_W_group_80 rfl (lv_at hl 3 rfl) ?_
          obtain ⟨σ13, hq, hf⟩ := wc_b1_e hf
          refine wx_callv (va_runVN (As := [.int a1, .int a2, .int a3]) (rest := []) ⟨hx, hb, hml, hown, hts⟩ (wm_G_addGroup l D ad cI cZ cJ cG _ a1 a2 a3 σ12 _ hq) (wx_cwN 3 hts wt_415 wt_414 wp_8 wt_4 (hN.1 _ (List.mem_of_getElem? (i := 36) rfl) #[]) wh_G_addGroup rfl rfl ⟨Nat.le_of_ble_eq_true rfl, Nat.le_of_ble_eq_true rfl⟩) (wx_preV hK hP hD hS hA hC (by decide) rfl rfl) rfl rfl hl.1 rfl (lv_room (Nat.le_of_ble_eq_true rfl)) wd_W_group_81 ⟨Nat.le_of_ble_eq_true rfl, Nat.le_of_ble_eq_true rfl⟩) hD hS hA (fun H locs hP hD hS => ?_)
          refine lv_aload_n hx hb wd_W_group_84 rfl (lv_at hl 0 rfl) ?_
          refine wx_get (v := .ref (ad 1)) (C := "WidthCampaigns") (T := wx_TW) (N' := 7) hx hb hts wi_W hown hK hP 0 (by decide) rfl rfl 0 (by decide) wt_219 (fun _ h9 => h9) rfl wd_W_group_85 ?_
          refine wx_getN (v := .ref (ad 26)) (C := "WidthCampaigns$Plant") (T := wx_TP) (N' := 15) hx hb hts wi_P hown hK hP 1 (by decide) rfl rfl 9 (by decide) (hN.1 _ (List.mem_of_getElem? (i := 34) rfl) #[]) (fun _ h9 => h9) rfl wd_W_group_88 ?_
          refine wx_getN (v := .int (σ13 26 3)) (C := "WidthCampaigns$WidthGroups") (T := wx_TG) (N' := 4) hx hb hts wi_G hown hK hP 26 (by decide) rfl rfl 3 (by decide) (hN.1 _ (List.mem_of_getElem? (i := 35) rfl) #[]) (fun _ h9 => h9) rfl wd_W_group_91 ?_
          refine lv_topi (fun v14 ev14 => ?_)
          have hf := wc_st_e ev14 hf
          refine W.widen (k := 1) (n := 6) (by decide) (by decide) ?_
          refine wz_ret ?_
          exact wx_iretx hx hb hr hlocks hf hP hS wd_W_group_94
        · have hf := wc_f c11 hf
          exact wz_throw (k := 3) (ik := 56) (ic := 60) hx hb htr hown hts hC wt_333 wt_12 (List.mem_of_getElem? (i := 8) rfl) wa_3_60 hS (hl.1.trans hml.symm) wd_W_group_57 wd_W_group_60 wd_W_group_61 wd_W_group_63 wd_W_group_66 ht (Nat.le_of_ble_eq_true rfl) (Nat.le_of_ble_eq_true rfl) (Nat.le_of_ble_eq_true rfl) (Nat.le_of_ble_eq_true rfl) hlocks hP (Option.some.inj hf) (Nat.le_of_ble_eq_true rfl) (Nat.le_of_ble_eq_true rfl)
      · have hf := wc_f c9 hf
        exact J33  σ7 hf _ _ _ hP hD hS (lv_sub hl [] rfl)
set_option maxHeartbeats 4000000 in
set_option maxRecDepth 100000 in
theorem wm_W_urgent (l : Launch) (D : va_G) (ad : Nat → Nat) (cI cZ cJ cG : ClassId) (htr : l.stackTraces = false) (sz : Nat) (a1 : Int32) (a2 : Int32) (σ : wc_S) (res : wc_X wc_S) (hf : wf_W_urgent a1 a2 σ = some res) : wz_Met l wy_W_urgent (wx_ws_W_urgent) ({ frames := 7, cells := 1, slots := 6, locals := 110 }) (va_Pc [.ref (ad 0), .int a1, .int a2] (wx_pre D ad cI cZ cJ cG σ sz)) (wx_Qvx D ad cI cZ cJ cG res (va_A (wx_W ad cI cZ cJ cG σ) sz)) (wx_XC D ad cI cZ cJ cG res (va_A (wx_W ad cI cZ cJ cG σ) sz)) 1 6 (va_A (wx_W ad cI cZ cJ cG σ) sz) := by
  refine wx_ofX (cc := prog_1_method_5_code) (maxL := 3) (ret := none) (Qc := fun A => wx_Qvx D ad cI cZ cJ cG res A) (XC := fun A => wx_XC D ad cI cZ cJ cG res A) [.ref (ad 0), .int a1, .int a2] (by decide) rfl (Nat.le_of_ble_eq_true rfl) ?_
  intro p e s m args below meth c A ls hin ht hl
  obtain ⟨hx, hb, hr, hts, hown, hlocks, hml, hA, hP, hK, hD, hC, hN, hS⟩ := hin
  have hl : lv_has ls 3 [(0, .ref (ad 0)), (1, .int a1), (2, .int a2)] := hl
  unfold wf_W_urgent at hf
  refine lv_aload_n hx hb wd_W_urgent_0 rfl (lv_at hl 0 rfl) ?_
  refine lv_iload_n hx hb wd_W_urgent_1 rfl (lv_at hl 1 rfl) ?_
  obtain ⟨r2, σ1, hq, hf⟩ := wc_b2_e hf
  refine wx_calli (va_runV (As := [.int a1]) (rest := []) ⟨hx, hb, hml, hown, hts⟩ (wm_W_isNoCoil l D ad cI cZ cJ cG _ a1 σ _ hq) (wx_cwV 1 hts wt_426 wt_425 wp_9 wt_1 wt_423 wh_W_isNoCoil rfl rfl ⟨Nat.le_of_ble_eq_true rfl, Nat.le_of_ble_eq_true rfl⟩) (wx_preV hK hP hD hS hA hC (by decide) rfl rfl) rfl rfl hl.1 rfl (lv_room (Nat.le_of_ble_eq_true rfl)) wd_W_urgent_2 ⟨Nat.le_of_ble_eq_true rfl, Nat.le_of_ble_eq_true rfl⟩) hD hS hA (fun H locs hP hD hS => ?_)
  refine lv_if_eq (tgt := 18) hx hb wd_W_urgent_5 (by decide) (fun c3 => ?_) (fun c3 => ?_)
  · have hf := wc_t c3 hf
    refine lv_iload_n hx hb wd_W_urgent_18 rfl (lv_at hl 2 rfl) ?_
    refine lv_iconst (v := 0) hx hb wd_W_urgent_19 (by decide) ?_
    refine lv_bipush (v := 8) hx hb wd_W_urgent_20 (by decide) ?_
    obtain ⟨r5, σ4, hq, hf⟩ := wc_b2_e hf
    refine wx_calli (va_runS (As := [.int a2, .int 0, .int 8]) (rest := []) ⟨hx, hb, hml, hown, hts⟩ (wm_W_isOutside l D ad cI cZ cJ cG _ a2 0 8 σ1 _ hq) (wx_cwS 3 hts wt_263 wt_262 wt_1 wt_261 wh_W_isOutside rfl rfl ⟨Nat.le_of_ble_eq_true rfl, Nat.le_of_ble_eq_true rfl⟩) (wx_preS hK hP hD hS hA hC) rfl rfl hl.1 rfl (lv_room (Nat.le_of_ble_eq_true rfl)) wd_W_urgent_22 ⟨Nat.le_of_ble_eq_true rfl, Nat.le_of_ble_eq_true rfl⟩) hD hS hA (fun H locs hP hD hS => ?_)
    refine lv_if_eq (tgt := 38) hx hb wd_W_urgent_25 (by decide) (fun c6 => ?_) (fun c6 => ?_)
    · have hf := wc_t c6 hf
      refine lv_aload_n hx hb wd_W_urgent_38 rfl (lv_at hl 0 rfl) ?_
      obtain ⟨σ7, hq, hf⟩ := wc_b1_e hf
      refine wx_callv (va_runV (As := []) (rest := []) ⟨hx, hb, hml, hown, hts⟩ (wm_W_forgetOrder l D ad cI cZ cJ cG _ σ4 _ hq) (wx_cwV 0 hts wt_352 wt_351 wp_2 wt_1 wt_349 wh_W_forgetOrder rfl rfl ⟨Nat.le_of_ble_eq_true rfl, Nat.le_of_ble_eq_true rfl⟩) (wx_preV hK hP hD hS hA hC (by decide) rfl rfl) rfl rfl hl.1 rfl (lv_room (Nat.le_of_ble_eq_true rfl)) wd_W_urgent_39 ⟨Nat.le_of_ble_eq_true rfl, Nat.le_of_ble_eq_true rfl⟩) hD hS hA (fun H locs hP hD hS => ?_)
      refine lv_aload_n hx hb wd_W_urgent_42 rfl (lv_at hl 0 rfl) ?_
      refine wx_get (v := .ref (ad 1)) (C := "WidthCampaigns") (T := wx_TW) (N' := 7) hx hb hts wi_W hown hK hP 0 (by decide) rfl rfl 0 (by decide) wt_219 (fun _ h9 => h9) rfl wd_W_urgent_43 ?_
      refine wx_getN (v := .ref (ad 6)) (C := "WidthCampaigns$Plant") (T := wx_TP) (N' := 15) hx hb hts wi_P hown hK hP 1 (by decide) rfl rfl 4 (by decide) (hN.1 _ (List.mem_of_getElem? (i := 37) rfl) #[]) (fun _ h9 => h9) rfl wd_W_urgent_46 ?_
      refine lv_iload_n hx hb wd_W_urgent_49 rfl (lv_at hl 1 rfl) ?_
      refine lv_iload_n hx hb wd_W_urgent_50 rfl (lv_at hl 2 rfl) ?_
      obtain ⟨h8, hf⟩ := wc_gd_e hf
      refine wx_iast hx hb hK hP hD hS 6 (n := 9) (by decide) (fun _ => rfl) h8 wd_W_urgent_51 (fun σ9 H locs eσ9 hP hD hS => ?_)
      have hf := wc_st_e eσ9 hf
      refine W.widen (k := 1) (n := 6) (by decide) (by decide) ?_
      refine wz_ret ?_
      exact wx_vretx hx hb hr hlocks hf hP hS wd_W_urgent_52
    · have hf := wc_f c6 hf
      exact wz_throw (k := 2) (ik := 45) (ic := 49) hx hb htr hown hts hC wt_264 wt_11 (List.mem_of_getElem? (i := 9) rfl) wa_2_49 hS (hl.1.trans hml.symm) wd_W_urgent_28 wd_W_urgent_31 wd_W_urgent_32 wd_W_urgent_34 wd_W_urgent_37 ht (Nat.le_of_ble_eq_true rfl) (Nat.le_of_ble_eq_true rfl) (Nat.le_of_ble_eq_true rfl) (Nat.le_of_ble_eq_true rfl) hlocks hP (Option.some.inj hf) (Nat.le_of_ble_eq_true rfl) (Nat.le_of_ble_eq_true rfl)
  · have hf := wc_f c3 hf
    exact wz_throw (k := 0) (ik := 68) (ic := 72) hx hb htr hown hts hC wt_380 wt_14 (List.mem_of_getElem? (i := 10) rfl) wa_0_72 hS (hl.1.trans hml.symm) wd_W_urgent_8 wd_W_urgent_11 wd_W_urgent_12 wd_W_urgent_14 wd_W_urgent_17 ht (Nat.le_of_ble_eq_true rfl) (Nat.le_of_ble_eq_true rfl) (Nat.le_of_ble_eq_true rfl) (Nat.le_of_ble_eq_true rfl) hlocks hP (Option.some.inj hf) (Nat.le_of_ble_eq_true rfl) (Nat.le_of_ble_eq_true rfl)
set_option maxHeartbeats 4000000 in
set_option maxRecDepth 100000 in
theorem wm_W_old (l : Launch) (D : va_G) (ad : Nat → Nat) (cI cZ cJ cG : ClassId) (htr : l.stackTraces = false) (sz : Nat) (a1 : Int32) (a2 : Int32) (σ : wc_S) (res : wc_X wc_S) (hf : wf_W_old a1 a2 σ = some res) : wz_Met l wy_W_old (wx_ws_W_old) ({ frames := 7, cells := 1, slots := 6, locals := 110 }) (va_Pc [.ref (ad 0), .int a1, .int a2] (wx_pre D ad cI cZ cJ cG σ sz)) (wx_Qvx D ad cI cZ cJ cG res (va_A (wx_W ad cI cZ cJ cG σ) sz)) (wx_XC D ad cI cZ cJ cG res (va_A (wx_W ad cI cZ cJ cG σ) sz)) 1 6 (va_A (wx_W ad cI cZ cJ cG σ) sz) := by
  refine wx_ofX (cc := prog_1_method_6_code) (maxL := 3) (ret := none) (Qc := fun A => wx_Qvx D ad cI cZ cJ cG res A) (XC := fun A => wx_XC D ad cI cZ cJ cG res A) [.ref (ad 0), .int a1, .int a2] (by decide) rfl (Nat.le_of_ble_eq_true rfl) ?_
  intro p e s m args below meth c A ls hin ht hl
  obtain ⟨hx, hb, hr, hts, hown, hlocks, hml, hA, hP, hK, hD, hC, hN, hS⟩ := hin
  have hl : lv_has ls 3 [(0, .ref (ad 0)), (1, .int a1), (2, .int a2)] := hl
  unfold wf_W_old at hf
  refine lv_aload_n hx hb wd_W_old_0 rfl (lv_at hl 0 rfl) ?_
  refine lv_iload_n hx hb wd_W_old_1 rfl (lv_at hl 1 rfl) ?_
  obtain ⟨r2, σ1, hq, hf⟩ := wc_b2_e hf
  refine wx_calli (va_runV (As := [.int a1]) (rest := []) ⟨hx, hb, hml, hown, hts⟩ (wm_W_isNoCoil l D ad cI cZ cJ cG _ a1 σ _ hq) (wx_cwV 1 hts wt_426 wt_425 wp_9 wt_1 wt_423 wh_W_isNoCoil rfl rfl ⟨Nat.le_of_ble_eq_true rfl, Nat.le_of_ble_eq_true rfl⟩) (wx_preV hK hP hD hS hA hC (by decide) rfl rfl) rfl rfl hl.1 rfl (lv_room (Nat.le_of_ble_eq_true rfl)) wd_W_old_2 ⟨Nat.le_of_ble_eq_true rfl, Nat.le_of_ble_eq_true rfl⟩) hD hS hA (fun H locs hP hD hS => ?_)
  refine lv_if_eq (tgt := 18) hx hb wd_W_old_5 (by decide) (fun c3 => ?_) (fun c3 => ?_)
  · have hf := wc_t c3 hf
    refine lv_iload_n hx hb wd_W_old_18 rfl (lv_at hl 2 rfl) ?_
    refine lv_iconst (v := (-1)) hx hb wd_W_old_19 (by decide) ?_
    refine lv_bipush (v := 8) hx hb wd_W_old_20 (by decide) ?_
    obtain ⟨r5, σ4, hq, hf⟩ := wc_b2_e hf
    refine wx_calli (va_runS (As := [.int a2, .int (-1), .int 8]) (rest := []) ⟨hx, hb, hml, hown, hts⟩ (wm_W_isOutside l D ad cI cZ cJ cG _ a2 (-1) 8 σ1 _ hq) (wx_cwS 3 hts wt_263 wt_262 wt_1 wt_261 wh_W_isOutside rfl rfl ⟨Nat.le_of_ble_eq_true rfl, Nat.le_of_ble_eq_true rfl⟩) (wx_preS hK hP hD hS hA hC) rfl rfl hl.1 rfl (lv_room (Nat.le_of_ble_eq_true rfl)) wd_W_old_22 ⟨Nat.le_of_ble_eq_true rfl, Nat.le_of_ble_eq_true rfl⟩) hD hS hA (fun H locs hP hD hS => ?_)
    refine lv_if_eq (tgt := 38) hx hb wd_W_old_25 (by decide) (fun c6 => ?_) (fun c6 => ?_)
    · have hf := wc_t c6 hf
      refine lv_aload_n hx hb wd_W_old_38 rfl (lv_at hl 0 rfl) ?_
      obtain ⟨σ7, hq, hf⟩ := wc_b1_e hf
      refine wx_callv (va_runV (As := []) (rest := []) ⟨hx, hb, hml, hown, hts⟩ (wm_W_forgetOrder l D ad cI cZ cJ cG _ σ4 _ hq) (wx_cwV 0 hts wt_352 wt_351 wp_2 wt_1 wt_349 wh_W_forgetOrder rfl rfl ⟨Nat.le_of_ble_eq_true rfl, Nat.le_of_ble_eq_true rfl⟩) (wx_preV hK hP hD hS hA hC (by decide) rfl rfl) rfl rfl hl.1 rfl (lv_room (Nat.le_of_ble_eq_true rfl)) wd_W_old_39 ⟨Nat.le_of_ble_eq_true rfl, Nat.le_of_ble_eq_true rfl⟩) hD hS hA (fun H locs hP hD hS => ?_)
      refine lv_aload_n hx hb wd_W_old_42 rfl (lv_at hl 0 rfl) ?_
      refine wx_get (v := .ref (ad 1)) (C := "WidthCampaigns") (T := wx_TW) (N' := 7) hx hb hts wi_W hown hK hP 0 (by decide) rfl rfl 0 (by decide) wt_219 (fun _ h9 => h9) rfl wd_W_old_43 ?_
      refine wx_getN (v := .ref (ad 7)) (C := "WidthCampaigns$Plant") (T := wx_TP) (N' := 15) hx hb hts wi_P hown hK hP 1 (by decide) rfl rfl 5 (by decide) (hN.1 _ (List.mem_of_getElem? (i := 38) rfl) #[]) (fun _ h9 => h9) rfl wd_W_old_46 ?_
      refine lv_iload_n hx hb wd_W_old_49 rfl (lv_at hl 1 rfl) ?_
      refine lv_iload_n hx hb wd_W_old_50 rfl (lv_at hl 2 rfl) ?_
      obtain ⟨h8, hf⟩ := wc_gd_e hf
      refine wx_iast hx hb hK hP hD hS 7 (n := 9) (by decide) (fun _ => rfl) h8 wd_W_old_51 (fun σ9 H locs eσ9 hP hD hS => ?_)
      have hf := wc_st_e eσ9 hf
      refine W.widen (k := 1) (n := 6) (by decide) (by decide) ?_
      refine wz_ret ?_
      exact wx_vretx hx hb hr hlocks hf hP hS wd_W_old_52
    · have hf := wc_f c6 hf
      exact wz_throw (k := 2) (ik := 45) (ic := 49) hx hb htr hown hts hC wt_264 wt_11 (List.mem_of_getElem? (i := 11) rfl) wa_2_49 hS (hl.1.trans hml.symm) wd_W_old_28 wd_W_old_31 wd_W_old_32 wd_W_old_34 wd_W_old_37 ht (Nat.le_of_ble_eq_true rfl) (Nat.le_of_ble_eq_true rfl) (Nat.le_of_ble_eq_true rfl) (Nat.le_of_ble_eq_true rfl) hlocks hP (Option.some.inj hf) (Nat.le_of_ble_eq_true rfl) (Nat.le_of_ble_eq_true rfl)
  · have hf := wc_f c3 hf
    exact wz_throw (k := 0) (ik := 68) (ic := 72) hx hb htr hown hts hC wt_380 wt_14 (List.mem_of_getElem? (i := 10) rfl) wa_0_72 hS (hl.1.trans hml.symm) wd_W_old_8 wd_W_old_11 wd_W_old_12 wd_W_old_14 wd_W_old_17 ht (Nat.le_of_ble_eq_true rfl) (Nat.le_of_ble_eq_true rfl) (Nat.le_of_ble_eq_true rfl) (Nat.le_of_ble_eq_true rfl) hlocks hP (Option.some.inj hf) (Nat.le_of_ble_eq_true rfl) (Nat.le_of_ble_eq_true rfl)
set_option maxHeartbeats 4000000 in
set_option maxRecDepth 100000 in
theorem wm_W_rules (l : Launch) (D : va_G) (ad : Nat → Nat) (cI cZ cJ cG : ClassId) (htr : l.stackTraces = false) (sz : Nat) (a1 : Int32) (a2 : Int32) (a3 : Int32) (a4 : Int32) (σ : wc_S) (res : wc_X wc_S) (hf : wf_W_rules a1 a2 a3 a4 σ = some res) : wz_Met l wy_W_rules (wx_ws_W_rules) ({ frames := 7, cells := 1, slots := 6, locals := 110 }) (va_Pc [.ref (ad 0), .int a1, .int a2, .int a3, .int a4] (wx_pre D ad cI cZ cJ cG σ sz)) (wx_Qvx D ad cI cZ cJ cG res (va_A (wx_W ad cI cZ cJ cG σ) sz)) (wx_XC D ad cI cZ cJ cG res (va_A (wx_W ad cI cZ cJ cG σ) sz)) 1 6 (va_A (wx_W ad cI cZ cJ cG σ) sz) := by
  refine wx_ofX (cc := prog_1_method_7_code) (maxL := 5) (ret := none) (Qc := fun A => wx_Qvx D ad cI cZ cJ cG res A) (XC := fun A => wx_XC D ad cI cZ cJ cG res A) [.ref (ad 0), .int a1, .int a2, .int a3, .int a4] (by decide) rfl (Nat.le_of_ble_eq_true rfl) ?_
  intro p e s m args below meth c A ls hin ht hl
  obtain ⟨hx, hb, hr, hts, hown, hlocks, hml, hA, hP, hK, hD, hC, hN, hS⟩ := hin
  have hl : lv_has ls 5 [(0, .ref (ad 0)), (1, .int a1), (2, .int a2), (3, .int a3), (4, .int a4)] := hl
  have J44 : ∀ (σ : wc_S), wf_W_rules_44  σ = some res → wx_Arr p l e ({ frames := 7, cells := 1, slots := 6, locals := 110 }) s m args below meth c D ad cI cZ cJ cG A (wz_MQ below (wx_Qvx D ad cI cZ cJ cG res A) (wx_XC D ad cI cZ cJ cG res A) args s 1 6 A) 5 0 0 44 [] [] σ := by
    intro   σ hf H locs ls hP hD hS hl
    unfold wf_W_rules_44 at hf
    exact wz_throw (k := 2) (ik := 45) (ic := 49) hx hb htr hown hts hC wt_264 wt_11 (List.mem_of_getElem? (i := 12) rfl) wa_2_49 hS (hl.1.trans hml.symm) wd_W_rules_44 wd_W_rules_47 wd_W_rules_48 wd_W_rules_50 wd_W_rules_53 ht (Nat.le_of_ble_eq_true rfl) (Nat.le_of_ble_eq_true rfl) (Nat.le_of_ble_eq_true rfl) (Nat.le_of_ble_eq_true rfl) hlocks hP (Option.some.inj hf) (Nat.le_of_ble_eq_true rfl) (Nat.le_of_ble_eq_true rfl)
  unfold wf_W_rules at hf
  refine lv_iload_n hx hb wd_W_rules_0 rfl (lv_at hl 1 rfl) ?_
  refine lv_iconst (v := 0) hx hb wd_W_rules_1 (by decide) ?_
  refine lv_bipush (v := 9) hx hb wd_W_rules_2 (by decide) ?_
  obtain ⟨r2, σ1, hq, hf⟩ := wc_b2_e hf
  refine wx_calli (va_runS (As := [.int a1, .int 0, .int 9]) (rest := []) ⟨hx, hb, hml, hown, hts⟩ (wm_W_isOutside l D ad cI cZ cJ cG _ a1 0 9 σ _ hq) (wx_cwS 3 hts wt_263 wt_262 wt_1 wt_261 wh_W_isOutside rfl rfl ⟨Nat.le_of_ble_eq_true rfl, Nat.le_of_ble_eq_true rfl⟩) (wx_preS hK hP hD hS hA hC) rfl rfl hl.1 rfl (lv_room (Nat.le_of_ble_eq_true rfl)) wd_W_rules_4 ⟨Nat.le_of_ble_eq_true rfl, Nat.le_of_ble_eq_true rfl⟩) hD hS hA (fun H locs hP hD hS => ?_)
  refine lv_if_ne (tgt := 44) hx hb wd_W_rules_7 (by decide) (fun c3 => ?_) (fun c3 => ?_)
  · have hf := wc_f c3 hf
    exact J44  σ1 hf _ _ _ hP hD hS (lv_sub hl [] rfl)
  · have hf := wc_t c3 hf
    refine lv_iload_n hx hb wd_W_rules_10 rfl (lv_at hl 2 rfl) ?_
    refine lv_iconst (v := 1) hx hb wd_W_rules_11 (by decide) ?_
    refine lv_sipush (v := 1000) hx hb wd_W_rules_12 (by decide) ?_
    obtain ⟨r5, σ4, hq, hf⟩ := wc_b2_e hf
    refine wx_calli (va_runS (As := [.int a2, .int 1, .int 1000]) (rest := []) ⟨hx, hb, hml, hown, hts⟩ (wm_W_isOutside l D ad cI cZ cJ cG _ a2 1 1000 σ1 _ hq) (wx_cwS 3 hts wt_263 wt_262 wt_1 wt_261 wh_W_isOutside rfl rfl ⟨Nat.le_of_ble_eq_true rfl, Nat.le_of_ble_eq_true rfl⟩) (wx_preS hK hP hD hS hA hC) rfl rfl hl.1 rfl (lv_room (Nat.le_of_ble_eq_true rfl)) wd_W_rules_15 ⟨Nat.le_of_ble_eq_true rfl, Nat.le_of_ble_eq_true rfl⟩) hD hS hA (fun H locs hP hD hS => ?_)
    refine lv_if_ne (tgt := 44) hx hb wd_W_rules_18 (by decide) (fun c6 => ?_) (fun c6 => ?_)
    · have hf := wc_f c6 hf
      exact J44  σ4 hf _ _ _ hP hD hS (lv_sub hl [] rfl)
    · have hf := wc_t c6 hf
      refine lv_iload_n hx hb wd_W_rules_21 rfl (lv_at hl 3 rfl) ?_
      refine lv_iconst (v := 0) hx hb wd_W_rules_22 (by decide) ?_
      refine lv_sipush (v := 10000) hx hb wd_W_rules_23 (by decide) ?_
      obtain ⟨r8, σ7, hq, hf⟩ := wc_b2_e hf
      refine wx_calli (va_runS (As := [.int a3, .int 0, .int 10000]) (rest := []) ⟨hx, hb, hml, hown, hts⟩ (wm_W_isOutside l D ad cI cZ cJ cG _ a3 0 10000 σ4 _ hq) (wx_cwS 3 hts wt_263 wt_262 wt_1 wt_261 wh_W_isOutside rfl rfl ⟨Nat.le_of_ble_eq_true rfl, Nat.le_of_ble_eq_true rfl⟩) (wx_preS hK hP hD hS hA hC) rfl rfl hl.1 rfl (lv_room (Nat.le_of_ble_eq_true rfl)) wd_W_rules_26 ⟨Nat.le_of_ble_eq_true rfl, Nat.le_of_ble_eq_true rfl⟩) hD hS hA (fun H locs hP hD hS => ?_)
      refine lv_if_ne (tgt := 44) hx hb wd_W_rules_29 (by decide) (fun c9 => ?_) (fun c9 => ?_)
      · have hf := wc_f c9 hf
        exact J44  σ7 hf _ _ _ hP hD hS (lv_sub hl [] rfl)
      · have hf := wc_t c9 hf
        refine lv_iload hx hb wd_W_rules_32 (lv_at hl 4 rfl) ?_
        refine lv_iconst (v := 0) hx hb wd_W_rules_34 (by decide) ?_
        refine lv_sipush (v := 10000) hx hb wd_W_rules_35 (by decide) ?_
        obtain ⟨r11, σ10, hq, hf⟩ := wc_b2_e hf
        refine wx_calli (va_runS (As := [.int a4, .int 0, .int 10000]) (rest := []) ⟨hx, hb, hml, hown, hts⟩ (wm_W_isOutside l D ad cI cZ cJ cG _ a4 0 10000 σ7 _ hq) (wx_cwS 3 hts wt_263 wt_262 wt_1 wt_261 wh_W_isOutside rfl rfl ⟨Nat.le_of_ble_eq_true rfl, Nat.le_of_ble_eq_true rfl⟩) (wx_preS hK hP hD hS hA hC) rfl rfl hl.1 rfl (lv_room (Nat.le_of_ble_eq_true rfl)) wd_W_rules_38 ⟨Nat.le_of_ble_eq_true rfl, Nat.le_of_ble_eq_true rfl⟩) hD hS hA (fun H locs hP hD hS => ?_)
        refine lv_if_eq (tgt := 54) hx hb wd_W_rules_41 (by decide) (fun c12 => ?_) (fun c12 => ?_)
        · have hf := wc_t c12 hf
          refine lv_aload_n hx hb wd_W_rules_54 rfl (lv_at hl 0 rfl) ?_
          obtain ⟨σ13, hq, hf⟩ := wc_b1_e hf
          refine wx_callv (va_runV (As := []) (rest := []) ⟨hx, hb, hml, hown, hts⟩ (wm_W_forgetOrder l D ad cI cZ cJ cG _ σ10 _ hq) (wx_cwV 0 hts wt_352 wt_351 wp_2 wt_1 wt_349 wh_W_forgetOrder rfl rfl ⟨Nat.le_of_ble_eq_true rfl, Nat.le_of_ble_eq_true rfl⟩) (wx_preV hK hP hD hS hA hC (by decide) rfl rfl) rfl rfl hl.1 rfl (lv_room (Nat.le_of_ble_eq_true rfl)) wd_W_rules_55 ⟨Nat.le_of_ble_eq_true rfl, Nat.le_of_ble_eq_true rfl⟩) hD hS hA (fun H locs hP hD hS => ?_)
          refine lv_aload_n hx hb wd_W_rules_58 rfl (lv_at hl 0 rfl) ?_
          refine wx_get (v := .ref (ad 1)) (C := "WidthCampaigns") (T := wx_TW) (N' := 7) hx hb hts wi_W hown hK hP 0 (by decide) rfl rfl 0 (by decide) wt_219 (fun _ h9 => h9) rfl wd_W_rules_59 ?_
          refine lv_iload_n hx hb wd_W_rules_62 rfl (lv_at hl 1 rfl) ?_
          refine wx_putN (x := a1) (ty := .int) (C := "WidthCampaigns$Plant") (T := wx_TP) (N' := 15) hx hb hts wi_P wx_tP wx_toP wx_nP hown hK hP hD hS 1 (by decide) (fun _ => rfl) rfl 11 (by decide) (hN.1 _ (List.mem_of_getElem? (i := 39) rfl) #[]) (fun _ h9 => h9) rfl (by decide +kernel) rfl rfl (Nat.le_of_ble_eq_true rfl) rfl wd_W_rules_63 (fun σ14 H locs eσ14 hP hD hS => ?_)
          have hf := wc_st_e eσ14 hf
          refine lv_aload_n hx hb wd_W_rules_66 rfl (lv_at hl 0 rfl) ?_
          refine wx_get (v := .ref (ad 1)) (C := "WidthCampaigns") (T := wx_TW) (N' := 7) hx hb hts wi_W hown hK hP 0 (by decide) rfl rfl 0 (by decide) wt_219 (fun _ h9 => h9) rfl wd_W_rules_67 ?_
          refine lv_iload_n hx hb wd_W_rules_70 rfl (lv_at hl 2 rfl) ?_
          refine wx_putN (x := a2) (ty := .int) (C := "WidthCampaigns$Plant") (T := wx_TP) (N' := 15) hx hb hts wi_P wx_tP wx_toP wx_nP hown hK hP hD hS 1 (by decide) (fun _ => rfl) rfl 12 (by decide) (hN.1 _ (List.mem_of_getElem? (i := 40) rfl) #[]) (fun _ h9 => h9) rfl (by decide +kernel) rfl rfl (Nat.le_of_ble_eq_true rfl) rfl wd_W_rules_71 (fun σ15 H locs eσ15 hP hD hS => ?_)
          have hf := wc_st_e eσ15 hf
          refine lv_aload_n hx hb wd_W_rules_74 rfl (lv_at hl 0 rfl) ?_
          refine wx_get (v := .ref (ad 1)) (C := "WidthCampaigns") (T := wx_TW) (N' := 7) hx hb hts wi_W hown hK hP 0 (by decide) rfl rfl 0 (by decide) wt_219 (fun _ h9 => h9) rfl wd_W_rules_75 ?_
          refine lv_iload_n hx hb wd_W_rules_78 rfl (lv_at hl 3 rfl) ?_
          refine wx_putN (x := a3) (ty := .int) (C := "WidthCampaigns$Plant") (T := wx_TP) (N' := 15) hx hb hts wi_P wx_tP wx_toP wx_nP hown hK hP hD hS 1 (by decide) (fun _ => rfl) rfl 13 (by decide) (hN.1 _ (List.mem_of_getElem? (i := 41) rfl) #[]) (fun _ h9 => h9) rfl (by decide +kernel) rfl rfl (Nat.le_of_ble_eq_true rfl) rfl wd_W_rules_79 (fun σ16 H locs eσ16 hP hD hS => ?_)
          have hf := wc_st_e eσ16 hf
          refine lv_aload_n hx hb wd_W_rules_82 rfl (lv_at hl 0 rfl) ?_
          refine wx_get (v := .ref (ad 1)) (C := "WidthCampaigns") (T := wx_TW) (N' := 7) hx hb hts wi_W hown hK hP 0 (by decide) rfl rfl 0 (by decide) wt_219 (fun _ h9 => h9) rfl wd_W_rules_83 ?_
          refine lv_iload hx hb wd_W_rules_86 (lv_at hl 4 rfl) ?_
          refine wx_putN (x := a4) (ty := .int) (C := "WidthCampaigns$Plant") (T := wx_TP) (N' := 15) hx hb hts wi_P wx_tP wx_toP wx_nP hown hK hP hD hS 1 (by decide) (fun _ => rfl) rfl 14 (by decide) (hN.1 _ (List.mem_of_getElem? (i := 42) rfl) #[]) (fun _ h9 => h9) rfl (by decide +kernel) rfl rfl (Nat.le_of_ble_eq_true rfl) rfl wd_W_rules_88 (fun σ17 H locs eσ17 hP hD hS => ?_)
          have hf := wc_st_e eσ17 hf
          refine W.widen (k := 1) (n := 6) (by decide) (by decide) ?_
          refine wz_ret ?_
          exact wx_vretx hx hb hr hlocks hf hP hS wd_W_rules_91
        · have hf := wc_f c12 hf
          exact J44  σ10 hf _ _ _ hP hD hS (lv_sub hl [] rfl)
set_option maxHeartbeats 4000000 in
set_option maxRecDepth 100000 in
theorem wm_W_run (l : Launch) (D : va_G) (ad : Nat → Nat) (cI cZ cJ cG : ClassId) (htr : l.stackTraces = false) (sz : Nat) (a1 : Int32) (σ : wc_S) (res : wc_X (Int32 × wc_S)) (hf : wf_W_run a1 σ = some res) : wz_Met l wy_W_run (wx_ws_W_run) ({ frames := 27, cells := 1, slots := 6, locals := 607 }) (va_Pc [.ref (ad 0), .int a1] (wx_pre D ad cI cZ cJ cG σ sz)) (wx_Qix D ad cI cZ cJ cG res (va_A (wx_W ad cI cZ cJ cG σ) sz)) (wx_XC D ad cI cZ cJ cG res (va_A (wx_W ad cI cZ cJ cG σ) sz)) 1 6 (va_A (wx_W ad cI cZ cJ cG σ) sz) := by
  refine wx_ofX (cc := prog_1_method_8_code) (maxL := 2) (ret := (some .int)) (Qc := fun A => wx_Qix D ad cI cZ cJ cG res A) (XC := fun A => wx_XC D ad cI cZ cJ cG res A) [.ref (ad 0), .int a1] (by decide) rfl (Nat.le_of_ble_eq_true rfl) ?_
  intro p e s m args below meth c A ls hin ht hl
  obtain ⟨hx, hb, hr, hts, hown, hlocks, hml, hA, hP, hK, hD, hC, hN, hS⟩ := hin
  have hl : lv_has ls 2 [(0, .ref (ad 0)), (1, .int a1)] := hl
  unfold wf_W_run at hf
  refine lv_iload_n hx hb wd_W_run_0 rfl (lv_at hl 1 rfl) ?_
  refine lv_iconst (v := 0) hx hb wd_W_run_1 (by decide) ?_
  refine lv_ldc (v := 100000) hx hb hown (wx_hw hts wt_452) wd_W_run_2 ?_
  obtain ⟨r2, σ1, hq, hf⟩ := wc_b2_e hf
  refine wx_calli (va_runS (As := [.int a1, .int 0, .int 100000]) (rest := []) ⟨hx, hb, hml, hown, hts⟩ (wm_W_isOutside l D ad cI cZ cJ cG _ a1 0 100000 σ _ hq) (wx_cwS 3 hts wt_263 wt_262 wt_1 wt_261 wh_W_isOutside rfl rfl ⟨Nat.le_of_ble_eq_true rfl, Nat.le_of_ble_eq_true rfl⟩) (wx_preS hK hP hD hS hA hC) rfl rfl hl.1 rfl (lv_room (Nat.le_of_ble_eq_true rfl)) wd_W_run_4 ⟨Nat.le_of_ble_eq_true rfl, Nat.le_of_ble_eq_true rfl⟩) hD hS hA (fun H locs hP hD hS => ?_)
  refine lv_if_eq (tgt := 20) hx hb wd_W_run_7 (by decide) (fun c3 => ?_) (fun c3 => ?_)
  · have hf := wc_t c3 hf
    refine lv_aload_n hx hb wd_W_run_20 rfl (lv_at hl 0 rfl) ?_
    refine wx_get (v := .ref (ad 68)) (C := "WidthCampaigns") (T := wx_TW) (N' := 7) hx hb hts wi_W hown hK hP 0 (by decide) rfl rfl 3 (by decide) wt_222 (fun _ h9 => h9) rfl wd_W_run_21 ?_
    refine lv_iload_n hx hb wd_W_run_24 rfl (lv_at hl 1 rfl) ?_
    obtain ⟨σ4, hq, hf⟩ := wc_b1_e hf
    refine wx_callv (va_runVN (As := [.int a1]) (rest := []) ⟨hx, hb, hml, hown, hts⟩ (wm_S_searchWith l D ad cI cZ cJ cG _ a1 σ1 _ hq) (wx_cwN 1 hts wt_457 wt_456 wp_10 wt_6 (hN.1 _ (List.mem_of_getElem? (i := 43) rfl) #[]) wh_S_searchWith rfl rfl ⟨Nat.le_of_ble_eq_true rfl, Nat.le_of_ble_eq_true rfl⟩) (wx_preV hK hP hD hS hA hC (by decide) rfl rfl) rfl rfl hl.1 rfl (lv_room (Nat.le_of_ble_eq_true rfl)) wd_W_run_25 ⟨Nat.le_of_ble_eq_true rfl, Nat.le_of_ble_eq_true rfl⟩) hD hS hA (fun H locs hP hD hS => ?_)
    refine lv_aload_n hx hb wd_W_run_28 rfl (lv_at hl 0 rfl) ?_
    refine lv_iconst (v := 1) hx hb wd_W_run_29 (by decide) ?_
    refine wx_put (x := 1) (ty := .boolean) (C := "WidthCampaigns") (T := wx_TW) (N' := 7) hx hb hts wi_W wx_tW wx_toW wx_nW hown hK hP hD hS 0 (by decide) (fun _ => rfl) rfl 6 (by decide) wt_225 (fun _ h9 => h9) rfl (by decide +kernel) narrow_b1 rfl (Nat.le_of_ble_eq_true rfl) rfl wd_W_run_30 (fun σ5 H locs eσ5 hP hD hS => ?_)
    have hf := wc_st_e eσ5 hf
    refine lv_aload_n hx hb wd_W_run_33 rfl (lv_at hl 0 rfl) ?_
    refine lv_aload_n hx hb wd_W_run_34 rfl (lv_at hl 0 rfl) ?_
    refine wx_get (v := .ref (ad 68)) (C := "WidthCampaigns") (T := wx_TW) (N' := 7) hx hb hts wi_W hown hK hP 0 (by decide) rfl rfl 3 (by decide) wt_222 (fun _ h9 => h9) rfl wd_W_run_35 ?_
    refine wx_getN (v := .int (σ5 68 5)) (C := "WidthCampaigns$Search") (T := wx_TS) (N' := 7) hx hb hts wi_S hown hK hP 68 (by decide) rfl rfl 5 (by decide) (hN.1 _ (List.mem_of_getElem? (i := 44) rfl) #[]) (fun _ h9 => h9) rfl wd_W_run_38 ?_
    refine lv_topi (fun v6 ev6 => ?_)
    have hf := wc_st_e ev6 hf
    obtain ⟨h7, hf⟩ := wc_gd_e hf
    refine wx_put (x := v6) (ty := .boolean) (C := "WidthCampaigns") (T := wx_TW) (N' := 7) hx hb hts wi_W wx_tW wx_toW wx_nW hown hK hP hD hS 0 (by decide) (fun _ => rfl) rfl 5 (by decide) wt_224 (fun _ h9 => h9) rfl (by decide +kernel) (wc_z_e h7) (wc_z_f h7) (Nat.le_of_ble_eq_true rfl) rfl wd_W_run_41 (fun σ8 H locs eσ8 hP hD hS => ?_)
    have hf := wc_st_e eσ8 hf
    refine lv_aload_n hx hb wd_W_run_44 rfl (lv_at hl 0 rfl) ?_
    refine wx_get (v := .int (σ8 0 5)) (C := "WidthCampaigns") (T := wx_TW) (N' := 7) hx hb hts wi_W hown hK hP 0 (by decide) rfl rfl 5 (by decide) wt_224 (fun _ h9 => h9) rfl wd_W_run_45 ?_
    refine lv_topi (fun v9 ev9 => ?_)
    have hf := wc_st_e ev9 hf
    refine lv_if_ne (tgt := 53) hx hb wd_W_run_48 (by decide) (fun c10 => ?_) (fun c10 => ?_)
    · have hf := wc_f c10 hf
      refine lv_aload_n hx hb wd_W_run_53 rfl (lv_at hl 0 rfl) ?_
      refine wx_get (v := .ref (ad 49)) (C := "WidthCampaigns") (T := wx_TW) (N' := 7) hx hb hts wi_W hown hK hP 0 (by decide) rfl rfl 2 (by decide) wt_221 (fun _ h9 => h9) rfl wd_W_run_54 ?_
      refine lv_aload_n hx hb wd_W_run_57 rfl (lv_at hl 0 rfl) ?_
      refine wx_get (v := .ref (ad 68)) (C := "WidthCampaigns") (T := wx_TW) (N' := 7) hx hb hts wi_W hown hK hP 0 (by decide) rfl rfl 3 (by decide) wt_222 (fun _ h9 => h9) rfl wd_W_run_58 ?_
      refine wx_getN (v := .ref (ad 69)) (C := "WidthCampaigns$Search") (T := wx_TS) (N' := 7) hx hb hts wi_S hown hK hP 68 (by decide) rfl rfl 2 (by decide) (hN.1 _ (List.mem_of_getElem? (i := 45) rfl) #[]) (fun _ h9 => h9) rfl wd_W_run_61 ?_
      obtain ⟨r12, σ11, hq, hf⟩ := wc_b2_e hf
      refine wx_calli (va_runVN (As := [.ref (ad 69)]) (rest := []) ⟨hx, hb, hml, hown, hts⟩ (wm_L_layAll l D ad cI cZ cJ cG _ 49 (Or.inr rfl) 69 (Or.inl rfl) σ8 _ hq) (wx_cwN 1 hts wt_517 wt_516 wp_24 wt_5 (hN.1 _ (List.mem_of_getElem? (i := 26) rfl) #[]) wh_L_layAll rfl rfl ⟨Nat.le_of_ble_eq_true rfl, Nat.le_of_ble_eq_true rfl⟩) (wx_preV hK hP hD hS hA hC (by decide) rfl rfl) rfl rfl hl.1 rfl (lv_room (Nat.le_of_ble_eq_true rfl)) wd_W_run_64 ⟨Nat.le_of_ble_eq_true rfl, Nat.le_of_ble_eq_true rfl⟩) hD hS hA (fun H locs hP hD hS => ?_)
      refine lv_pop hx hb wd_W_run_67 rfl ?_
      refine lv_aload_n hx hb wd_W_run_68 rfl (lv_at hl 0 rfl) ?_
      refine wx_get (v := .ref (ad 1)) (C := "WidthCampaigns") (T := wx_TW) (N' := 7) hx hb hts wi_W hown hK hP 0 (by decide) rfl rfl 0 (by decide) wt_219 (fun _ h9 => h9) rfl wd_W_run_69 ?_
      refine wx_getN (v := .int (σ11 1 10)) (C := "WidthCampaigns$Plant") (T := wx_TP) (N' := 15) hx hb hts wi_P hown hK hP 1 (by decide) rfl rfl 10 (by decide) (hN.1 _ (List.mem_of_getElem? (i := 24) rfl) #[]) (fun _ h9 => h9) rfl wd_W_run_72 ?_
      refine lv_topi (fun v13 ev13 => ?_)
      have hf := wc_st_e ev13 hf
      refine W.widen (k := 1) (n := 6) (by decide) (by decide) ?_
      refine wz_ret ?_
      exact wx_iretx hx hb hr hlocks hf hP hS wd_W_run_75
    · have hf := wc_t c10 hf
      refine lv_iconst (v := (-1)) hx hb wd_W_run_51 (by decide) ?_
      refine W.widen (k := 1) (n := 6) (by decide) (by decide) ?_
      refine wz_ret ?_
      exact wx_iretx hx hb hr hlocks hf hP hS wd_W_run_52
  · have hf := wc_f c3 hf
    exact wz_throw (k := 2) (ik := 45) (ic := 49) hx hb htr hown hts hC wt_264 wt_11 (List.mem_of_getElem? (i := 13) rfl) wa_2_49 hS (hl.1.trans hml.symm) wd_W_run_10 wd_W_run_13 wd_W_run_14 wd_W_run_16 wd_W_run_19 ht (Nat.le_of_ble_eq_true rfl) (Nat.le_of_ble_eq_true rfl) (Nat.le_of_ble_eq_true rfl) (Nat.le_of_ble_eq_true rfl) hlocks hP (Option.some.inj hf) (Nat.le_of_ble_eq_true rfl) (Nat.le_of_ble_eq_true rfl)
set_option maxHeartbeats 4000000 in
set_option maxRecDepth 100000 in
theorem wm_W_proved (l : Launch) (D : va_G) (ad : Nat → Nat) (cI cZ cJ cG : ClassId) (htr : l.stackTraces = false) (sz : Nat) (σ : wc_S) (res : wc_X (Int32 × wc_S)) (hf : wf_W_proved  σ = some res) : wz_Met l wy_W_proved (wx_ws_W_proved) ({ frames := 7, cells := 1, slots := 6, locals := 110 }) (va_Pc [.ref (ad 0)] (wx_pre D ad cI cZ cJ cG σ sz)) (wx_Qix D ad cI cZ cJ cG res (va_A (wx_W ad cI cZ cJ cG σ) sz)) (wx_XC D ad cI cZ cJ cG res (va_A (wx_W ad cI cZ cJ cG σ) sz)) 1 6 (va_A (wx_W ad cI cZ cJ cG σ) sz) := by
  refine wx_ofX (cc := prog_1_method_9_code) (maxL := 1) (ret := (some .boolean)) (Qc := fun A => wx_Qix D ad cI cZ cJ cG res A) (XC := fun A => wx_XC D ad cI cZ cJ cG res A) [.ref (ad 0)] (by decide) rfl (Nat.le_of_ble_eq_true rfl) ?_
  intro p e s m args below meth c A ls hin ht hl
  obtain ⟨hx, hb, hr, hts, hown, hlocks, hml, hA, hP, hK, hD, hC, hN, hS⟩ := hin
  have hl : lv_has ls 1 [(0, .ref (ad 0))] := hl
  unfold wf_W_proved at hf
  refine lv_aload_n hx hb wd_W_proved_0 rfl (lv_at hl 0 rfl) ?_
  refine wx_get (v := .int (σ 0 6)) (C := "WidthCampaigns") (T := wx_TW) (N' := 7) hx hb hts wi_W hown hK hP 0 (by decide) rfl rfl 6 (by decide) wt_225 (fun _ h9 => h9) rfl wd_W_proved_1 ?_
  refine lv_topi (fun v1 ev1 => ?_)
  have hf := wc_st_e ev1 hf
  refine lv_if_ne (tgt := 17) hx hb wd_W_proved_4 (by decide) (fun c2 => ?_) (fun c2 => ?_)
  · have hf := wc_f c2 hf
    refine lv_aload_n hx hb wd_W_proved_17 rfl (lv_at hl 0 rfl) ?_
    refine wx_get (v := .ref (ad 68)) (C := "WidthCampaigns") (T := wx_TW) (N' := 7) hx hb hts wi_W hown hK hP 0 (by decide) rfl rfl 3 (by decide) wt_222 (fun _ h9 => h9) rfl wd_W_proved_18 ?_
    refine wx_getN (v := .int (σ 68 6)) (C := "WidthCampaigns$Search") (T := wx_TS) (N' := 7) hx hb hts wi_S hown hK hP 68 (by decide) rfl rfl 6 (by decide) (hN.1 _ (List.mem_of_getElem? (i := 46) rfl) #[]) (fun _ h9 => h9) rfl wd_W_proved_21 ?_
    refine lv_topi (fun v3 ev3 => ?_)
    have hf := wc_st_e ev3 hf
    refine lv_if_ne (tgt := 31) hx hb wd_W_proved_24 (by decide) (fun c4 => ?_) (fun c4 => ?_)
    · have hf := wc_f c4 hf
      refine lv_iconst (v := 0) hx hb wd_W_proved_31 (by decide) ?_
      refine W.widen (k := 1) (n := 6) (by decide) (by decide) ?_
      refine wz_ret ?_
      exact wx_zretx hx hb hr narrow_b0 hlocks hf hP hS wd_W_proved_32
    · have hf := wc_t c4 hf
      refine lv_iconst (v := 1) hx hb wd_W_proved_27 (by decide) ?_
      refine lv_goto (tgt := 32) hx hb wd_W_proved_28 (by decide) ?_
      refine W.widen (k := 1) (n := 6) (by decide) (by decide) ?_
      refine wz_ret ?_
      exact wx_zretx hx hb hr narrow_b1 hlocks hf hP hS wd_W_proved_32
  · have hf := wc_t c2 hf
    exact wz_throw (k := 1) (ik := 164) (ic := 168) hx hb htr hown hts hC wt_529 wt_16 (List.mem_of_getElem? (i := 14) rfl) wa_1_168 hS (hl.1.trans hml.symm) wd_W_proved_7 wd_W_proved_10 wd_W_proved_11 wd_W_proved_13 wd_W_proved_16 ht (Nat.le_of_ble_eq_true rfl) (Nat.le_of_ble_eq_true rfl) (Nat.le_of_ble_eq_true rfl) (Nat.le_of_ble_eq_true rfl) hlocks hP (Option.some.inj hf) (Nat.le_of_ble_eq_true rfl) (Nat.le_of_ble_eq_true rfl)
set_option maxHeartbeats 4000000 in
set_option maxRecDepth 100000 in
theorem wm_W_order (l : Launch) (D : va_G) (ad : Nat → Nat) (cI cZ cJ cG : ClassId) (htr : l.stackTraces = false) (sz : Nat) (a1 : Int32) (σ : wc_S) (res : wc_X (Int32 × wc_S)) (hf : wf_W_order a1 σ = some res) : wz_Met l wy_W_order (wx_ws_W_order) ({ frames := 8, cells := 2, slots := 12, locals := 131 }) (va_Pc [.ref (ad 0), .int a1] (wx_pre D ad cI cZ cJ cG σ sz)) (wx_Qix D ad cI cZ cJ cG res (va_A (wx_W ad cI cZ cJ cG σ) sz)) (wx_XC D ad cI cZ cJ cG res (va_A (wx_W ad cI cZ cJ cG σ) sz)) 2 12 (va_A (wx_W ad cI cZ cJ cG σ) sz) := by
  refine wx_ofX (cc := prog_1_method_10_code) (maxL := 2) (ret := (some .int)) (Qc := fun A => wx_Qix D ad cI cZ cJ cG res A) (XC := fun A => wx_XC D ad cI cZ cJ cG res A) [.ref (ad 0), .int a1] (by decide) rfl (Nat.le_of_ble_eq_true rfl) ?_
  intro p e s m args below meth c A ls hin ht hl
  obtain ⟨hx, hb, hr, hts, hown, hlocks, hml, hA, hP, hK, hD, hC, hN, hS⟩ := hin
  have hl : lv_has ls 2 [(0, .ref (ad 0)), (1, .int a1)] := hl
  unfold wf_W_order at hf
  refine lv_aload_n hx hb wd_W_order_0 rfl (lv_at hl 0 rfl) ?_
  obtain ⟨q, hq, hf⟩ := wc_bx_e hf
  refine wx_callvx (wz_runV (As := []) (rest := []) ⟨hx, hb, hml, hown, hts⟩ (wm_W_requireOrder l D ad cI cZ cJ cG htr _ σ _ hq) (wx_cwV 0 hts wt_555 wt_554 wp_25 wt_1 wt_552 wh_W_requireOrder rfl rfl ⟨Nat.le_of_ble_eq_true rfl, Nat.le_of_ble_eq_true rfl⟩) (wx_preV hK hP hD hS hA hC (by decide) rfl rfl) rfl rfl hl.1 rfl (lv_room (Nat.le_of_ble_eq_true rfl)) wd_W_order_1 ⟨Nat.le_of_ble_eq_true rfl, Nat.le_of_ble_eq_true rfl⟩) hD hS hA (fun E q9 ce k9 σ1 H locs e9 hE hP hD hS hc1 hc2 hc3 => ?_) (fun σ1 H locs e9 hP hD hS => ?_)
  · subst e9; exact wx_outx ht hlocks hc1 hc2 hc3 hE (wc_bx_l hf) hP hS (by decide) (by decide)
  subst e9; have hf := wc_bx_r hf
  refine W.widen (k := 1) (n := 6) (by decide) (by decide) ?_
  refine lv_aload_n hx hb wd_W_order_4 rfl (lv_at hl 0 rfl) ?_
  refine lv_iload_n hx hb wd_W_order_5 rfl (lv_at hl 1 rfl) ?_
  obtain ⟨q, hq, hf⟩ := wc_bx_e hf
  refine wx_callvx (wz_runV (As := [.int a1]) (rest := []) ⟨hx, hb, hml, hown, hts⟩ (wm_W_requirePlace l D ad cI cZ cJ cG htr _ a1 σ1 _ hq) (wx_cwV 1 hts wt_560 wt_559 wp_26 wt_1 wt_557 wh_W_requirePlace rfl rfl ⟨Nat.le_of_ble_eq_true rfl, Nat.le_of_ble_eq_true rfl⟩) (wx_preV hK hP hD hS hA hC (by decide) rfl rfl) rfl rfl hl.1 rfl (lv_room (Nat.le_of_ble_eq_true rfl)) wd_W_order_6 ⟨Nat.le_of_ble_eq_true rfl, Nat.le_of_ble_eq_true rfl⟩) hD hS hA (fun E q9 ce k9 σ2 H locs e9 hE hP hD hS hc1 hc2 hc3 => ?_) (fun σ2 H locs e9 hP hD hS => ?_)
  · subst e9; exact wx_outx ht hlocks hc1 hc2 hc3 hE (wc_bx_l hf) hP hS (by decide) (by decide)
  subst e9; have hf := wc_bx_r hf
  refine W.widen (k := 2) (n := 12) (by decide) (by decide) ?_
  refine lv_aload_n hx hb wd_W_order_9 rfl (lv_at hl 0 rfl) ?_
  refine wx_get (v := .ref (ad 49)) (C := "WidthCampaigns") (T := wx_TW) (N' := 7) hx hb hts wi_W hown hK hP 0 (by decide) rfl rfl 2 (by decide) wt_221 (fun _ h9 => h9) rfl wd_W_order_10 ?_
  refine wx_getN (v := .ref (ad 50)) (C := "WidthCampaigns$Line") (T := wx_TL) (N' := 10) hx hb hts wi_L hown hK hP 49 (by decide) rfl rfl 1 (by decide) (hN.1 _ (List.mem_of_getElem? (i := 25) rfl) #[]) (fun _ h9 => h9) rfl wd_W_order_13 ?_
  refine lv_iload_n hx hb wd_W_order_16 rfl (lv_at hl 1 rfl) ?_
  obtain ⟨h3, hf⟩ := wc_gd_e hf
  refine wx_iald hx hb hK hP 50 (n := 9) (by decide) rfl (wc_in_e h3) wd_W_order_17 ?_
  refine lv_topi (fun v4 ev4 => ?_)
  have hf := wc_st_e ev4 hf
  refine wz_ret ?_
  exact wx_iretx hx hb hr hlocks hf hP hS wd_W_order_18
set_option maxHeartbeats 4000000 in
set_option maxRecDepth 100000 in
theorem wm_W_told (l : Launch) (D : va_G) (ad : Nat → Nat) (cI cZ cJ cG : ClassId) (htr : l.stackTraces = false) (sz : Nat) (a1 : Int32) (σ : wc_S) (res : wc_X (Int32 × wc_S)) (hf : wf_W_told a1 σ = some res) : wz_Met l wy_W_told (wx_ws_W_told) ({ frames := 8, cells := 2, slots := 12, locals := 130 }) (va_Pc [.ref (ad 0), .int a1] (wx_pre D ad cI cZ cJ cG σ sz)) (wx_Qix D ad cI cZ cJ cG res (va_A (wx_W ad cI cZ cJ cG σ) sz)) (wx_XC D ad cI cZ cJ cG res (va_A (wx_W ad cI cZ cJ cG σ) sz)) 2 12 (va_A (wx_W ad cI cZ cJ cG σ) sz) := by
  refine wx_ofX (cc := prog_1_method_11_code) (maxL := 2) (ret := (some .int)) (Qc := fun A => wx_Qix D ad cI cZ cJ cG res A) (XC := fun A => wx_XC D ad cI cZ cJ cG res A) [.ref (ad 0), .int a1] (by decide) rfl (Nat.le_of_ble_eq_true rfl) ?_
  intro p e s m args below meth c A ls hin ht hl
  obtain ⟨hx, hb, hr, hts, hown, hlocks, hml, hA, hP, hK, hD, hC, hN, hS⟩ := hin
  have hl : lv_has ls 2 [(0, .ref (ad 0)), (1, .int a1)] := hl
  unfold wf_W_told at hf
  refine lv_iload_n hx hb wd_W_told_0 rfl (lv_at hl 1 rfl) ?_
  refine lv_iconst (v := 0) hx hb wd_W_told_1 (by decide) ?_
  refine lv_iconst (v := 2) hx hb wd_W_told_2 (by decide) ?_
  obtain ⟨r2, σ1, hq, hf⟩ := wc_b2_e hf
  refine wx_calli (va_runS (As := [.int a1, .int 0, .int 2]) (rest := []) ⟨hx, hb, hml, hown, hts⟩ (wm_W_isOutside l D ad cI cZ cJ cG _ a1 0 2 σ _ hq) (wx_cwS 3 hts wt_263 wt_262 wt_1 wt_261 wh_W_isOutside rfl rfl ⟨Nat.le_of_ble_eq_true rfl, Nat.le_of_ble_eq_true rfl⟩) (wx_preS hK hP hD hS hA hC) rfl rfl hl.1 rfl (lv_room (Nat.le_of_ble_eq_true rfl)) wd_W_told_3 ⟨Nat.le_of_ble_eq_true rfl, Nat.le_of_ble_eq_true rfl⟩) hD hS hA (fun H locs hP hD hS => ?_)
  refine lv_if_eq (tgt := 19) hx hb wd_W_told_6 (by decide) (fun c3 => ?_) (fun c3 => ?_)
  · have hf := wc_t c3 hf
    refine lv_aload_n hx hb wd_W_told_19 rfl (lv_at hl 0 rfl) ?_
    obtain ⟨q, hq, hf⟩ := wc_bx_e hf
    refine wx_callvx (wz_runV (As := []) (rest := []) ⟨hx, hb, hml, hown, hts⟩ (wm_W_requireOrder l D ad cI cZ cJ cG htr _ σ1 _ hq) (wx_cwV 0 hts wt_555 wt_554 wp_25 wt_1 wt_552 wh_W_requireOrder rfl rfl ⟨Nat.le_of_ble_eq_true rfl, Nat.le_of_ble_eq_true rfl⟩) (wx_preV hK hP hD hS hA hC (by decide) rfl rfl) rfl rfl hl.1 rfl (lv_room (Nat.le_of_ble_eq_true rfl)) wd_W_told_20 ⟨Nat.le_of_ble_eq_true rfl, Nat.le_of_ble_eq_true rfl⟩) hD hS hA (fun E q9 ce k9 σ4 H locs e9 hE hP hD hS hc1 hc2 hc3 => ?_) (fun σ4 H locs e9 hP hD hS => ?_)
    · subst e9; exact wx_outx ht hlocks hc1 hc2 hc3 hE (wc_bx_l hf) hP hS (by decide) (by decide)
    subst e9; have hf := wc_bx_r hf
    refine W.widen (k := 1) (n := 6) (by decide) (by decide) ?_
    refine lv_iload_n hx hb wd_W_told_23 rfl (lv_at hl 1 rfl) ?_
    refine lv_if_ne (tgt := 35) hx hb wd_W_told_24 (by decide) (fun c5 => ?_) (fun c5 => ?_)
    · have hf := wc_f c5 hf
      refine lv_iload_n hx hb wd_W_told_35 rfl (lv_at hl 1 rfl) ?_
      refine lv_iconst (v := 1) hx hb wd_W_told_36 (by decide) ?_
      refine lv_icmp_ne (tgt := 50) hx hb wd_W_told_37 (by decide) (fun c6 => ?_) (fun c6 => ?_)
      · have hf := wc_f c6 hf
        refine lv_aload_n hx hb wd_W_told_50 rfl (lv_at hl 0 rfl) ?_
        refine wx_get (v := .ref (ad 49)) (C := "WidthCampaigns") (T := wx_TW) (N' := 7) hx hb hts wi_W hown hK hP 0 (by decide) rfl rfl 2 (by decide) wt_221 (fun _ h9 => h9) rfl wd_W_told_51 ?_
        obtain ⟨r8, σ7, hq, hf⟩ := wc_b2_e hf
        refine wx_calli (va_runVN (As := []) (rest := []) ⟨hx, hb, hml, hown, hts⟩ (wm_L_movedSoFar l D ad cI cZ cJ cG _ 49 (Or.inr rfl) σ4 _ hq) (wx_cwN 0 hts wt_578 wt_577 wp_28 wt_5 (hN.1 _ (List.mem_of_getElem? (i := 47) rfl) #[]) wh_L_movedSoFar rfl rfl ⟨Nat.le_of_ble_eq_true rfl, Nat.le_of_ble_eq_true rfl⟩) (wx_preV hK hP hD hS hA hC (by decide) rfl rfl) rfl rfl hl.1 rfl (lv_room (Nat.le_of_ble_eq_true rfl)) wd_W_told_54 ⟨Nat.le_of_ble_eq_true rfl, Nat.le_of_ble_eq_true rfl⟩) hD hS hA (fun H locs hP hD hS => ?_)
        refine W.widen (k := 2) (n := 12) (by decide) (by decide) ?_
        refine wz_ret ?_
        exact wx_iretx hx hb hr hlocks hf hP hS wd_W_told_57
      · have hf := wc_t c6 hf
        refine lv_aload_n hx hb wd_W_told_40 rfl (lv_at hl 0 rfl) ?_
        refine wx_get (v := .ref (ad 49)) (C := "WidthCampaigns") (T := wx_TW) (N' := 7) hx hb hts wi_W hown hK hP 0 (by decide) rfl rfl 2 (by decide) wt_221 (fun _ h9 => h9) rfl wd_W_told_41 ?_
        obtain ⟨r10, σ9, hq, hf⟩ := wc_b2_e hf
        refine wx_calli (va_runVN (As := []) (rest := []) ⟨hx, hb, hml, hown, hts⟩ (wm_L_changesSoFar l D ad cI cZ cJ cG _ 49 (Or.inr rfl) σ4 _ hq) (wx_cwN 0 hts wt_574 wt_573 wp_27 wt_5 (hN.1 _ (List.mem_of_getElem? (i := 48) rfl) #[]) wh_L_changesSoFar rfl rfl ⟨Nat.le_of_ble_eq_true rfl, Nat.le_of_ble_eq_true rfl⟩) (wx_preV hK hP hD hS hA hC (by decide) rfl rfl) rfl rfl hl.1 rfl (lv_room (Nat.le_of_ble_eq_true rfl)) wd_W_told_44 ⟨Nat.le_of_ble_eq_true rfl, Nat.le_of_ble_eq_true rfl⟩) hD hS hA (fun H locs hP hD hS => ?_)
        refine lv_goto (tgt := 57) hx hb wd_W_told_47 (by decide) ?_
        refine W.widen (k := 2) (n := 12) (by decide) (by decide) ?_
        refine wz_ret ?_
        exact wx_iretx hx hb hr hlocks hf hP hS wd_W_told_57
    · have hf := wc_t c5 hf
      refine lv_aload_n hx hb wd_W_told_27 rfl (lv_at hl 0 rfl) ?_
      refine wx_get (v := .ref (ad 49)) (C := "WidthCampaigns") (T := wx_TW) (N' := 7) hx hb hts wi_W hown hK hP 0 (by decide) rfl rfl 2 (by decide) wt_221 (fun _ h9 => h9) rfl wd_W_told_28 ?_
      obtain ⟨r12, σ11, hq, hf⟩ := wc_b2_e hf
      refine wx_calli (va_runVN (As := []) (rest := []) ⟨hx, hb, hml, hown, hts⟩ (wm_L_penaltySoFar l D ad cI cZ cJ cG _ 49 (Or.inr rfl) σ4 _ hq) (wx_cwN 0 hts wt_474 wt_473 wp_14 wt_5 (hN.1 _ (List.mem_of_getElem? (i := 27) rfl) #[]) wh_L_penaltySoFar rfl rfl ⟨Nat.le_of_ble_eq_true rfl, Nat.le_of_ble_eq_true rfl⟩) (wx_preV hK hP hD hS hA hC (by decide) rfl rfl) rfl rfl hl.1 rfl (lv_room (Nat.le_of_ble_eq_true rfl)) wd_W_told_31 ⟨Nat.le_of_ble_eq_true rfl, Nat.le_of_ble_eq_true rfl⟩) hD hS hA (fun H locs hP hD hS => ?_)
      refine W.widen (k := 2) (n := 12) (by decide) (by decide) ?_
      refine wz_ret ?_
      exact wx_iretx hx hb hr hlocks hf hP hS wd_W_told_34
  · have hf := wc_f c3 hf
    exact wz_throw (k := 0) (ik := 68) (ic := 72) hx hb htr hown hts hC wt_380 wt_14 (List.mem_of_getElem? (i := 15) rfl) wa_0_72 hS (hl.1.trans hml.symm) wd_W_told_9 wd_W_told_12 wd_W_told_13 wd_W_told_15 wd_W_told_18 ht (Nat.le_of_ble_eq_true rfl) (Nat.le_of_ble_eq_true rfl) (Nat.le_of_ble_eq_true rfl) (Nat.le_of_ble_eq_true rfl) hlocks hP (Option.some.inj hf) (Nat.le_of_ble_eq_true rfl) (Nat.le_of_ble_eq_true rfl)
set_option maxHeartbeats 4000000 in
set_option maxRecDepth 100000 in
theorem wm_W_change (l : Launch) (D : va_G) (ad : Nat → Nat) (cI cZ cJ cG : ClassId) (htr : l.stackTraces = false) (sz : Nat) (a1 : Int32) (σ : wc_S) (res : wc_X (Int32 × wc_S)) (hf : wf_W_change a1 σ = some res) : wz_Met l wy_W_change (wx_ws_W_change) ({ frames := 8, cells := 2, slots := 12, locals := 131 }) (va_Pc [.ref (ad 0), .int a1] (wx_pre D ad cI cZ cJ cG σ sz)) (wx_Qix D ad cI cZ cJ cG res (va_A (wx_W ad cI cZ cJ cG σ) sz)) (wx_XC D ad cI cZ cJ cG res (va_A (wx_W ad cI cZ cJ cG σ) sz)) 2 12 (va_A (wx_W ad cI cZ cJ cG σ) sz) := by
  refine wx_ofX (cc := prog_1_method_12_code) (maxL := 2) (ret := (some .boolean)) (Qc := fun A => wx_Qix D ad cI cZ cJ cG res A) (XC := fun A => wx_XC D ad cI cZ cJ cG res A) [.ref (ad 0), .int a1] (by decide) rfl (Nat.le_of_ble_eq_true rfl) ?_
  intro p e s m args below meth c A ls hin ht hl
  obtain ⟨hx, hb, hr, hts, hown, hlocks, hml, hA, hP, hK, hD, hC, hN, hS⟩ := hin
  have hl : lv_has ls 2 [(0, .ref (ad 0)), (1, .int a1)] := hl
  unfold wf_W_change at hf
  refine lv_aload_n hx hb wd_W_change_0 rfl (lv_at hl 0 rfl) ?_
  obtain ⟨q, hq, hf⟩ := wc_bx_e hf
  refine wx_callvx (wz_runV (As := []) (rest := []) ⟨hx, hb, hml, hown, hts⟩ (wm_W_requireOrder l D ad cI cZ cJ cG htr _ σ _ hq) (wx_cwV 0 hts wt_555 wt_554 wp_25 wt_1 wt_552 wh_W_requireOrder rfl rfl ⟨Nat.le_of_ble_eq_true rfl, Nat.le_of_ble_eq_true rfl⟩) (wx_preV hK hP hD hS hA hC (by decide) rfl rfl) rfl rfl hl.1 rfl (lv_room (Nat.le_of_ble_eq_true rfl)) wd_W_change_1 ⟨Nat.le_of_ble_eq_true rfl, Nat.le_of_ble_eq_true rfl⟩) hD hS hA (fun E q9 ce k9 σ1 H locs e9 hE hP hD hS hc1 hc2 hc3 => ?_) (fun σ1 H locs e9 hP hD hS => ?_)
  · subst e9; exact wx_outx ht hlocks hc1 hc2 hc3 hE (wc_bx_l hf) hP hS (by decide) (by decide)
  subst e9; have hf := wc_bx_r hf
  refine W.widen (k := 1) (n := 6) (by decide) (by decide) ?_
  refine lv_aload_n hx hb wd_W_change_4 rfl (lv_at hl 0 rfl) ?_
  refine lv_iload_n hx hb wd_W_change_5 rfl (lv_at hl 1 rfl) ?_
  obtain ⟨q, hq, hf⟩ := wc_bx_e hf
  refine wx_callvx (wz_runV (As := [.int a1]) (rest := []) ⟨hx, hb, hml, hown, hts⟩ (wm_W_requirePlace l D ad cI cZ cJ cG htr _ a1 σ1 _ hq) (wx_cwV 1 hts wt_560 wt_559 wp_26 wt_1 wt_557 wh_W_requirePlace rfl rfl ⟨Nat.le_of_ble_eq_true rfl, Nat.le_of_ble_eq_true rfl⟩) (wx_preV hK hP hD hS hA hC (by decide) rfl rfl) rfl rfl hl.1 rfl (lv_room (Nat.le_of_ble_eq_true rfl)) wd_W_change_6 ⟨Nat.le_of_ble_eq_true rfl, Nat.le_of_ble_eq_true rfl⟩) hD hS hA (fun E q9 ce k9 σ2 H locs e9 hE hP hD hS hc1 hc2 hc3 => ?_) (fun σ2 H locs e9 hP hD hS => ?_)
  · subst e9; exact wx_outx ht hlocks hc1 hc2 hc3 hE (wc_bx_l hf) hP hS (by decide) (by decide)
  subst e9; have hf := wc_bx_r hf
  refine W.widen (k := 2) (n := 12) (by decide) (by decide) ?_
  refine lv_aload_n hx hb wd_W_change_9 rfl (lv_at hl 0 rfl) ?_
  refine wx_get (v := .ref (ad 49)) (C := "WidthCampaigns") (T := wx_TW) (N' := 7) hx hb hts wi_W hown hK hP 0 (by decide) rfl rfl 2 (by decide) wt_221 (fun _ h9 => h9) rfl wd_W_change_10 ?_
  refine wx_getN (v := .ref (ad 52)) (C := "WidthCampaigns$Line") (T := wx_TL) (N' := 10) hx hb hts wi_L hown hK hP 49 (by decide) rfl rfl 3 (by decide) (hN.1 _ (List.mem_of_getElem? (i := 49) rfl) #[]) (fun _ h9 => h9) rfl wd_W_change_13 ?_
  refine lv_iload_n hx hb wd_W_change_16 rfl (lv_at hl 1 rfl) ?_
  obtain ⟨h3, hf⟩ := wc_gd_e hf
  refine wx_zald hx hb hK hP 52 (n := 9) (by decide) rfl (wc_in_e h3) wd_W_change_17 ?_
  refine lv_topi (fun v4 ev4 => ?_)
  have hf := wc_st_e ev4 hf
  obtain ⟨h5, hf⟩ := wc_gd_e hf
  refine wz_ret ?_
  exact wx_zretx hx hb hr (wc_z_e h5) hlocks hf hP hS wd_W_change_18
set_option maxHeartbeats 4000000 in
set_option maxRecDepth 100000 in
theorem wm_W_jump (l : Launch) (D : va_G) (ad : Nat → Nat) (cI cZ cJ cG : ClassId) (htr : l.stackTraces = false) (sz : Nat) (a1 : Int32) (a2 : Int32) (σ : wc_S) (res : wc_X (Int32 × wc_S)) (hf : wf_W_jump a1 a2 σ = some res) : wz_Met l wy_W_jump (wx_ws_W_jump) ({ frames := 7, cells := 1, slots := 6, locals := 110 }) (va_Pc [.ref (ad 0), .int a1, .int a2] (wx_pre D ad cI cZ cJ cG σ sz)) (wx_Qix D ad cI cZ cJ cG res (va_A (wx_W ad cI cZ cJ cG σ) sz)) (wx_XC D ad cI cZ cJ cG res (va_A (wx_W ad cI cZ cJ cG σ) sz)) 1 6 (va_A (wx_W ad cI cZ cJ cG σ) sz) := by
  refine wx_ofX (cc := prog_1_method_13_code) (maxL := 3) (ret := (some .int)) (Qc := fun A => wx_Qix D ad cI cZ cJ cG res A) (XC := fun A => wx_XC D ad cI cZ cJ cG res A) [.ref (ad 0), .int a1, .int a2] (by decide) rfl (Nat.le_of_ble_eq_true rfl) ?_
  intro p e s m args below meth c A ls hin ht hl
  obtain ⟨hx, hb, hr, hts, hown, hlocks, hml, hA, hP, hK, hD, hC, hN, hS⟩ := hin
  have hl : lv_has ls 3 [(0, .ref (ad 0)), (1, .int a1), (2, .int a2)] := hl
  have J21 : ∀ (σ : wc_S), wf_W_jump_21  σ = some res → wx_Arr p l e ({ frames := 7, cells := 1, slots := 6, locals := 110 }) s m args below meth c D ad cI cZ cJ cG A (wz_MQ below (wx_Qix D ad cI cZ cJ cG res A) (wx_XC D ad cI cZ cJ cG res A) args s 1 6 A) 3 0 0 21 [] [] σ := by
    intro   σ hf H locs ls hP hD hS hl
    unfold wf_W_jump_21 at hf
    exact wz_throw (k := 0) (ik := 68) (ic := 72) hx hb htr hown hts hC wt_380 wt_14 (List.mem_of_getElem? (i := 16) rfl) wa_0_72 hS (hl.1.trans hml.symm) wd_W_jump_21 wd_W_jump_24 wd_W_jump_25 wd_W_jump_27 wd_W_jump_30 ht (Nat.le_of_ble_eq_true rfl) (Nat.le_of_ble_eq_true rfl) (Nat.le_of_ble_eq_true rfl) (Nat.le_of_ble_eq_true rfl) hlocks hP (Option.some.inj hf) (Nat.le_of_ble_eq_true rfl) (Nat.le_of_ble_eq_true rfl)
  unfold wf_W_jump at hf
  refine lv_aload_n hx hb wd_W_jump_0 rfl (lv_at hl 0 rfl) ?_
  refine lv_iload_n hx hb wd_W_jump_1 rfl (lv_at hl 1 rfl) ?_
  obtain ⟨r2, σ1, hq, hf⟩ := wc_b2_e hf
  refine wx_calli (va_runV (As := [.int a1]) (rest := []) ⟨hx, hb, hml, hown, hts⟩ (wm_W_isNoCoil l D ad cI cZ cJ cG _ a1 σ _ hq) (wx_cwV 1 hts wt_426 wt_425 wp_9 wt_1 wt_423 wh_W_isNoCoil rfl rfl ⟨Nat.le_of_ble_eq_true rfl, Nat.le_of_ble_eq_true rfl⟩) (wx_preV hK hP hD hS hA hC (by decide) rfl rfl) rfl rfl hl.1 rfl (lv_room (Nat.le_of_ble_eq_true rfl)) wd_W_jump_2 ⟨Nat.le_of_ble_eq_true rfl, Nat.le_of_ble_eq_true rfl⟩) hD hS hA (fun H locs hP hD hS => ?_)
  refine lv_if_ne (tgt := 21) hx hb wd_W_jump_5 (by decide) (fun c3 => ?_) (fun c3 => ?_)
  · have hf := wc_f c3 hf
    exact J21  σ1 hf _ _ _ hP hD hS (lv_sub hl [] rfl)
  · have hf := wc_t c3 hf
    refine lv_aload_n hx hb wd_W_jump_8 rfl (lv_at hl 0 rfl) ?_
    refine lv_iload_n hx hb wd_W_jump_9 rfl (lv_at hl 2 rfl) ?_
    obtain ⟨r5, σ4, hq, hf⟩ := wc_b2_e hf
    refine wx_calli (va_runV (As := [.int a2]) (rest := []) ⟨hx, hb, hml, hown, hts⟩ (wm_W_isNoCoil l D ad cI cZ cJ cG _ a2 σ1 _ hq) (wx_cwV 1 hts wt_426 wt_425 wp_9 wt_1 wt_423 wh_W_isNoCoil rfl rfl ⟨Nat.le_of_ble_eq_true rfl, Nat.le_of_ble_eq_true rfl⟩) (wx_preV hK hP hD hS hA hC (by decide) rfl rfl) rfl rfl hl.1 rfl (lv_room (Nat.le_of_ble_eq_true rfl)) wd_W_jump_10 ⟨Nat.le_of_ble_eq_true rfl, Nat.le_of_ble_eq_true rfl⟩) hD hS hA (fun H locs hP hD hS => ?_)
    refine lv_if_ne (tgt := 21) hx hb wd_W_jump_13 (by decide) (fun c6 => ?_) (fun c6 => ?_)
    · have hf := wc_f c6 hf
      exact J21  σ4 hf _ _ _ hP hD hS (lv_sub hl [] rfl)
    · have hf := wc_t c6 hf
      refine lv_iload_n hx hb wd_W_jump_16 rfl (lv_at hl 1 rfl) ?_
      refine lv_iload_n hx hb wd_W_jump_17 rfl (lv_at hl 2 rfl) ?_
      refine lv_icmp_ne (tgt := 31) hx hb wd_W_jump_18 (by decide) (fun c7 => ?_) (fun c7 => ?_)
      · have hf := wc_f c7 hf
        refine lv_aload_n hx hb wd_W_jump_31 rfl (lv_at hl 0 rfl) ?_
        refine wx_get (v := .ref (ad 1)) (C := "WidthCampaigns") (T := wx_TW) (N' := 7) hx hb hts wi_W hown hK hP 0 (by decide) rfl rfl 0 (by decide) wt_219 (fun _ h9 => h9) rfl wd_W_jump_32 ?_
        refine wx_getN (v := .ref (ad 8)) (C := "WidthCampaigns$Plant") (T := wx_TP) (N' := 15) hx hb hts wi_P hown hK hP 1 (by decide) rfl rfl 6 (by decide) (hN.1 _ (List.mem_of_getElem? (i := 50) rfl) #[]) (fun _ h9 => h9) rfl wd_W_jump_35 ?_
        refine lv_iload_n hx hb wd_W_jump_38 rfl (lv_at hl 1 rfl) ?_
        obtain ⟨h8, hf⟩ := wc_gd_e hf
        refine wx_aald (bs := 9) hx hb hK hP 8 (n := 9) (by decide) rfl h8 wd_W_jump_39 ?_
        refine lv_iload_n hx hb wd_W_jump_40 rfl (lv_at hl 2 rfl) ?_
        obtain ⟨h9, hf⟩ := wc_gd_e hf
        refine wx_iald hx hb hK hP (9 + a1.toNatClampNeg) (n := 9) (wx_g8l h8) (wx_g8 h8 _) (wc_in_e h9) wd_W_jump_41 ?_
        refine lv_topi (fun v10 ev10 => ?_)
        have hf := wc_st_e ev10 hf
        refine W.widen (k := 1) (n := 6) (by decide) (by decide) ?_
        refine wz_ret ?_
        exact wx_iretx hx hb hr hlocks hf hP hS wd_W_jump_42
      · have hf := wc_t c7 hf
        exact J21  σ4 hf _ _ _ hP hD hS (lv_sub hl [] rfl)
set_option maxHeartbeats 4000000 in
set_option maxRecDepth 100000 in
theorem wm_W_tell (l : Launch) (D : va_G) (ad : Nat → Nat) (cI cZ cJ cG : ClassId) (htr : l.stackTraces = false) (sz : Nat) (a1 : Int64) (σ : wc_S) (res : wc_X wc_S) (hf : wf_W_tell a1 σ = some res) : wz_Met l wy_W_tell (wx_ws_W_tell) ({ frames := 7, cells := 1, slots := 6, locals := 110 }) (va_Pc [.ref (ad 0), .long a1] (wx_pre D ad cI cZ cJ cG σ sz)) (wx_Qvx D ad cI cZ cJ cG res (va_A (wx_W ad cI cZ cJ cG σ) sz)) (wx_XC D ad cI cZ cJ cG res (va_A (wx_W ad cI cZ cJ cG σ) sz)) 1 6 (va_A (wx_W ad cI cZ cJ cG σ) sz) := by
  refine wx_ofX (cc := prog_1_method_15_code) (maxL := 3) (ret := none) (Qc := fun A => wx_Qvx D ad cI cZ cJ cG res A) (XC := fun A => wx_XC D ad cI cZ cJ cG res A) [.ref (ad 0), .long a1] (by decide) rfl (Nat.le_of_ble_eq_true rfl) ?_
  intro p e s m args below meth c A ls hin ht hl
  obtain ⟨hx, hb, hr, hts, hown, hlocks, hml, hA, hP, hK, hD, hC, hN, hS⟩ := hin
  have hl : lv_has ls 3 [(0, .ref (ad 0)), (1, .long a1)] := hl
  unfold wf_W_tell at hf
  refine lv_aload_n hx hb wd_W_tell_0 rfl (lv_at hl 0 rfl) ?_
  refine lv_lload_n hx hb wd_W_tell_1 rfl (lv_at hl 1 rfl) ?_
  obtain ⟨r2, σ1, hq, hf⟩ := wc_b2_e hf
  refine wx_calli (va_runV (As := [.long a1]) (rest := []) ⟨hx, hb, hml, hown, hts⟩ (wm_W_readIntoScratch l D ad cI cZ cJ cG _ a1 σ _ hq) (wx_cwV 1 hts wt_604 wt_603 wp_29 wt_1 wt_601 wh_W_readIntoScratch rfl rfl ⟨Nat.le_of_ble_eq_true rfl, Nat.le_of_ble_eq_true rfl⟩) (wx_preV hK hP hD hS hA hC (by decide) rfl rfl) rfl rfl hl.1 rfl (lv_room (Nat.le_of_ble_eq_true rfl)) wd_W_tell_2 ⟨Nat.le_of_ble_eq_true rfl, Nat.le_of_ble_eq_true rfl⟩) hD hS hA (fun H locs hP hD hS => ?_)
  refine lv_if_ne (tgt := 18) hx hb wd_W_tell_5 (by decide) (fun c3 => ?_) (fun c3 => ?_)
  · have hf := wc_f c3 hf
    refine lv_aload_n hx hb wd_W_tell_18 rfl (lv_at hl 0 rfl) ?_
    refine wx_get (v := .ref (ad 30)) (C := "WidthCampaigns") (T := wx_TW) (N' := 7) hx hb hts wi_W hown hK hP 0 (by decide) rfl rfl 1 (by decide) wt_220 (fun _ h9 => h9) rfl wd_W_tell_19 ?_
    refine lv_aload_n hx hb wd_W_tell_22 rfl (lv_at hl 0 rfl) ?_
    refine wx_get (v := .ref (ad 70)) (C := "WidthCampaigns") (T := wx_TW) (N' := 7) hx hb hts wi_W hown hK hP 0 (by decide) rfl rfl 4 (by decide) wt_223 (fun _ h9 => h9) rfl wd_W_tell_23 ?_
    obtain ⟨r5, σ4, hq, hf⟩ := wc_b2_e hf
    refine wx_calli (va_runVN (As := [.ref (ad 70)]) (rest := []) ⟨hx, hb, hml, hown, hts⟩ (wm_L_layAll l D ad cI cZ cJ cG _ 30 (Or.inl rfl) 70 (Or.inr rfl) σ1 _ hq) (wx_cwN 1 hts wt_517 wt_516 wp_24 wt_5 (hN.1 _ (List.mem_of_getElem? (i := 26) rfl) #[]) wh_L_layAll rfl rfl ⟨Nat.le_of_ble_eq_true rfl, Nat.le_of_ble_eq_true rfl⟩) (wx_preV hK hP hD hS hA hC (by decide) rfl rfl) rfl rfl hl.1 rfl (lv_room (Nat.le_of_ble_eq_true rfl)) wd_W_tell_26 ⟨Nat.le_of_ble_eq_true rfl, Nat.le_of_ble_eq_true rfl⟩) hD hS hA (fun H locs hP hD hS => ?_)
    refine lv_if_ne (tgt := 42) hx hb wd_W_tell_29 (by decide) (fun c6 => ?_) (fun c6 => ?_)
    · have hf := wc_f c6 hf
      refine lv_aload_n hx hb wd_W_tell_42 rfl (lv_at hl 0 rfl) ?_
      refine wx_get (v := .ref (ad 49)) (C := "WidthCampaigns") (T := wx_TW) (N' := 7) hx hb hts wi_W hown hK hP 0 (by decide) rfl rfl 2 (by decide) wt_221 (fun _ h9 => h9) rfl wd_W_tell_43 ?_
      refine lv_aload_n hx hb wd_W_tell_46 rfl (lv_at hl 0 rfl) ?_
      refine wx_get (v := .ref (ad 70)) (C := "WidthCampaigns") (T := wx_TW) (N' := 7) hx hb hts wi_W hown hK hP 0 (by decide) rfl rfl 4 (by decide) wt_223 (fun _ h9 => h9) rfl wd_W_tell_47 ?_
      obtain ⟨r8, σ7, hq, hf⟩ := wc_b2_e hf
      refine wx_calli (va_runVN (As := [.ref (ad 70)]) (rest := []) ⟨hx, hb, hml, hown, hts⟩ (wm_L_layAll l D ad cI cZ cJ cG _ 49 (Or.inr rfl) 70 (Or.inr rfl) σ4 _ hq) (wx_cwN 1 hts wt_517 wt_516 wp_24 wt_5 (hN.1 _ (List.mem_of_getElem? (i := 26) rfl) #[]) wh_L_layAll rfl rfl ⟨Nat.le_of_ble_eq_true rfl, Nat.le_of_ble_eq_true rfl⟩) (wx_preV hK hP hD hS hA hC (by decide) rfl rfl) rfl rfl hl.1 rfl (lv_room (Nat.le_of_ble_eq_true rfl)) wd_W_tell_50 ⟨Nat.le_of_ble_eq_true rfl, Nat.le_of_ble_eq_true rfl⟩) hD hS hA (fun H locs hP hD hS => ?_)
      refine lv_pop hx hb wd_W_tell_53 rfl ?_
      refine lv_aload_n hx hb wd_W_tell_54 rfl (lv_at hl 0 rfl) ?_
      refine lv_iconst (v := 1) hx hb wd_W_tell_55 (by decide) ?_
      refine wx_put (x := 1) (ty := .boolean) (C := "WidthCampaigns") (T := wx_TW) (N' := 7) hx hb hts wi_W wx_tW wx_toW wx_nW hown hK hP hD hS 0 (by decide) (fun _ => rfl) rfl 5 (by decide) wt_224 (fun _ h9 => h9) rfl (by decide +kernel) narrow_b1 rfl (Nat.le_of_ble_eq_true rfl) rfl wd_W_tell_56 (fun σ9 H locs eσ9 hP hD hS => ?_)
      have hf := wc_st_e eσ9 hf
      refine W.widen (k := 1) (n := 6) (by decide) (by decide) ?_
      refine wz_ret ?_
      exact wx_vretx hx hb hr hlocks hf hP hS wd_W_tell_59
    · have hf := wc_t c6 hf
      exact wz_throw (k := 3) (ik := 56) (ic := 60) hx hb htr hown hts hC wt_333 wt_12 (List.mem_of_getElem? (i := 17) rfl) wa_3_60 hS (hl.1.trans hml.symm) wd_W_tell_32 wd_W_tell_35 wd_W_tell_36 wd_W_tell_38 wd_W_tell_41 ht (Nat.le_of_ble_eq_true rfl) (Nat.le_of_ble_eq_true rfl) (Nat.le_of_ble_eq_true rfl) (Nat.le_of_ble_eq_true rfl) hlocks hP (Option.some.inj hf) (Nat.le_of_ble_eq_true rfl) (Nat.le_of_ble_eq_true rfl)
  · have hf := wc_t c3 hf
    exact wz_throw (k := 0) (ik := 68) (ic := 72) hx hb htr hown hts hC wt_380 wt_14 (List.mem_of_getElem? (i := 18) rfl) wa_0_72 hS (hl.1.trans hml.symm) wd_W_tell_8 wd_W_tell_11 wd_W_tell_12 wd_W_tell_14 wd_W_tell_17 ht (Nat.le_of_ble_eq_true rfl) (Nat.le_of_ble_eq_true rfl) (Nat.le_of_ble_eq_true rfl) (Nat.le_of_ble_eq_true rfl) hlocks hP (Option.some.inj hf) (Nat.le_of_ble_eq_true rfl) (Nat.le_of_ble_eq_true rfl)
set_option maxHeartbeats 4000000 in
set_option maxRecDepth 100000 in
theorem wm_W_improve (l : Launch) (D : va_G) (ad : Nat → Nat) (cI cZ cJ cG : ClassId) (htr : l.stackTraces = false) (sz : Nat) (a1 : Int32) (σ : wc_S) (res : wc_X (Int32 × wc_S)) (hf : wf_W_improve a1 σ = some res) : wz_Met l wy_W_improve (wx_ws_W_improve) ({ frames := 8, cells := 2, slots := 12, locals := 136 }) (va_Pc [.ref (ad 0), .int a1] (wx_pre D ad cI cZ cJ cG σ sz)) (wx_Qix D ad cI cZ cJ cG res (va_A (wx_W ad cI cZ cJ cG σ) sz)) (wx_XC D ad cI cZ cJ cG res (va_A (wx_W ad cI cZ cJ cG σ) sz)) 2 12 (va_A (wx_W ad cI cZ cJ cG σ) sz) := by
  refine wx_ofX (cc := prog_1_method_16_code) (maxL := 3) (ret := (some .int)) (Qc := fun A => wx_Qix D ad cI cZ cJ cG res A) (XC := fun A => wx_XC D ad cI cZ cJ cG res A) [.ref (ad 0), .int a1] (by decide) rfl (Nat.le_of_ble_eq_true rfl) ?_
  intro p e s m args below meth c A ls hin ht hl
  obtain ⟨hx, hb, hr, hts, hown, hlocks, hml, hA, hP, hK, hD, hC, hN, hS⟩ := hin
  have hl : lv_has ls 3 [(0, .ref (ad 0)), (1, .int a1)] := hl
  have J26 : ∀ (n : Nat) (x1 : Int32) (x2 : Int32) (σ : wc_S), wf_W_improve_26 n x1 x2 σ = some res → wx_Arr p l e ({ frames := 8, cells := 2, slots := 12, locals := 136 }) s m args below meth c D ad cI cZ cJ cG A (wz_MQ below (wx_Qix D ad cI cZ cJ cG res A) (wx_XC D ad cI cZ cJ cG res A) args s 2 12 A) 3 1 6 26 [(0, .ref (ad 0)), (1, .int x1), (2, .int x2)] [] σ := by
    intro  n
    induction n with
    | zero => intro x1 x2 σ hf; exact absurd hf (by intro h9; cases h9)
    | succ n hk26 =>
      intro x1 x2 σ hf H locs ls hP hD hS hl
      have hf : wf_W_improve_26_b (wf_W_improve_26 n) x1 x2 σ = some res := hf
      unfold wf_W_improve_26_b at hf
      refine lv_iload_n hx hb wd_W_improve_26 rfl (lv_at hl 2 rfl) ?_
      refine lv_iload_n hx hb wd_W_improve_27 rfl (lv_at hl 1 rfl) ?_
      refine lv_icmp_ge (tgt := 44) hx hb wd_W_improve_28 (by decide) (fun c5 => ?_) (fun c5 => ?_)
      · have hf := wc_t c5 hf
        refine lv_iload_n hx hb wd_W_improve_44 rfl (lv_at hl 2 rfl) ?_
        refine W.widen (k := 2) (n := 12) (by decide) (by decide) ?_
        refine wz_ret ?_
        exact wx_iretx hx hb hr hlocks hf hP hS wd_W_improve_45
      · have hf := wc_f c5 hf
        refine lv_aload_n hx hb wd_W_improve_31 rfl (lv_at hl 0 rfl) ?_
        obtain ⟨r7, σ6, hq, hf⟩ := wc_b2_e hf
        refine wx_calli (va_runV (As := []) (rest := []) ⟨hx, hb, hml, hown, hts⟩ (wm_W_takeFirstBetterPair l D ad cI cZ cJ cG _ σ _ hq) (wx_cwV 0 hts wt_618 wt_617 wp_30 wt_1 wt_615 wh_W_takeFirstBetterPair rfl rfl ⟨Nat.le_of_ble_eq_true rfl, Nat.le_of_ble_eq_true rfl⟩) (wx_preV hK hP hD hS hA hC (by decide) rfl rfl) rfl rfl hl.1 rfl (lv_room (Nat.le_of_ble_eq_true rfl)) wd_W_improve_32 ⟨Nat.le_of_ble_eq_true rfl, Nat.le_of_ble_eq_true rfl⟩) hD hS hA (fun H locs hP hD hS => ?_)
        refine lv_if_eq (tgt := 44) hx hb wd_W_improve_35 (by decide) (fun c8 => ?_) (fun c8 => ?_)
        · have hf := wc_t c8 hf
          refine lv_iload_n hx hb wd_W_improve_44 rfl (lv_at hl 2 rfl) ?_
          refine W.widen (k := 2) (n := 12) (by decide) (by decide) ?_
          refine wz_ret ?_
          exact wx_iretx hx hb hr hlocks hf hP hS wd_W_improve_45
        · have hf := wc_f c8 hf
          obtain ⟨v9, ev9⟩ : ∃ y : Int32, y = x2 + 1 := ⟨_, rfl⟩
          have hf := wc_st_e ev9 hf
          refine lv_iinc (v := v9) (lv' := [(2, .int v9), (0, .ref (ad 0)), (1, .int x1)]) hx hb wd_W_improve_38 hl (k := 2) rfl (by rw [ev9]; rfl) (by decide) rfl (fun ls hl => ?_)
          refine lv_goto (tgt := 26) hx hb wd_W_improve_41 (by decide) ?_
          exact hk26 x1 v9 σ6 hf _ _ _ hP hD hS (lv_sub hl [1, 2, 0] rfl)
  unfold wf_W_improve at hf
  refine lv_aload_n hx hb wd_W_improve_0 rfl (lv_at hl 0 rfl) ?_
  obtain ⟨q, hq, hf⟩ := wc_bx_e hf
  refine wx_callvx (wz_runV (As := []) (rest := []) ⟨hx, hb, hml, hown, hts⟩ (wm_W_requireOrder l D ad cI cZ cJ cG htr _ σ _ hq) (wx_cwV 0 hts wt_555 wt_554 wp_25 wt_1 wt_552 wh_W_requireOrder rfl rfl ⟨Nat.le_of_ble_eq_true rfl, Nat.le_of_ble_eq_true rfl⟩) (wx_preV hK hP hD hS hA hC (by decide) rfl rfl) rfl rfl hl.1 rfl (lv_room (Nat.le_of_ble_eq_true rfl)) wd_W_improve_1 ⟨Nat.le_of_ble_eq_true rfl, Nat.le_of_ble_eq_true rfl⟩) hD hS hA (fun E q9 ce k9 σ1 H locs e9 hE hP hD hS hc1 hc2 hc3 => ?_) (fun σ1 H locs e9 hP hD hS => ?_)
  · subst e9; exact wx_outx ht hlocks hc1 hc2 hc3 hE (wc_bx_l hf) hP hS (by decide) (by decide)
  subst e9; have hf := wc_bx_r hf
  refine W.widen (k := 1) (n := 6) (by decide) (by decide) ?_
  refine lv_iload_n hx hb wd_W_improve_4 rfl (lv_at hl 1 rfl) ?_
  refine lv_iconst (v := 0) hx hb wd_W_improve_5 (by decide) ?_
  refine lv_bipush (v := 100) hx hb wd_W_improve_6 (by decide) ?_
  obtain ⟨r3, σ2, hq, hf⟩ := wc_b2_e hf
  refine wx_calli (va_runS (As := [.int a1, .int 0, .int 100]) (rest := []) ⟨hx, hb, hml, hown, hts⟩ (wm_W_isOutside l D ad cI cZ cJ cG _ a1 0 100 σ1 _ hq) (wx_cwS 3 hts wt_263 wt_262 wt_1 wt_261 wh_W_isOutside rfl rfl ⟨Nat.le_of_ble_eq_true rfl, Nat.le_of_ble_eq_true rfl⟩) (wx_preS hK hP hD hS hA hC) rfl rfl hl.1 rfl (lv_room (Nat.le_of_ble_eq_true rfl)) wd_W_improve_8 ⟨Nat.le_of_ble_eq_true rfl, Nat.le_of_ble_eq_true rfl⟩) hD hS hA (fun H locs hP hD hS => ?_)
  refine lv_if_eq (tgt := 24) hx hb wd_W_improve_11 (by decide) (fun c4 => ?_) (fun c4 => ?_)
  · have hf := wc_t c4 hf
    refine lv_iconst (v := 0) hx hb wd_W_improve_24 (by decide) ?_
    refine lv_istore_n (lv' := [(2, .int 0), (0, .ref (ad 0)), (1, .int a1)]) hx hb wd_W_improve_25 rfl hl (by decide) rfl (fun ls hl => ?_)
    exact J26 128 a1 0 σ2 hf _ _ _ hP hD hS (lv_sub hl [1, 2, 0] rfl)
  · have hf := wc_f c4 hf
    exact wz_throw (k := 2) (ik := 45) (ic := 49) hx hb htr hown hts hC wt_264 wt_11 (List.mem_of_getElem? (i := 19) rfl) wa_2_49 hS (hl.1.trans hml.symm) wd_W_improve_14 wd_W_improve_17 wd_W_improve_18 wd_W_improve_20 wd_W_improve_23 ht (Nat.le_of_ble_eq_true rfl) (Nat.le_of_ble_eq_true rfl) (Nat.le_of_ble_eq_true rfl) (Nat.le_of_ble_eq_true rfl) hlocks hP (Option.some.inj hf) (Nat.le_of_ble_eq_true rfl) (Nat.le_of_ble_eq_true rfl)
set_option maxHeartbeats 4000000 in
set_option maxRecDepth 100000 in
theorem wm_K_coil (l : Launch) (D : va_G) (ad : Nat → Nat) (cI cZ cJ cG : ClassId) (htr : l.stackTraces = false) (sz : Nat) (a1 : Int32) (a2 : Int32) (a3 : Int32) (a4 : Int32) (σ : wc_S) (res : Int32 × wc_S) (hf : wf_K_coil a1 a2 a3 a4 σ = some res) : Met l wy_K_coil (wx_ws_K_coil) ({ frames := 8, cells := 1, slots := 6, locals := 155 }) (va_Pc [.ref (ad 0), .int a1, .int a2, .int a3, .int a4, .ref (ad 88)] (wx_pre D ad cI cZ cJ cG σ sz)) (wx_Qi D ad cI cZ cJ cG res (va_A (wx_W ad cI cZ cJ cG σ) sz)) 1 6 (va_A (wx_W ad cI cZ cJ cG σ) sz) := by
  refine wx_ofH (cc := method_3_code) (maxL := 7) (ret := (some .int)) (Qc := fun A => wx_Qi D ad cI cZ cJ cG res A) [.ref (ad 0), .int a1, .int a2, .int a3, .int a4, .ref (ad 88)] (by decide) rfl (Nat.le_of_ble_eq_true rfl) ?_
  intro p e s m args below meth c A ls hin ht hl
  obtain ⟨hx, hb, hr, hts, hown, hlocks, hml, hA, hP, hK, hD, hC, hN, hS⟩ := hin
  have hl : lv_has ls 7 [(0, .ref (ad 0)), (1, .int a1), (2, .int a2), (3, .int a3), (4, .int a4), (5, .ref (ad 88))] := hl
  unfold wf_K_coil at hf
  refine lv_aload hx hb wd_K_coil_0 (lv_at hl 5 rfl) ?_
  refine lv_iconst (v := 0) hx hb wd_K_coil_2 (by decide) ?_
  refine lv_aload_n hx hb wd_K_coil_3 rfl (lv_at hl 0 rfl) ?_
  refine lv_iload_n hx hb wd_K_coil_4 rfl (lv_at hl 1 rfl) ?_
  refine lv_iload_n hx hb wd_K_coil_5 rfl (lv_at hl 2 rfl) ?_
  refine lv_iload_n hx hb wd_K_coil_6 rfl (lv_at hl 3 rfl) ?_
  refine lv_iload hx hb wd_K_coil_7 (lv_at hl 4 rfl) ?_
  obtain ⟨q, hq, hf⟩ := wc_cti_e hf
  refine wx_callix (wz_runV (As := [.int a1, .int a2, .int a3, .int a4]) (rest := [.int 0, .ref (ad 88)]) ⟨hx, hb, hml, hown, hts⟩ (wm_W_coil l D ad cI cZ cJ cG htr _ a1 a2 a3 a4 σ _ hq) (wx_cwV 4 hts wt_260 wt_258 wt_259 wt_1 wt_257 wh_W_coil rfl rfl ⟨Nat.le_of_ble_eq_true rfl, Nat.le_of_ble_eq_true rfl⟩) (wx_preV hK hP hD hS hA hC (by decide) rfl rfl) rfl rfl hl.1 rfl (lv_room (Nat.le_of_ble_eq_true rfl)) wd_K_coil_9 ⟨Nat.le_of_ble_eq_true rfl, Nat.le_of_ble_eq_true rfl⟩) hD hS hA (fun E q9 ce k9 σ3 H locs e9 hE hP hD hS hc1 hc2 hc3 => ?_) (fun r2 σ1 H locs e9 hP hD hS => ?_)
  · subst e9
    have hf := wc_cti_l hf
    by_cases ck2 : k9 = 2
    · have hf := wc_t ck2 hf
      subst ck2
      rw [show E = "java/lang/IllegalArgumentException" from hE] at hc3
      refine wz_catch (own := "WidthCampaignsLaw") (E := "java/lang/IllegalArgumentException") [] ⟨0, 14, 17, 13⟩ [⟨0, 14, 21, 15⟩] hown hts hN (by rw [ht]; rfl) (fun _ h => absurd h List.not_mem_nil) (by decide) (by decide) wt_255 (List.mem_of_getElem? (i := 52) rfl) hc1 hc2 hc3 ?_
      refine W.widen (k := 1) (n := 6) (by decide) (by decide) ?_
      refine lv_astore (lv' := [(6, .ref q9), (0, .ref (ad 0)), (1, .int a1), (2, .int a2), (3, .int a3), (4, .int a4), (5, .ref (ad 88))]) hx hb wd_K_coil_17 hl (by decide) rfl (fun ls hl => ?_)
      refine lv_iconst (v := 1) hx hb wd_K_coil_19 (by decide) ?_
      exact wx_iret hx hb hr hlocks hf hP hS wd_K_coil_20
    · have hf := wc_f ck2 hf
      by_cases ck3 : k9 = 3
      · have hf := wc_t ck3 hf
        subst ck3
        rw [show E = "java/lang/UnsupportedOperationException" from hE] at hc3
        refine wz_catch (own := "WidthCampaignsLaw") (E := "java/lang/UnsupportedOperationException") [⟨0, 14, 17, 13⟩] ⟨0, 14, 21, 15⟩ [] hown hts hN (by rw [ht]; rfl) (List.forall_mem_cons.mpr ⟨⟨by decide, "java/lang/IllegalArgumentException", wt_255, List.mem_of_getElem? (i := 9) rfl⟩, (fun _ h => absurd h List.not_mem_nil)⟩) (by decide) (by decide) wt_256 (List.mem_of_getElem? (i := 53) rfl) hc1 hc2 hc3 ?_
        refine W.widen (k := 1) (n := 6) (by decide) (by decide) ?_
        refine lv_astore (lv' := [(6, .ref q9), (0, .ref (ad 0)), (1, .int a1), (2, .int a2), (3, .int a3), (4, .int a4), (5, .ref (ad 88))]) hx hb wd_K_coil_21 hl (by decide) rfl (fun ls hl => ?_)
        refine lv_iconst (v := 2) hx hb wd_K_coil_23 (by decide) ?_
        exact wx_iret hx hb hr hlocks hf hP hS wd_K_coil_24
      · have hf := wc_f ck3 hf
        cases hf
  · subst e9
    have hf := wc_cti_r hf
    refine W.widen (k := 1) (n := 6) (by decide) (by decide) ?_
    refine lv_i2l hx hb wd_K_coil_12 rfl ?_
    obtain ⟨h4, hf⟩ := wc_gd_e hf
    refine wx_last (x := r2) hx hb hK hP hD hS h4 rfl wd_K_coil_13 (fun σ5 H locs eσ5 hP hD hS => ?_)
    have hf := wc_st_e eσ5 hf
    refine lv_goto (tgt := 25) hx hb wd_K_coil_14 (by decide) ?_
    refine lv_iconst (v := 0) hx hb wd_K_coil_25 (by decide) ?_
    exact wx_iret hx hb hr hlocks hf hP hS wd_K_coil_26
set_option maxHeartbeats 4000000 in
set_option maxRecDepth 100000 in
theorem wm_K_table (l : Launch) (D : va_G) (ad : Nat → Nat) (cI cZ cJ cG : ClassId) (htr : l.stackTraces = false) (sz : Nat) (a1 : Int32) (a2 : Int32) (a3 : Int32) (a4 : Int32) (σ : wc_S) (res : Int32 × wc_S) (hf : wf_K_table a1 a2 a3 a4 σ = some res) : Met l wy_K_table (wx_ws_K_table) ({ frames := 8, cells := 1, slots := 6, locals := 135 }) (va_Pc [.ref (ad 0), .int a1, .int a2, .int a3, .int a4, .ref (ad 88)] (wx_pre D ad cI cZ cJ cG σ sz)) (wx_Qi D ad cI cZ cJ cG res (va_A (wx_W ad cI cZ cJ cG σ) sz)) 1 6 (va_A (wx_W ad cI cZ cJ cG σ) sz) := by
  refine wx_ofH (cc := method_4_code) (maxL := 7) (ret := (some .int)) (Qc := fun A => wx_Qi D ad cI cZ cJ cG res A) [.ref (ad 0), .int a1, .int a2, .int a3, .int a4, .ref (ad 88)] (by decide) rfl (Nat.le_of_ble_eq_true rfl) ?_
  intro p e s m args below meth c A ls hin ht hl
  obtain ⟨hx, hb, hr, hts, hown, hlocks, hml, hA, hP, hK, hD, hC, hN, hS⟩ := hin
  have hl : lv_has ls 7 [(0, .ref (ad 0)), (1, .int a1), (2, .int a2), (3, .int a3), (4, .int a4), (5, .ref (ad 88))] := hl
  unfold wf_K_table at hf
  refine lv_aload hx hb wd_K_table_0 (lv_at hl 5 rfl) ?_
  refine lv_iconst (v := 0) hx hb wd_K_table_2 (by decide) ?_
  refine lv_aload_n hx hb wd_K_table_3 rfl (lv_at hl 0 rfl) ?_
  refine lv_iload_n hx hb wd_K_table_4 rfl (lv_at hl 1 rfl) ?_
  refine lv_iload_n hx hb wd_K_table_5 rfl (lv_at hl 2 rfl) ?_
  refine lv_iload_n hx hb wd_K_table_6 rfl (lv_at hl 3 rfl) ?_
  refine lv_iload hx hb wd_K_table_7 (lv_at hl 4 rfl) ?_
  obtain ⟨q, hq, hf⟩ := wc_cti_e hf
  refine wx_callix (wz_runV (As := [.int a1, .int a2, .int a3, .int a4]) (rest := [.int 0, .ref (ad 88)]) ⟨hx, hb, hml, hown, hts⟩ (wm_W_table l D ad cI cZ cJ cG htr _ a1 a2 a3 a4 σ _ hq) (wx_cwV 4 hts wt_379 wt_377 wt_378 wt_1 wt_376 wh_W_table rfl rfl ⟨Nat.le_of_ble_eq_true rfl, Nat.le_of_ble_eq_true rfl⟩) (wx_preV hK hP hD hS hA hC (by decide) rfl rfl) rfl rfl hl.1 rfl (lv_room (Nat.le_of_ble_eq_true rfl)) wd_K_table_9 ⟨Nat.le_of_ble_eq_true rfl, Nat.le_of_ble_eq_true rfl⟩) hD hS hA (fun E q9 ce k9 σ3 H locs e9 hE hP hD hS hc1 hc2 hc3 => ?_) (fun r2 σ1 H locs e9 hP hD hS => ?_)
  · subst e9
    have hf := wc_cti_l hf
    by_cases ck0 : k9 = 0
    · have hf := wc_t ck0 hf
      subst ck0
      rw [show E = "java/lang/IndexOutOfBoundsException" from hE] at hc3
      refine wz_catch (own := "WidthCampaignsLaw") (E := "java/lang/IndexOutOfBoundsException") [] ⟨0, 14, 17, 20⟩ [⟨0, 14, 21, 13⟩, ⟨0, 14, 25, 15⟩] hown hts hN (by rw [ht]; rfl) (fun _ h => absurd h List.not_mem_nil) (by decide) (by decide) wt_375 (List.mem_of_getElem? (i := 54) rfl) hc1 hc2 hc3 ?_
      refine W.widen (k := 1) (n := 6) (by decide) (by decide) ?_
      refine lv_astore (lv' := [(6, .ref q9), (0, .ref (ad 0)), (1, .int a1), (2, .int a2), (3, .int a3), (4, .int a4), (5, .ref (ad 88))]) hx hb wd_K_table_17 hl (by decide) rfl (fun ls hl => ?_)
      refine lv_iconst (v := 1) hx hb wd_K_table_19 (by decide) ?_
      exact wx_iret hx hb hr hlocks hf hP hS wd_K_table_20
    · have hf := wc_f ck0 hf
      by_cases ck2 : k9 = 2
      · have hf := wc_t ck2 hf
        subst ck2
        rw [show E = "java/lang/IllegalArgumentException" from hE] at hc3
        refine wz_catch (own := "WidthCampaignsLaw") (E := "java/lang/IllegalArgumentException") [⟨0, 14, 17, 20⟩] ⟨0, 14, 21, 13⟩ [⟨0, 14, 25, 15⟩] hown hts hN (by rw [ht]; rfl) (List.forall_mem_cons.mpr ⟨⟨by decide, "java/lang/IndexOutOfBoundsException", wt_375, List.mem_of_getElem? (i := 1) rfl⟩, (fun _ h => absurd h List.not_mem_nil)⟩) (by decide) (by decide) wt_255 (List.mem_of_getElem? (i := 52) rfl) hc1 hc2 hc3 ?_
        refine W.widen (k := 1) (n := 6) (by decide) (by decide) ?_
        refine lv_astore (lv' := [(6, .ref q9), (0, .ref (ad 0)), (1, .int a1), (2, .int a2), (3, .int a3), (4, .int a4), (5, .ref (ad 88))]) hx hb wd_K_table_21 hl (by decide) rfl (fun ls hl => ?_)
        refine lv_iconst (v := 2) hx hb wd_K_table_23 (by decide) ?_
        exact wx_iret hx hb hr hlocks hf hP hS wd_K_table_24
      · have hf := wc_f ck2 hf
        by_cases ck3 : k9 = 3
        · have hf := wc_t ck3 hf
          subst ck3
          rw [show E = "java/lang/UnsupportedOperationException" from hE] at hc3
          refine wz_catch (own := "WidthCampaignsLaw") (E := "java/lang/UnsupportedOperationException") [⟨0, 14, 17, 20⟩, ⟨0, 14, 21, 13⟩] ⟨0, 14, 25, 15⟩ [] hown hts hN (by rw [ht]; rfl) (List.forall_mem_cons.mpr ⟨⟨by decide, "java/lang/IndexOutOfBoundsException", wt_375, List.mem_of_getElem? (i := 11) rfl⟩, (List.forall_mem_cons.mpr ⟨⟨by decide, "java/lang/IllegalArgumentException", wt_255, List.mem_of_getElem? (i := 9) rfl⟩, (fun _ h => absurd h List.not_mem_nil)⟩)⟩) (by decide) (by decide) wt_256 (List.mem_of_getElem? (i := 53) rfl) hc1 hc2 hc3 ?_
          refine W.widen (k := 1) (n := 6) (by decide) (by decide) ?_
          refine lv_astore (lv' := [(6, .ref q9), (0, .ref (ad 0)), (1, .int a1), (2, .int a2), (3, .int a3), (4, .int a4), (5, .ref (ad 88))]) hx hb wd_K_table_25 hl (by decide) rfl (fun ls hl => ?_)
          refine lv_iconst (v := 3) hx hb wd_K_table_27 (by decide) ?_
          exact wx_iret hx hb hr hlocks hf hP hS wd_K_table_28
        · have hf := wc_f ck3 hf
          cases hf
  · subst e9
    have hf := wc_cti_r hf
    refine W.widen (k := 1) (n := 6) (by decide) (by decide) ?_
    refine lv_i2l hx hb wd_K_table_12 rfl ?_
    obtain ⟨h4, hf⟩ := wc_gd_e hf
    refine wx_last (x := r2) hx hb hK hP hD hS h4 rfl wd_K_table_13 (fun σ5 H locs eσ5 hP hD hS => ?_)
    have hf := wc_st_e eσ5 hf
    refine lv_goto (tgt := 29) hx hb wd_K_table_14 (by decide) ?_
    refine lv_iconst (v := 0) hx hb wd_K_table_29 (by decide) ?_
    exact wx_iret hx hb hr hlocks hf hP hS wd_K_table_30
set_option maxHeartbeats 4000000 in
set_option maxRecDepth 100000 in
theorem wm_K_group (l : Launch) (D : va_G) (ad : Nat → Nat) (cI cZ cJ cG : ClassId) (htr : l.stackTraces = false) (sz : Nat) (a1 : Int32) (a2 : Int32) (a3 : Int32) (σ : wc_S) (res : Int32 × wc_S) (hf : wf_K_group a1 a2 a3 σ = some res) : Met l wy_K_group (wx_ws_K_group) ({ frames := 8, cells := 1, slots := 6, locals := 133 }) (va_Pc [.ref (ad 0), .int a1, .int a2, .int a3, .ref (ad 88)] (wx_pre D ad cI cZ cJ cG σ sz)) (wx_Qi D ad cI cZ cJ cG res (va_A (wx_W ad cI cZ cJ cG σ) sz)) 1 6 (va_A (wx_W ad cI cZ cJ cG σ) sz) := by
  refine wx_ofH (cc := method_5_code) (maxL := 6) (ret := (some .int)) (Qc := fun A => wx_Qi D ad cI cZ cJ cG res A) [.ref (ad 0), .int a1, .int a2, .int a3, .ref (ad 88)] (by decide) rfl (Nat.le_of_ble_eq_true rfl) ?_
  intro p e s m args below meth c A ls hin ht hl
  obtain ⟨hx, hb, hr, hts, hown, hlocks, hml, hA, hP, hK, hD, hC, hN, hS⟩ := hin
  have hl : lv_has ls 6 [(0, .ref (ad 0)), (1, .int a1), (2, .int a2), (3, .int a3), (4, .ref (ad 88))] := hl
  unfold wf_K_group at hf
  refine lv_aload hx hb wd_K_group_0 (lv_at hl 4 rfl) ?_
  refine lv_iconst (v := 0) hx hb wd_K_group_2 (by decide) ?_
  refine lv_aload_n hx hb wd_K_group_3 rfl (lv_at hl 0 rfl) ?_
  refine lv_iload_n hx hb wd_K_group_4 rfl (lv_at hl 1 rfl) ?_
  refine lv_iload_n hx hb wd_K_group_5 rfl (lv_at hl 2 rfl) ?_
  refine lv_iload_n hx hb wd_K_group_6 rfl (lv_at hl 3 rfl) ?_
  obtain ⟨q, hq, hf⟩ := wc_cti_e hf
  refine wx_callix (wz_runV (As := [.int a1, .int a2, .int a3]) (rest := [.int 0, .ref (ad 88)]) ⟨hx, hb, hml, hown, hts⟩ (wm_W_group l D ad cI cZ cJ cG htr _ a1 a2 a3 σ _ hq) (wx_cwV 3 hts wt_409 wt_407 wt_408 wt_1 wt_406 wh_W_group rfl rfl ⟨Nat.le_of_ble_eq_true rfl, Nat.le_of_ble_eq_true rfl⟩) (wx_preV hK hP hD hS hA hC (by decide) rfl rfl) rfl rfl hl.1 rfl (lv_room (Nat.le_of_ble_eq_true rfl)) wd_K_group_7 ⟨Nat.le_of_ble_eq_true rfl, Nat.le_of_ble_eq_true rfl⟩) hD hS hA (fun E q9 ce k9 σ3 H locs e9 hE hP hD hS hc1 hc2 hc3 => ?_) (fun r2 σ1 H locs e9 hP hD hS => ?_)
  · subst e9
    have hf := wc_cti_l hf
    by_cases ck2 : k9 = 2
    · have hf := wc_t ck2 hf
      subst ck2
      rw [show E = "java/lang/IllegalArgumentException" from hE] at hc3
      refine wz_catch (own := "WidthCampaignsLaw") (E := "java/lang/IllegalArgumentException") [] ⟨0, 12, 15, 13⟩ [⟨0, 12, 19, 15⟩] hown hts hN (by rw [ht]; rfl) (fun _ h => absurd h List.not_mem_nil) (by decide) (by decide) wt_255 (List.mem_of_getElem? (i := 52) rfl) hc1 hc2 hc3 ?_
      refine W.widen (k := 1) (n := 6) (by decide) (by decide) ?_
      refine lv_astore (lv' := [(5, .ref q9), (0, .ref (ad 0)), (1, .int a1), (2, .int a2), (3, .int a3), (4, .ref (ad 88))]) hx hb wd_K_group_15 hl (by decide) rfl (fun ls hl => ?_)
      refine lv_iconst (v := 1) hx hb wd_K_group_17 (by decide) ?_
      exact wx_iret hx hb hr hlocks hf hP hS wd_K_group_18
    · have hf := wc_f ck2 hf
      by_cases ck3 : k9 = 3
      · have hf := wc_t ck3 hf
        subst ck3
        rw [show E = "java/lang/UnsupportedOperationException" from hE] at hc3
        refine wz_catch (own := "WidthCampaignsLaw") (E := "java/lang/UnsupportedOperationException") [⟨0, 12, 15, 13⟩] ⟨0, 12, 19, 15⟩ [] hown hts hN (by rw [ht]; rfl) (List.forall_mem_cons.mpr ⟨⟨by decide, "java/lang/IllegalArgumentException", wt_255, List.mem_of_getElem? (i := 9) rfl⟩, (fun _ h => absurd h List.not_mem_nil)⟩) (by decide) (by decide) wt_256 (List.mem_of_getElem? (i := 53) rfl) hc1 hc2 hc3 ?_
        refine W.widen (k := 1) (n := 6) (by decide) (by decide) ?_
        refine lv_astore (lv' := [(5, .ref q9), (0, .ref (ad 0)), (1, .int a1), (2, .int a2), (3, .int a3), (4, .ref (ad 88))]) hx hb wd_K_group_19 hl (by decide) rfl (fun ls hl => ?_)
        refine lv_iconst (v := 2) hx hb wd_K_group_21 (by decide) ?_
        exact wx_iret hx hb hr hlocks hf hP hS wd_K_group_22
      · have hf := wc_f ck3 hf
        cases hf
  · subst e9
    have hf := wc_cti_r hf
    refine W.widen (k := 1) (n := 6) (by decide) (by decide) ?_
    refine lv_i2l hx hb wd_K_group_10 rfl ?_
    obtain ⟨h4, hf⟩ := wc_gd_e hf
    refine wx_last (x := r2) hx hb hK hP hD hS h4 rfl wd_K_group_11 (fun σ5 H locs eσ5 hP hD hS => ?_)
    have hf := wc_st_e eσ5 hf
    refine lv_goto (tgt := 23) hx hb wd_K_group_12 (by decide) ?_
    refine lv_iconst (v := 0) hx hb wd_K_group_23 (by decide) ?_
    exact wx_iret hx hb hr hlocks hf hP hS wd_K_group_24
set_option maxHeartbeats 4000000 in
set_option maxRecDepth 100000 in
theorem wm_K_urgent (l : Launch) (D : va_G) (ad : Nat → Nat) (cI cZ cJ cG : ClassId) (htr : l.stackTraces = false) (sz : Nat) (a1 : Int32) (a2 : Int32) (σ : wc_S) (res : Int32 × wc_S) (hf : wf_K_urgent a1 a2 σ = some res) : Met l wy_K_urgent (wx_ws_K_urgent) ({ frames := 8, cells := 1, slots := 6, locals := 132 }) (va_Pc [.ref (ad 0), .int a1, .int a2] (wx_pre D ad cI cZ cJ cG σ sz)) (wx_Qi D ad cI cZ cJ cG res (va_A (wx_W ad cI cZ cJ cG σ) sz)) 1 6 (va_A (wx_W ad cI cZ cJ cG σ) sz) := by
  refine wx_ofH (cc := method_6_code) (maxL := 4) (ret := (some .int)) (Qc := fun A => wx_Qi D ad cI cZ cJ cG res A) [.ref (ad 0), .int a1, .int a2] (by decide) rfl (Nat.le_of_ble_eq_true rfl) ?_
  intro p e s m args below meth c A ls hin ht hl
  obtain ⟨hx, hb, hr, hts, hown, hlocks, hml, hA, hP, hK, hD, hC, hN, hS⟩ := hin
  have hl : lv_has ls 4 [(0, .ref (ad 0)), (1, .int a1), (2, .int a2)] := hl
  unfold wf_K_urgent at hf
  refine lv_aload_n hx hb wd_K_urgent_0 rfl (lv_at hl 0 rfl) ?_
  refine lv_iload_n hx hb wd_K_urgent_1 rfl (lv_at hl 1 rfl) ?_
  refine lv_iload_n hx hb wd_K_urgent_2 rfl (lv_at hl 2 rfl) ?_
  obtain ⟨q, hq, hf⟩ := wc_ctv_e hf
  refine wx_callvx (wz_runV (As := [.int a1, .int a2]) (rest := []) ⟨hx, hb, hml, hown, hts⟩ (wm_W_urgent l D ad cI cZ cJ cG htr _ a1 a2 σ _ hq) (wx_cwV 2 hts wt_422 wt_420 wt_421 wt_1 wt_419 wh_W_urgent rfl rfl ⟨Nat.le_of_ble_eq_true rfl, Nat.le_of_ble_eq_true rfl⟩) (wx_preV hK hP hD hS hA hC (by decide) rfl rfl) rfl rfl hl.1 rfl (lv_room (Nat.le_of_ble_eq_true rfl)) wd_K_urgent_3 ⟨Nat.le_of_ble_eq_true rfl, Nat.le_of_ble_eq_true rfl⟩) hD hS hA (fun E q9 ce k9 σ2 H locs e9 hE hP hD hS hc1 hc2 hc3 => ?_) (fun σ1 H locs e9 hP hD hS => ?_)
  · subst e9
    have hf := wc_ctv_l hf
    by_cases ck0 : k9 = 0
    · have hf := wc_t ck0 hf
      subst ck0
      rw [show E = "java/lang/IndexOutOfBoundsException" from hE] at hc3
      refine wz_catch (own := "WidthCampaignsLaw") (E := "java/lang/IndexOutOfBoundsException") [] ⟨0, 6, 9, 20⟩ [⟨0, 6, 12, 13⟩] hown hts hN (by rw [ht]; rfl) (fun _ h => absurd h List.not_mem_nil) (by decide) (by decide) wt_375 (List.mem_of_getElem? (i := 54) rfl) hc1 hc2 hc3 ?_
      refine W.widen (k := 1) (n := 6) (by decide) (by decide) ?_
      refine lv_astore_n (lv' := [(3, .ref q9), (0, .ref (ad 0)), (1, .int a1), (2, .int a2)]) hx hb wd_K_urgent_9 rfl hl (by decide) rfl (fun ls hl => ?_)
      refine lv_iconst (v := 1) hx hb wd_K_urgent_10 (by decide) ?_
      exact wx_iret hx hb hr hlocks hf hP hS wd_K_urgent_11
    · have hf := wc_f ck0 hf
      by_cases ck2 : k9 = 2
      · have hf := wc_t ck2 hf
        subst ck2
        rw [show E = "java/lang/IllegalArgumentException" from hE] at hc3
        refine wz_catch (own := "WidthCampaignsLaw") (E := "java/lang/IllegalArgumentException") [⟨0, 6, 9, 20⟩] ⟨0, 6, 12, 13⟩ [] hown hts hN (by rw [ht]; rfl) (List.forall_mem_cons.mpr ⟨⟨by decide, "java/lang/IndexOutOfBoundsException", wt_375, List.mem_of_getElem? (i := 1) rfl⟩, (fun _ h => absurd h List.not_mem_nil)⟩) (by decide) (by decide) wt_255 (List.mem_of_getElem? (i := 52) rfl) hc1 hc2 hc3 ?_
        refine W.widen (k := 1) (n := 6) (by decide) (by decide) ?_
        refine lv_astore_n (lv' := [(3, .ref q9), (0, .ref (ad 0)), (1, .int a1), (2, .int a2)]) hx hb wd_K_urgent_12 rfl hl (by decide) rfl (fun ls hl => ?_)
        refine lv_iconst (v := 2) hx hb wd_K_urgent_13 (by decide) ?_
        exact wx_iret hx hb hr hlocks hf hP hS wd_K_urgent_14
      · have hf := wc_f ck2 hf
        cases hf
  · subst e9
    have hf := wc_ctv_r hf
    refine W.widen (k := 1) (n := 6) (by decide) (by decide) ?_
    refine lv_goto (tgt := 15) hx hb wd_K_urgent_6 (by decide) ?_
    refine lv_iconst (v := 0) hx hb wd_K_urgent_15 (by decide) ?_
    exact wx_iret hx hb hr hlocks hf hP hS wd_K_urgent_16
set_option maxHeartbeats 4000000 in
set_option maxRecDepth 100000 in
theorem wm_K_old (l : Launch) (D : va_G) (ad : Nat → Nat) (cI cZ cJ cG : ClassId) (htr : l.stackTraces = false) (sz : Nat) (a1 : Int32) (a2 : Int32) (σ : wc_S) (res : Int32 × wc_S) (hf : wf_K_old a1 a2 σ = some res) : Met l wy_K_old (wx_ws_K_old) ({ frames := 8, cells := 1, slots := 6, locals := 132 }) (va_Pc [.ref (ad 0), .int a1, .int a2] (wx_pre D ad cI cZ cJ cG σ sz)) (wx_Qi D ad cI cZ cJ cG res (va_A (wx_W ad cI cZ cJ cG σ) sz)) 1 6 (va_A (wx_W ad cI cZ cJ cG σ) sz) := by
  refine wx_ofH (cc := method_7_code) (maxL := 4) (ret := (some .int)) (Qc := fun A => wx_Qi D ad cI cZ cJ cG res A) [.ref (ad 0), .int a1, .int a2] (by decide) rfl (Nat.le_of_ble_eq_true rfl) ?_
  intro p e s m args below meth c A ls hin ht hl
  obtain ⟨hx, hb, hr, hts, hown, hlocks, hml, hA, hP, hK, hD, hC, hN, hS⟩ := hin
  have hl : lv_has ls 4 [(0, .ref (ad 0)), (1, .int a1), (2, .int a2)] := hl
  unfold wf_K_old at hf
  refine lv_aload_n hx hb wd_K_old_0 rfl (lv_at hl 0 rfl) ?_
  refine lv_iload_n hx hb wd_K_old_1 rfl (lv_at hl 1 rfl) ?_
  refine lv_iload_n hx hb wd_K_old_2 rfl (lv_at hl 2 rfl) ?_
  obtain ⟨q, hq, hf⟩ := wc_ctv_e hf
  refine wx_callvx (wz_runV (As := [.int a1, .int a2]) (rest := []) ⟨hx, hb, hml, hown, hts⟩ (wm_W_old l D ad cI cZ cJ cG htr _ a1 a2 σ _ hq) (wx_cwV 2 hts wt_435 wt_433 wt_434 wt_1 wt_432 wh_W_old rfl rfl ⟨Nat.le_of_ble_eq_true rfl, Nat.le_of_ble_eq_true rfl⟩) (wx_preV hK hP hD hS hA hC (by decide) rfl rfl) rfl rfl hl.1 rfl (lv_room (Nat.le_of_ble_eq_true rfl)) wd_K_old_3 ⟨Nat.le_of_ble_eq_true rfl, Nat.le_of_ble_eq_true rfl⟩) hD hS hA (fun E q9 ce k9 σ2 H locs e9 hE hP hD hS hc1 hc2 hc3 => ?_) (fun σ1 H locs e9 hP hD hS => ?_)
  · subst e9
    have hf := wc_ctv_l hf
    by_cases ck0 : k9 = 0
    · have hf := wc_t ck0 hf
      subst ck0
      rw [show E = "java/lang/IndexOutOfBoundsException" from hE] at hc3
      refine wz_catch (own := "WidthCampaignsLaw") (E := "java/lang/IndexOutOfBoundsException") [] ⟨0, 6, 9, 20⟩ [⟨0, 6, 12, 13⟩] hown hts hN (by rw [ht]; rfl) (fun _ h => absurd h List.not_mem_nil) (by decide) (by decide) wt_375 (List.mem_of_getElem? (i := 54) rfl) hc1 hc2 hc3 ?_
      refine W.widen (k := 1) (n := 6) (by decide) (by decide) ?_
      refine lv_astore_n (lv' := [(3, .ref q9), (0, .ref (ad 0)), (1, .int a1), (2, .int a2)]) hx hb wd_K_old_9 rfl hl (by decide) rfl (fun ls hl => ?_)
      refine lv_iconst (v := 1) hx hb wd_K_old_10 (by decide) ?_
      exact wx_iret hx hb hr hlocks hf hP hS wd_K_old_11
    · have hf := wc_f ck0 hf
      by_cases ck2 : k9 = 2
      · have hf := wc_t ck2 hf
        subst ck2
        rw [show E = "java/lang/IllegalArgumentException" from hE] at hc3
        refine wz_catch (own := "WidthCampaignsLaw") (E := "java/lang/IllegalArgumentException") [⟨0, 6, 9, 20⟩] ⟨0, 6, 12, 13⟩ [] hown hts hN (by rw [ht]; rfl) (List.forall_mem_cons.mpr ⟨⟨by decide, "java/lang/IndexOutOfBoundsException", wt_375, List.mem_of_getElem? (i := 1) rfl⟩, (fun _ h => absurd h List.not_mem_nil)⟩) (by decide) (by decide) wt_255 (List.mem_of_getElem? (i := 52) rfl) hc1 hc2 hc3 ?_
        refine W.widen (k := 1) (n := 6) (by decide) (by decide) ?_
        refine lv_astore_n (lv' := [(3, .ref q9), (0, .ref (ad 0)), (1, .int a1), (2, .int a2)]) hx hb wd_K_old_12 rfl hl (by decide) rfl (fun ls hl => ?_)
        refine lv_iconst (v := 2) hx hb wd_K_old_13 (by decide) ?_
        exact wx_iret hx hb hr hlocks hf hP hS wd_K_old_14
      · have hf := wc_f ck2 hf
        cases hf
  · subst e9
    have hf := wc_ctv_r hf
    refine W.widen (k := 1) (n := 6) (by decide) (by decide) ?_
    refine lv_goto (tgt := 15) hx hb wd_K_old_6 (by decide) ?_
    refine lv_iconst (v := 0) hx hb wd_K_old_15 (by decide) ?_
    exact wx_iret hx hb hr hlocks hf hP hS wd_K_old_16
set_option maxHeartbeats 4000000 in
set_option maxRecDepth 100000 in
theorem wm_K_rules (l : Launch) (D : va_G) (ad : Nat → Nat) (cI cZ cJ cG : ClassId) (htr : l.stackTraces = false) (sz : Nat) (a1 : Int32) (a2 : Int32) (a3 : Int32) (a4 : Int32) (σ : wc_S) (res : Int32 × wc_S) (hf : wf_K_rules a1 a2 a3 a4 σ = some res) : Met l wy_K_rules (wx_ws_K_rules) ({ frames := 8, cells := 1, slots := 6, locals := 134 }) (va_Pc [.ref (ad 0), .int a1, .int a2, .int a3, .int a4] (wx_pre D ad cI cZ cJ cG σ sz)) (wx_Qi D ad cI cZ cJ cG res (va_A (wx_W ad cI cZ cJ cG σ) sz)) 1 6 (va_A (wx_W ad cI cZ cJ cG σ) sz) := by
  refine wx_ofH (cc := method_8_code) (maxL := 6) (ret := (some .int)) (Qc := fun A => wx_Qi D ad cI cZ cJ cG res A) [.ref (ad 0), .int a1, .int a2, .int a3, .int a4] (by decide) rfl (Nat.le_of_ble_eq_true rfl) ?_
  intro p e s m args below meth c A ls hin ht hl
  obtain ⟨hx, hb, hr, hts, hown, hlocks, hml, hA, hP, hK, hD, hC, hN, hS⟩ := hin
  have hl : lv_has ls 6 [(0, .ref (ad 0)), (1, .int a1), (2, .int a2), (3, .int a3), (4, .int a4)] := hl
  unfold wf_K_rules at hf
  refine lv_aload_n hx hb wd_K_rules_0 rfl (lv_at hl 0 rfl) ?_
  refine lv_iload_n hx hb wd_K_rules_1 rfl (lv_at hl 1 rfl) ?_
  refine lv_iload_n hx hb wd_K_rules_2 rfl (lv_at hl 2 rfl) ?_
  refine lv_iload_n hx hb wd_K_rules_3 rfl (lv_at hl 3 rfl) ?_
  refine lv_iload hx hb wd_K_rules_4 (lv_at hl 4 rfl) ?_
  obtain ⟨q, hq, hf⟩ := wc_ctv_e hf
  refine wx_callvx (wz_runV (As := [.int a1, .int a2, .int a3, .int a4]) (rest := []) ⟨hx, hb, hml, hown, hts⟩ (wm_W_rules l D ad cI cZ cJ cG htr _ a1 a2 a3 a4 σ _ hq) (wx_cwV 4 hts wt_443 wt_441 wt_442 wt_1 wt_440 wh_W_rules rfl rfl ⟨Nat.le_of_ble_eq_true rfl, Nat.le_of_ble_eq_true rfl⟩) (wx_preV hK hP hD hS hA hC (by decide) rfl rfl) rfl rfl hl.1 rfl (lv_room (Nat.le_of_ble_eq_true rfl)) wd_K_rules_6 ⟨Nat.le_of_ble_eq_true rfl, Nat.le_of_ble_eq_true rfl⟩) hD hS hA (fun E q9 ce k9 σ2 H locs e9 hE hP hD hS hc1 hc2 hc3 => ?_) (fun σ1 H locs e9 hP hD hS => ?_)
  · subst e9
    have hf := wc_ctv_l hf
    by_cases ck2 : k9 = 2
    · have hf := wc_t ck2 hf
      subst ck2
      rw [show E = "java/lang/IllegalArgumentException" from hE] at hc3
      refine wz_catch (own := "WidthCampaignsLaw") (E := "java/lang/IllegalArgumentException") [] ⟨0, 9, 12, 13⟩ [] hown hts hN (by rw [ht]; rfl) (fun _ h => absurd h List.not_mem_nil) (by decide) (by decide) wt_255 (List.mem_of_getElem? (i := 52) rfl) hc1 hc2 hc3 ?_
      refine W.widen (k := 1) (n := 6) (by decide) (by decide) ?_
      refine lv_astore (lv' := [(5, .ref q9), (0, .ref (ad 0)), (1, .int a1), (2, .int a2), (3, .int a3), (4, .int a4)]) hx hb wd_K_rules_12 hl (by decide) rfl (fun ls hl => ?_)
      refine lv_iconst (v := 1) hx hb wd_K_rules_14 (by decide) ?_
      exact wx_iret hx hb hr hlocks hf hP hS wd_K_rules_15
    · have hf := wc_f ck2 hf
      cases hf
  · subst e9
    have hf := wc_ctv_r hf
    refine W.widen (k := 1) (n := 6) (by decide) (by decide) ?_
    refine lv_goto (tgt := 16) hx hb wd_K_rules_9 (by decide) ?_
    refine lv_iconst (v := 0) hx hb wd_K_rules_16 (by decide) ?_
    exact wx_iret hx hb hr hlocks hf hP hS wd_K_rules_17
set_option maxHeartbeats 4000000 in
set_option maxRecDepth 100000 in
theorem wm_K_run (l : Launch) (D : va_G) (ad : Nat → Nat) (cI cZ cJ cG : ClassId) (htr : l.stackTraces = false) (sz : Nat) (a1 : Int32) (σ : wc_S) (res : Int32 × wc_S) (hf : wf_K_run a1 σ = some res) : Met l wy_K_run (wx_ws_K_run) ({ frames := 28, cells := 1, slots := 6, locals := 628 }) (va_Pc [.ref (ad 0), .int a1, .ref (ad 88)] (wx_pre D ad cI cZ cJ cG σ sz)) (wx_Qi D ad cI cZ cJ cG res (va_A (wx_W ad cI cZ cJ cG σ) sz)) 1 6 (va_A (wx_W ad cI cZ cJ cG σ) sz) := by
  refine wx_ofH (cc := method_9_code) (maxL := 4) (ret := (some .int)) (Qc := fun A => wx_Qi D ad cI cZ cJ cG res A) [.ref (ad 0), .int a1, .ref (ad 88)] (by decide) rfl (Nat.le_of_ble_eq_true rfl) ?_
  intro p e s m args below meth c A ls hin ht hl
  obtain ⟨hx, hb, hr, hts, hown, hlocks, hml, hA, hP, hK, hD, hC, hN, hS⟩ := hin
  have hl : lv_has ls 4 [(0, .ref (ad 0)), (1, .int a1), (2, .ref (ad 88))] := hl
  unfold wf_K_run at hf
  refine lv_aload_n hx hb wd_K_run_0 rfl (lv_at hl 2 rfl) ?_
  refine lv_iconst (v := 0) hx hb wd_K_run_1 (by decide) ?_
  refine lv_aload_n hx hb wd_K_run_2 rfl (lv_at hl 0 rfl) ?_
  refine lv_iload_n hx hb wd_K_run_3 rfl (lv_at hl 1 rfl) ?_
  obtain ⟨q, hq, hf⟩ := wc_cti_e hf
  refine wx_callix (wz_runV (As := [.int a1]) (rest := [.int 0, .ref (ad 88)]) ⟨hx, hb, hml, hown, hts⟩ (wm_W_run l D ad cI cZ cJ cG htr _ a1 σ _ hq) (wx_cwV 1 hts wt_451 wt_449 wt_450 wt_1 wt_448 wh_W_run rfl rfl ⟨Nat.le_of_ble_eq_true rfl, Nat.le_of_ble_eq_true rfl⟩) (wx_preV hK hP hD hS hA hC (by decide) rfl rfl) rfl rfl hl.1 rfl (lv_room (Nat.le_of_ble_eq_true rfl)) wd_K_run_4 ⟨Nat.le_of_ble_eq_true rfl, Nat.le_of_ble_eq_true rfl⟩) hD hS hA (fun E q9 ce k9 σ3 H locs e9 hE hP hD hS hc1 hc2 hc3 => ?_) (fun r2 σ1 H locs e9 hP hD hS => ?_)
  · subst e9
    have hf := wc_cti_l hf
    by_cases ck2 : k9 = 2
    · have hf := wc_t ck2 hf
      subst ck2
      rw [show E = "java/lang/IllegalArgumentException" from hE] at hc3
      refine wz_catch (own := "WidthCampaignsLaw") (E := "java/lang/IllegalArgumentException") [] ⟨0, 9, 12, 13⟩ [] hown hts hN (by rw [ht]; rfl) (fun _ h => absurd h List.not_mem_nil) (by decide) (by decide) wt_255 (List.mem_of_getElem? (i := 52) rfl) hc1 hc2 hc3 ?_
      refine W.widen (k := 1) (n := 6) (by decide) (by decide) ?_
      refine lv_astore_n (lv' := [(3, .ref q9), (0, .ref (ad 0)), (1, .int a1), (2, .ref (ad 88))]) hx hb wd_K_run_12 rfl hl (by decide) rfl (fun ls hl => ?_)
      refine lv_iconst (v := 1) hx hb wd_K_run_13 (by decide) ?_
      exact wx_iret hx hb hr hlocks hf hP hS wd_K_run_14
    · have hf := wc_f ck2 hf
      cases hf
  · subst e9
    have hf := wc_cti_r hf
    refine W.widen (k := 1) (n := 6) (by decide) (by decide) ?_
    refine lv_i2l hx hb wd_K_run_7 rfl ?_
    obtain ⟨h4, hf⟩ := wc_gd_e hf
    refine wx_last (x := r2) hx hb hK hP hD hS h4 rfl wd_K_run_8 (fun σ5 H locs eσ5 hP hD hS => ?_)
    have hf := wc_st_e eσ5 hf
    refine lv_goto (tgt := 15) hx hb wd_K_run_9 (by decide) ?_
    refine lv_iconst (v := 0) hx hb wd_K_run_15 (by decide) ?_
    exact wx_iret hx hb hr hlocks hf hP hS wd_K_run_16
set_option maxHeartbeats 4000000 in
set_option maxRecDepth 100000 in
theorem wm_K_proved (l : Launch) (D : va_G) (ad : Nat → Nat) (cI cZ cJ cG : ClassId) (htr : l.stackTraces = false) (sz : Nat) (σ : wc_S) (res : Int32 × wc_S) (hf : wf_K_proved  σ = some res) : Met l wy_K_proved (wx_ws_K_proved) ({ frames := 8, cells := 1, slots := 6, locals := 130 }) (va_Pc [.ref (ad 0), .ref (ad 88)] (wx_pre D ad cI cZ cJ cG σ sz)) (wx_Qi D ad cI cZ cJ cG res (va_A (wx_W ad cI cZ cJ cG σ) sz)) 1 6 (va_A (wx_W ad cI cZ cJ cG σ) sz) := by
  refine wx_ofH (cc := method_10_code) (maxL := 3) (ret := (some .int)) (Qc := fun A => wx_Qi D ad cI cZ cJ cG res A) [.ref (ad 0), .ref (ad 88)] (by decide) rfl (Nat.le_of_ble_eq_true rfl) ?_
  intro p e s m args below meth c A ls hin ht hl
  obtain ⟨hx, hb, hr, hts, hown, hlocks, hml, hA, hP, hK, hD, hC, hN, hS⟩ := hin
  have hl : lv_has ls 3 [(0, .ref (ad 0)), (1, .ref (ad 88))] := hl
  unfold wf_K_proved at hf
  refine lv_aload_n hx hb wd_K_proved_0 rfl (lv_at hl 1 rfl) ?_
  refine lv_iconst (v := 0) hx hb wd_K_proved_1 (by decide) ?_
  refine lv_aload_n hx hb wd_K_proved_2 rfl (lv_at hl 0 rfl) ?_
  obtain ⟨q, hq, hf⟩ := wc_cti_e hf
  refine wx_callix (wz_runV (As := []) (rest := [.int 0, .ref (ad 88)]) ⟨hx, hb, hml, hown, hts⟩ (wm_W_proved l D ad cI cZ cJ cG htr _ σ _ hq) (wx_cwV 0 hts wt_528 wt_526 wt_527 wt_1 wt_525 wh_W_proved rfl rfl ⟨Nat.le_of_ble_eq_true rfl, Nat.le_of_ble_eq_true rfl⟩) (wx_preV hK hP hD hS hA hC (by decide) rfl rfl) rfl rfl hl.1 rfl (lv_room (Nat.le_of_ble_eq_true rfl)) wd_K_proved_3 ⟨Nat.le_of_ble_eq_true rfl, Nat.le_of_ble_eq_true rfl⟩) hD hS hA (fun E q9 ce k9 σ3 H locs e9 hE hP hD hS hc1 hc2 hc3 => ?_) (fun r2 σ1 H locs e9 hP hD hS => ?_)
  · subst e9
    have hf := wc_cti_l hf
    by_cases ck1 : k9 = 1
    · have hf := wc_t ck1 hf
      subst ck1
      rw [show E = "java/lang/IllegalStateException" from hE] at hc3
      refine wz_catch (own := "WidthCampaignsLaw") (E := "java/lang/IllegalStateException") [] ⟨0, 15, 18, 45⟩ [] hown hts hN (by rw [ht]; rfl) (fun _ h => absurd h List.not_mem_nil) (by decide) (by decide) wt_524 (List.mem_of_getElem? (i := 55) rfl) hc1 hc2 hc3 ?_
      refine W.widen (k := 1) (n := 6) (by decide) (by decide) ?_
      refine lv_astore_n (lv' := [(2, .ref q9), (0, .ref (ad 0)), (1, .ref (ad 88))]) hx hb wd_K_proved_18 rfl hl (by decide) rfl (fun ls hl => ?_)
      refine lv_iconst (v := 1) hx hb wd_K_proved_19 (by decide) ?_
      exact wx_iret hx hb hr hlocks hf hP hS wd_K_proved_20
    · have hf := wc_f ck1 hf
      cases hf
  · subst e9
    have hf := wc_cti_r hf
    refine W.widen (k := 1) (n := 6) (by decide) (by decide) ?_
    refine lv_if_eq (tgt := 13) hx hb wd_K_proved_6 (by decide) (fun c4 => ?_) (fun c4 => ?_)
    · have hf := wc_t c4 hf
      refine lv_lconst (v := 0) hx hb wd_K_proved_13 (by decide) ?_
      obtain ⟨h5, hf⟩ := wc_gd_e hf
      refine wx_last (x := 0) hx hb hK hP hD hS h5 rfl wd_K_proved_14 (fun σ6 H locs eσ6 hP hD hS => ?_)
      have hf := wc_st_e eσ6 hf
      refine lv_goto (tgt := 21) hx hb wd_K_proved_15 (by decide) ?_
      refine lv_iconst (v := 0) hx hb wd_K_proved_21 (by decide) ?_
      exact wx_iret hx hb hr hlocks hf hP hS wd_K_proved_22
    · have hf := wc_f c4 hf
      refine lv_lconst (v := 1) hx hb wd_K_proved_9 (by decide) ?_
      refine lv_goto (tgt := 14) hx hb wd_K_proved_10 (by decide) ?_
      obtain ⟨h7, hf⟩ := wc_gd_e hf
      refine wx_last (x := 1) hx hb hK hP hD hS h7 rfl wd_K_proved_14 (fun σ8 H locs eσ8 hP hD hS => ?_)
      have hf := wc_st_e eσ8 hf
      refine lv_goto (tgt := 21) hx hb wd_K_proved_15 (by decide) ?_
      refine lv_iconst (v := 0) hx hb wd_K_proved_21 (by decide) ?_
      exact wx_iret hx hb hr hlocks hf hP hS wd_K_proved_22
set_option maxHeartbeats 4000000 in
set_option maxRecDepth 100000 in
theorem wm_K_order (l : Launch) (D : va_G) (ad : Nat → Nat) (cI cZ cJ cG : ClassId) (htr : l.stackTraces = false) (sz : Nat) (a1 : Int32) (σ : wc_S) (res : Int32 × wc_S) (hf : wf_K_order a1 σ = some res) : Met l wy_K_order (wx_ws_K_order) ({ frames := 9, cells := 2, slots := 12, locals := 152 }) (va_Pc [.ref (ad 0), .int a1, .ref (ad 88)] (wx_pre D ad cI cZ cJ cG σ sz)) (wx_Qi D ad cI cZ cJ cG res (va_A (wx_W ad cI cZ cJ cG σ) sz)) 2 12 (va_A (wx_W ad cI cZ cJ cG σ) sz) := by
  refine wx_ofH (cc := method_11_code) (maxL := 4) (ret := (some .int)) (Qc := fun A => wx_Qi D ad cI cZ cJ cG res A) [.ref (ad 0), .int a1, .ref (ad 88)] (by decide) rfl (Nat.le_of_ble_eq_true rfl) ?_
  intro p e s m args below meth c A ls hin ht hl
  obtain ⟨hx, hb, hr, hts, hown, hlocks, hml, hA, hP, hK, hD, hC, hN, hS⟩ := hin
  have hl : lv_has ls 4 [(0, .ref (ad 0)), (1, .int a1), (2, .ref (ad 88))] := hl
  unfold wf_K_order at hf
  refine lv_aload_n hx hb wd_K_order_0 rfl (lv_at hl 2 rfl) ?_
  refine lv_iconst (v := 0) hx hb wd_K_order_1 (by decide) ?_
  refine lv_aload_n hx hb wd_K_order_2 rfl (lv_at hl 0 rfl) ?_
  refine lv_iload_n hx hb wd_K_order_3 rfl (lv_at hl 1 rfl) ?_
  obtain ⟨q, hq, hf⟩ := wc_cti_e hf
  refine wx_callix (wz_runV (As := [.int a1]) (rest := [.int 0, .ref (ad 88)]) ⟨hx, hb, hml, hown, hts⟩ (wm_W_order l D ad cI cZ cJ cG htr _ a1 σ _ hq) (wx_cwV 1 hts wt_551 wt_549 wt_550 wt_1 wt_548 wh_W_order rfl rfl ⟨Nat.le_of_ble_eq_true rfl, Nat.le_of_ble_eq_true rfl⟩) (wx_preV hK hP hD hS hA hC (by decide) rfl rfl) rfl rfl hl.1 rfl (lv_room (Nat.le_of_ble_eq_true rfl)) wd_K_order_4 ⟨Nat.le_of_ble_eq_true rfl, Nat.le_of_ble_eq_true rfl⟩) hD hS hA (fun E q9 ce k9 σ3 H locs e9 hE hP hD hS hc1 hc2 hc3 => ?_) (fun r2 σ1 H locs e9 hP hD hS => ?_)
  · subst e9
    have hf := wc_cti_l hf
    by_cases ck0 : k9 = 0
    · have hf := wc_t ck0 hf
      subst ck0
      rw [show E = "java/lang/IndexOutOfBoundsException" from hE] at hc3
      refine wz_catch (own := "WidthCampaignsLaw") (E := "java/lang/IndexOutOfBoundsException") [] ⟨0, 9, 12, 20⟩ [⟨0, 9, 15, 45⟩] hown hts hN (by rw [ht]; rfl) (fun _ h => absurd h List.not_mem_nil) (by decide) (by decide) wt_375 (List.mem_of_getElem? (i := 54) rfl) hc1 hc2 hc3 ?_
      refine W.widen (k := 2) (n := 12) (by decide) (by decide) ?_
      refine lv_astore_n (lv' := [(3, .ref q9), (0, .ref (ad 0)), (1, .int a1), (2, .ref (ad 88))]) hx hb wd_K_order_12 rfl hl (by decide) rfl (fun ls hl => ?_)
      refine lv_iconst (v := 1) hx hb wd_K_order_13 (by decide) ?_
      exact wx_iret hx hb hr hlocks hf hP hS wd_K_order_14
    · have hf := wc_f ck0 hf
      by_cases ck1 : k9 = 1
      · have hf := wc_t ck1 hf
        subst ck1
        rw [show E = "java/lang/IllegalStateException" from hE] at hc3
        refine wz_catch (own := "WidthCampaignsLaw") (E := "java/lang/IllegalStateException") [⟨0, 9, 12, 20⟩] ⟨0, 9, 15, 45⟩ [] hown hts hN (by rw [ht]; rfl) (List.forall_mem_cons.mpr ⟨⟨by decide, "java/lang/IndexOutOfBoundsException", wt_375, List.mem_of_getElem? (i := 4) rfl⟩, (fun _ h => absurd h List.not_mem_nil)⟩) (by decide) (by decide) wt_524 (List.mem_of_getElem? (i := 55) rfl) hc1 hc2 hc3 ?_
        refine W.widen (k := 2) (n := 12) (by decide) (by decide) ?_
        refine lv_astore_n (lv' := [(3, .ref q9), (0, .ref (ad 0)), (1, .int a1), (2, .ref (ad 88))]) hx hb wd_K_order_15 rfl hl (by decide) rfl (fun ls hl => ?_)
        refine lv_iconst (v := 2) hx hb wd_K_order_16 (by decide) ?_
        exact wx_iret hx hb hr hlocks hf hP hS wd_K_order_17
      · have hf := wc_f ck1 hf
        cases hf
  · subst e9
    have hf := wc_cti_r hf
    refine W.widen (k := 2) (n := 12) (by decide) (by decide) ?_
    refine lv_i2l hx hb wd_K_order_7 rfl ?_
    obtain ⟨h4, hf⟩ := wc_gd_e hf
    refine wx_last (x := r2) hx hb hK hP hD hS h4 rfl wd_K_order_8 (fun σ5 H locs eσ5 hP hD hS => ?_)
    have hf := wc_st_e eσ5 hf
    refine lv_goto (tgt := 18) hx hb wd_K_order_9 (by decide) ?_
    refine lv_iconst (v := 0) hx hb wd_K_order_18 (by decide) ?_
    exact wx_iret hx hb hr hlocks hf hP hS wd_K_order_19
set_option maxHeartbeats 4000000 in
set_option maxRecDepth 100000 in
theorem wm_K_told (l : Launch) (D : va_G) (ad : Nat → Nat) (cI cZ cJ cG : ClassId) (htr : l.stackTraces = false) (sz : Nat) (a1 : Int32) (σ : wc_S) (res : Int32 × wc_S) (hf : wf_K_told a1 σ = some res) : Met l wy_K_told (wx_ws_K_told) ({ frames := 9, cells := 2, slots := 12, locals := 151 }) (va_Pc [.ref (ad 0), .int a1, .ref (ad 88)] (wx_pre D ad cI cZ cJ cG σ sz)) (wx_Qi D ad cI cZ cJ cG res (va_A (wx_W ad cI cZ cJ cG σ) sz)) 2 12 (va_A (wx_W ad cI cZ cJ cG σ) sz) := by
  refine wx_ofH (cc := method_12_code) (maxL := 4) (ret := (some .int)) (Qc := fun A => wx_Qi D ad cI cZ cJ cG res A) [.ref (ad 0), .int a1, .ref (ad 88)] (by decide) rfl (Nat.le_of_ble_eq_true rfl) ?_
  intro p e s m args below meth c A ls hin ht hl
  obtain ⟨hx, hb, hr, hts, hown, hlocks, hml, hA, hP, hK, hD, hC, hN, hS⟩ := hin
  have hl : lv_has ls 4 [(0, .ref (ad 0)), (1, .int a1), (2, .ref (ad 88))] := hl
  unfold wf_K_told at hf
  refine lv_aload_n hx hb wd_K_told_0 rfl (lv_at hl 2 rfl) ?_
  refine lv_iconst (v := 0) hx hb wd_K_told_1 (by decide) ?_
  refine lv_aload_n hx hb wd_K_told_2 rfl (lv_at hl 0 rfl) ?_
  refine lv_iload_n hx hb wd_K_told_3 rfl (lv_at hl 1 rfl) ?_
  obtain ⟨q, hq, hf⟩ := wc_cti_e hf
  refine wx_callix (wz_runV (As := [.int a1]) (rest := [.int 0, .ref (ad 88)]) ⟨hx, hb, hml, hown, hts⟩ (wm_W_told l D ad cI cZ cJ cG htr _ a1 σ _ hq) (wx_cwV 1 hts wt_568 wt_566 wt_567 wt_1 wt_565 wh_W_told rfl rfl ⟨Nat.le_of_ble_eq_true rfl, Nat.le_of_ble_eq_true rfl⟩) (wx_preV hK hP hD hS hA hC (by decide) rfl rfl) rfl rfl hl.1 rfl (lv_room (Nat.le_of_ble_eq_true rfl)) wd_K_told_4 ⟨Nat.le_of_ble_eq_true rfl, Nat.le_of_ble_eq_true rfl⟩) hD hS hA (fun E q9 ce k9 σ3 H locs e9 hE hP hD hS hc1 hc2 hc3 => ?_) (fun r2 σ1 H locs e9 hP hD hS => ?_)
  · subst e9
    have hf := wc_cti_l hf
    by_cases ck0 : k9 = 0
    · have hf := wc_t ck0 hf
      subst ck0
      rw [show E = "java/lang/IndexOutOfBoundsException" from hE] at hc3
      refine wz_catch (own := "WidthCampaignsLaw") (E := "java/lang/IndexOutOfBoundsException") [] ⟨0, 9, 12, 20⟩ [⟨0, 9, 15, 45⟩] hown hts hN (by rw [ht]; rfl) (fun _ h => absurd h List.not_mem_nil) (by decide) (by decide) wt_375 (List.mem_of_getElem? (i := 54) rfl) hc1 hc2 hc3 ?_
      refine W.widen (k := 2) (n := 12) (by decide) (by decide) ?_
      refine lv_astore_n (lv' := [(3, .ref q9), (0, .ref (ad 0)), (1, .int a1), (2, .ref (ad 88))]) hx hb wd_K_told_12 rfl hl (by decide) rfl (fun ls hl => ?_)
      refine lv_iconst (v := 1) hx hb wd_K_told_13 (by decide) ?_
      exact wx_iret hx hb hr hlocks hf hP hS wd_K_told_14
    · have hf := wc_f ck0 hf
      by_cases ck1 : k9 = 1
      · have hf := wc_t ck1 hf
        subst ck1
        rw [show E = "java/lang/IllegalStateException" from hE] at hc3
        refine wz_catch (own := "WidthCampaignsLaw") (E := "java/lang/IllegalStateException") [⟨0, 9, 12, 20⟩] ⟨0, 9, 15, 45⟩ [] hown hts hN (by rw [ht]; rfl) (List.forall_mem_cons.mpr ⟨⟨by decide, "java/lang/IndexOutOfBoundsException", wt_375, List.mem_of_getElem? (i := 4) rfl⟩, (fun _ h => absurd h List.not_mem_nil)⟩) (by decide) (by decide) wt_524 (List.mem_of_getElem? (i := 55) rfl) hc1 hc2 hc3 ?_
        refine W.widen (k := 2) (n := 12) (by decide) (by decide) ?_
        refine lv_astore_n (lv' := [(3, .ref q9), (0, .ref (ad 0)), (1, .int a1), (2, .ref (ad 88))]) hx hb wd_K_told_15 rfl hl (by decide) rfl (fun ls hl => ?_)
        refine lv_iconst (v := 2) hx hb wd_K_told_16 (by decide) ?_
        exact wx_iret hx hb hr hlocks hf hP hS wd_K_told_17
      · have hf := wc_f ck1 hf
        cases hf
  · subst e9
    have hf := wc_cti_r hf
    refine W.widen (k := 2) (n := 12) (by decide) (by decide) ?_
    refine lv_i2l hx hb wd_K_told_7 rfl ?_
    obtain ⟨h4, hf⟩ := wc_gd_e hf
    refine wx_last (x := r2) hx hb hK hP hD hS h4 rfl wd_K_told_8 (fun σ5 H locs eσ5 hP hD hS => ?_)
    have hf := wc_st_e eσ5 hf
    refine lv_goto (tgt := 18) hx hb wd_K_told_9 (by decide) ?_
    refine lv_iconst (v := 0) hx hb wd_K_told_18 (by decide) ?_
    exact wx_iret hx hb hr hlocks hf hP hS wd_K_told_19
set_option maxHeartbeats 4000000 in
set_option maxRecDepth 100000 in
theorem wm_K_change (l : Launch) (D : va_G) (ad : Nat → Nat) (cI cZ cJ cG : ClassId) (htr : l.stackTraces = false) (sz : Nat) (a1 : Int32) (σ : wc_S) (res : Int32 × wc_S) (hf : wf_K_change a1 σ = some res) : Met l wy_K_change (wx_ws_K_change) ({ frames := 9, cells := 2, slots := 12, locals := 152 }) (va_Pc [.ref (ad 0), .int a1, .ref (ad 88)] (wx_pre D ad cI cZ cJ cG σ sz)) (wx_Qi D ad cI cZ cJ cG res (va_A (wx_W ad cI cZ cJ cG σ) sz)) 2 12 (va_A (wx_W ad cI cZ cJ cG σ) sz) := by
  refine wx_ofH (cc := method_13_code) (maxL := 4) (ret := (some .int)) (Qc := fun A => wx_Qi D ad cI cZ cJ cG res A) [.ref (ad 0), .int a1, .ref (ad 88)] (by decide) rfl (Nat.le_of_ble_eq_true rfl) ?_
  intro p e s m args below meth c A ls hin ht hl
  obtain ⟨hx, hb, hr, hts, hown, hlocks, hml, hA, hP, hK, hD, hC, hN, hS⟩ := hin
  have hl : lv_has ls 4 [(0, .ref (ad 0)), (1, .int a1), (2, .ref (ad 88))] := hl
  unfold wf_K_change at hf
  refine lv_aload_n hx hb wd_K_change_0 rfl (lv_at hl 2 rfl) ?_
  refine lv_iconst (v := 0) hx hb wd_K_change_1 (by decide) ?_
  refine lv_aload_n hx hb wd_K_change_2 rfl (lv_at hl 0 rfl) ?_
  refine lv_iload_n hx hb wd_K_change_3 rfl (lv_at hl 1 rfl) ?_
  obtain ⟨q, hq, hf⟩ := wc_cti_e hf
  refine wx_callix (wz_runV (As := [.int a1]) (rest := [.int 0, .ref (ad 88)]) ⟨hx, hb, hml, hown, hts⟩ (wm_W_change l D ad cI cZ cJ cG htr _ a1 σ _ hq) (wx_cwV 1 hts wt_585 wt_583 wt_584 wt_1 wt_582 wh_W_change rfl rfl ⟨Nat.le_of_ble_eq_true rfl, Nat.le_of_ble_eq_true rfl⟩) (wx_preV hK hP hD hS hA hC (by decide) rfl rfl) rfl rfl hl.1 rfl (lv_room (Nat.le_of_ble_eq_true rfl)) wd_K_change_4 ⟨Nat.le_of_ble_eq_true rfl, Nat.le_of_ble_eq_true rfl⟩) hD hS hA (fun E q9 ce k9 σ3 H locs e9 hE hP hD hS hc1 hc2 hc3 => ?_) (fun r2 σ1 H locs e9 hP hD hS => ?_)
  · subst e9
    have hf := wc_cti_l hf
    by_cases ck0 : k9 = 0
    · have hf := wc_t ck0 hf
      subst ck0
      rw [show E = "java/lang/IndexOutOfBoundsException" from hE] at hc3
      refine wz_catch (own := "WidthCampaignsLaw") (E := "java/lang/IndexOutOfBoundsException") [] ⟨0, 16, 19, 20⟩ [⟨0, 16, 22, 45⟩] hown hts hN (by rw [ht]; rfl) (fun _ h => absurd h List.not_mem_nil) (by decide) (by decide) wt_375 (List.mem_of_getElem? (i := 54) rfl) hc1 hc2 hc3 ?_
      refine W.widen (k := 2) (n := 12) (by decide) (by decide) ?_
      refine lv_astore_n (lv' := [(3, .ref q9), (0, .ref (ad 0)), (1, .int a1), (2, .ref (ad 88))]) hx hb wd_K_change_19 rfl hl (by decide) rfl (fun ls hl => ?_)
      refine lv_iconst (v := 1) hx hb wd_K_change_20 (by decide) ?_
      exact wx_iret hx hb hr hlocks hf hP hS wd_K_change_21
    · have hf := wc_f ck0 hf
      by_cases ck1 : k9 = 1
      · have hf := wc_t ck1 hf
        subst ck1
        rw [show E = "java/lang/IllegalStateException" from hE] at hc3
        refine wz_catch (own := "WidthCampaignsLaw") (E := "java/lang/IllegalStateException") [⟨0, 16, 19, 20⟩] ⟨0, 16, 22, 45⟩ [] hown hts hN (by rw [ht]; rfl) (List.forall_mem_cons.mpr ⟨⟨by decide, "java/lang/IndexOutOfBoundsException", wt_375, List.mem_of_getElem? (i := 4) rfl⟩, (fun _ h => absurd h List.not_mem_nil)⟩) (by decide) (by decide) wt_524 (List.mem_of_getElem? (i := 55) rfl) hc1 hc2 hc3 ?_
        refine W.widen (k := 2) (n := 12) (by decide) (by decide) ?_
        refine lv_astore_n (lv' := [(3, .ref q9), (0, .ref (ad 0)), (1, .int a1), (2, .ref (ad 88))]) hx hb wd_K_change_22 rfl hl (by decide) rfl (fun ls hl => ?_)
        refine lv_iconst (v := 2) hx hb wd_K_change_23 (by decide) ?_
        exact wx_iret hx hb hr hlocks hf hP hS wd_K_change_24
      · have hf := wc_f ck1 hf
        cases hf
  · subst e9
    have hf := wc_cti_r hf
    refine W.widen (k := 2) (n := 12) (by decide) (by decide) ?_
    refine lv_if_eq (tgt := 14) hx hb wd_K_change_7 (by decide) (fun c4 => ?_) (fun c4 => ?_)
    · have hf := wc_t c4 hf
      refine lv_lconst (v := 0) hx hb wd_K_change_14 (by decide) ?_
      obtain ⟨h5, hf⟩ := wc_gd_e hf
      refine wx_last (x := 0) hx hb hK hP hD hS h5 rfl wd_K_change_15 (fun σ6 H locs eσ6 hP hD hS => ?_)
      have hf := wc_st_e eσ6 hf
      refine lv_goto (tgt := 25) hx hb wd_K_change_16 (by decide) ?_
      refine lv_iconst (v := 0) hx hb wd_K_change_25 (by decide) ?_
      exact wx_iret hx hb hr hlocks hf hP hS wd_K_change_26
    · have hf := wc_f c4 hf
      refine lv_lconst (v := 1) hx hb wd_K_change_10 (by decide) ?_
      refine lv_goto (tgt := 15) hx hb wd_K_change_11 (by decide) ?_
      obtain ⟨h7, hf⟩ := wc_gd_e hf
      refine wx_last (x := 1) hx hb hK hP hD hS h7 rfl wd_K_change_15 (fun σ8 H locs eσ8 hP hD hS => ?_)
      have hf := wc_st_e eσ8 hf
      refine lv_goto (tgt := 25) hx hb wd_K_change_16 (by decide) ?_
      refine lv_iconst (v := 0) hx hb wd_K_change_25 (by decide) ?_
      exact wx_iret hx hb hr hlocks hf hP hS wd_K_change_26
set_option maxHeartbeats 4000000 in
set_option maxRecDepth 100000 in
theorem wm_K_jump (l : Launch) (D : va_G) (ad : Nat → Nat) (cI cZ cJ cG : ClassId) (htr : l.stackTraces = false) (sz : Nat) (a1 : Int32) (a2 : Int32) (σ : wc_S) (res : Int32 × wc_S) (hf : wf_K_jump a1 a2 σ = some res) : Met l wy_K_jump (wx_ws_K_jump) ({ frames := 8, cells := 1, slots := 6, locals := 132 }) (va_Pc [.ref (ad 0), .int a1, .int a2, .ref (ad 88)] (wx_pre D ad cI cZ cJ cG σ sz)) (wx_Qi D ad cI cZ cJ cG res (va_A (wx_W ad cI cZ cJ cG σ) sz)) 1 6 (va_A (wx_W ad cI cZ cJ cG σ) sz) := by
  refine wx_ofH (cc := method_14_code) (maxL := 5) (ret := (some .int)) (Qc := fun A => wx_Qi D ad cI cZ cJ cG res A) [.ref (ad 0), .int a1, .int a2, .ref (ad 88)] (by decide) rfl (Nat.le_of_ble_eq_true rfl) ?_
  intro p e s m args below meth c A ls hin ht hl
  obtain ⟨hx, hb, hr, hts, hown, hlocks, hml, hA, hP, hK, hD, hC, hN, hS⟩ := hin
  have hl : lv_has ls 5 [(0, .ref (ad 0)), (1, .int a1), (2, .int a2), (3, .ref (ad 88))] := hl
  unfold wf_K_jump at hf
  refine lv_aload_n hx hb wd_K_jump_0 rfl (lv_at hl 3 rfl) ?_
  refine lv_iconst (v := 0) hx hb wd_K_jump_1 (by decide) ?_
  refine lv_aload_n hx hb wd_K_jump_2 rfl (lv_at hl 0 rfl) ?_
  refine lv_iload_n hx hb wd_K_jump_3 rfl (lv_at hl 1 rfl) ?_
  refine lv_iload_n hx hb wd_K_jump_4 rfl (lv_at hl 2 rfl) ?_
  obtain ⟨q, hq, hf⟩ := wc_cti_e hf
  refine wx_callix (wz_runV (As := [.int a1, .int a2]) (rest := [.int 0, .ref (ad 88)]) ⟨hx, hb, hml, hown, hts⟩ (wm_W_jump l D ad cI cZ cJ cG htr _ a1 a2 σ _ hq) (wx_cwV 2 hts wt_592 wt_590 wt_591 wt_1 wt_589 wh_W_jump rfl rfl ⟨Nat.le_of_ble_eq_true rfl, Nat.le_of_ble_eq_true rfl⟩) (wx_preV hK hP hD hS hA hC (by decide) rfl rfl) rfl rfl hl.1 rfl (lv_room (Nat.le_of_ble_eq_true rfl)) wd_K_jump_5 ⟨Nat.le_of_ble_eq_true rfl, Nat.le_of_ble_eq_true rfl⟩) hD hS hA (fun E q9 ce k9 σ3 H locs e9 hE hP hD hS hc1 hc2 hc3 => ?_) (fun r2 σ1 H locs e9 hP hD hS => ?_)
  · subst e9
    have hf := wc_cti_l hf
    by_cases ck0 : k9 = 0
    · have hf := wc_t ck0 hf
      subst ck0
      rw [show E = "java/lang/IndexOutOfBoundsException" from hE] at hc3
      refine wz_catch (own := "WidthCampaignsLaw") (E := "java/lang/IndexOutOfBoundsException") [] ⟨0, 10, 13, 20⟩ [] hown hts hN (by rw [ht]; rfl) (fun _ h => absurd h List.not_mem_nil) (by decide) (by decide) wt_375 (List.mem_of_getElem? (i := 54) rfl) hc1 hc2 hc3 ?_
      refine W.widen (k := 1) (n := 6) (by decide) (by decide) ?_
      refine lv_astore (lv' := [(4, .ref q9), (0, .ref (ad 0)), (1, .int a1), (2, .int a2), (3, .ref (ad 88))]) hx hb wd_K_jump_13 hl (by decide) rfl (fun ls hl => ?_)
      refine lv_iconst (v := 1) hx hb wd_K_jump_15 (by decide) ?_
      exact wx_iret hx hb hr hlocks hf hP hS wd_K_jump_16
    · have hf := wc_f ck0 hf
      cases hf
  · subst e9
    have hf := wc_cti_r hf
    refine W.widen (k := 1) (n := 6) (by decide) (by decide) ?_
    refine lv_i2l hx hb wd_K_jump_8 rfl ?_
    obtain ⟨h4, hf⟩ := wc_gd_e hf
    refine wx_last (x := r2) hx hb hK hP hD hS h4 rfl wd_K_jump_9 (fun σ5 H locs eσ5 hP hD hS => ?_)
    have hf := wc_st_e eσ5 hf
    refine lv_goto (tgt := 17) hx hb wd_K_jump_10 (by decide) ?_
    refine lv_iconst (v := 0) hx hb wd_K_jump_17 (by decide) ?_
    exact wx_iret hx hb hr hlocks hf hP hS wd_K_jump_18
set_option maxHeartbeats 4000000 in
set_option maxRecDepth 100000 in
theorem wm_K_tell (l : Launch) (D : va_G) (ad : Nat → Nat) (cI cZ cJ cG : ClassId) (htr : l.stackTraces = false) (sz : Nat) (a1 : Int64) (σ : wc_S) (res : Int32 × wc_S) (hf : wf_K_tell a1 σ = some res) : Met l wy_K_tell (wx_ws_K_tell) ({ frames := 8, cells := 1, slots := 6, locals := 132 }) (va_Pc [.ref (ad 0), .long a1] (wx_pre D ad cI cZ cJ cG σ sz)) (wx_Qi D ad cI cZ cJ cG res (va_A (wx_W ad cI cZ cJ cG σ) sz)) 1 6 (va_A (wx_W ad cI cZ cJ cG σ) sz) := by
  refine wx_ofH (cc := method_15_code) (maxL := 4) (ret := (some .int)) (Qc := fun A => wx_Qi D ad cI cZ cJ cG res A) [.ref (ad 0), .long a1] (by decide) rfl (Nat.le_of_ble_eq_true rfl) ?_
  intro p e s m args below meth c A ls hin ht hl
  obtain ⟨hx, hb, hr, hts, hown, hlocks, hml, hA, hP, hK, hD, hC, hN, hS⟩ := hin
  have hl : lv_has ls 4 [(0, .ref (ad 0)), (1, .long a1)] := hl
  unfold wf_K_tell at hf
  refine lv_aload_n hx hb wd_K_tell_0 rfl (lv_at hl 0 rfl) ?_
  refine lv_lload_n hx hb wd_K_tell_1 rfl (lv_at hl 1 rfl) ?_
  obtain ⟨q, hq, hf⟩ := wc_ctv_e hf
  refine wx_callvx (wz_runV (As := [.long a1]) (rest := []) ⟨hx, hb, hml, hown, hts⟩ (wm_W_tell l D ad cI cZ cJ cG htr _ a1 σ _ hq) (wx_cwV 1 hts wt_600 wt_598 wt_599 wt_1 wt_597 wh_W_tell rfl rfl ⟨Nat.le_of_ble_eq_true rfl, Nat.le_of_ble_eq_true rfl⟩) (wx_preV hK hP hD hS hA hC (by decide) rfl rfl) rfl rfl hl.1 rfl (lv_room (Nat.le_of_ble_eq_true rfl)) wd_K_tell_2 ⟨Nat.le_of_ble_eq_true rfl, Nat.le_of_ble_eq_true rfl⟩) hD hS hA (fun E q9 ce k9 σ2 H locs e9 hE hP hD hS hc1 hc2 hc3 => ?_) (fun σ1 H locs e9 hP hD hS => ?_)
  · subst e9
    have hf := wc_ctv_l hf
    by_cases ck0 : k9 = 0
    · have hf := wc_t ck0 hf
      subst ck0
      rw [show E = "java/lang/IndexOutOfBoundsException" from hE] at hc3
      refine wz_catch (own := "WidthCampaignsLaw") (E := "java/lang/IndexOutOfBoundsException") [] ⟨0, 5, 8, 20⟩ [⟨0, 5, 11, 15⟩] hown hts hN (by rw [ht]; rfl) (fun _ h => absurd h List.not_mem_nil) (by decide) (by decide) wt_375 (List.mem_of_getElem? (i := 54) rfl) hc1 hc2 hc3 ?_
      refine W.widen (k := 1) (n := 6) (by decide) (by decide) ?_
      refine lv_astore_n (lv' := [(3, .ref q9), (0, .ref (ad 0)), (1, .long a1)]) hx hb wd_K_tell_8 rfl hl (by decide) rfl (fun ls hl => ?_)
      refine lv_iconst (v := 1) hx hb wd_K_tell_9 (by decide) ?_
      exact wx_iret hx hb hr hlocks hf hP hS wd_K_tell_10
    · have hf := wc_f ck0 hf
      by_cases ck3 : k9 = 3
      · have hf := wc_t ck3 hf
        subst ck3
        rw [show E = "java/lang/UnsupportedOperationException" from hE] at hc3
        refine wz_catch (own := "WidthCampaignsLaw") (E := "java/lang/UnsupportedOperationException") [⟨0, 5, 8, 20⟩] ⟨0, 5, 11, 15⟩ [] hown hts hN (by rw [ht]; rfl) (List.forall_mem_cons.mpr ⟨⟨by decide, "java/lang/IndexOutOfBoundsException", wt_375, List.mem_of_getElem? (i := 11) rfl⟩, (fun _ h => absurd h List.not_mem_nil)⟩) (by decide) (by decide) wt_256 (List.mem_of_getElem? (i := 53) rfl) hc1 hc2 hc3 ?_
        refine W.widen (k := 1) (n := 6) (by decide) (by decide) ?_
        refine lv_astore_n (lv' := [(3, .ref q9), (0, .ref (ad 0)), (1, .long a1)]) hx hb wd_K_tell_11 rfl hl (by decide) rfl (fun ls hl => ?_)
        refine lv_iconst (v := 2) hx hb wd_K_tell_12 (by decide) ?_
        exact wx_iret hx hb hr hlocks hf hP hS wd_K_tell_13
      · have hf := wc_f ck3 hf
        cases hf
  · subst e9
    have hf := wc_ctv_r hf
    refine W.widen (k := 1) (n := 6) (by decide) (by decide) ?_
    refine lv_goto (tgt := 14) hx hb wd_K_tell_5 (by decide) ?_
    refine lv_iconst (v := 0) hx hb wd_K_tell_14 (by decide) ?_
    exact wx_iret hx hb hr hlocks hf hP hS wd_K_tell_15
set_option maxHeartbeats 4000000 in
set_option maxRecDepth 100000 in
theorem wm_K_improve (l : Launch) (D : va_G) (ad : Nat → Nat) (cI cZ cJ cG : ClassId) (htr : l.stackTraces = false) (sz : Nat) (a1 : Int32) (σ : wc_S) (res : Int32 × wc_S) (hf : wf_K_improve a1 σ = some res) : Met l wy_K_improve (wx_ws_K_improve) ({ frames := 9, cells := 2, slots := 12, locals := 158 }) (va_Pc [.ref (ad 0), .int a1, .ref (ad 88)] (wx_pre D ad cI cZ cJ cG σ sz)) (wx_Qi D ad cI cZ cJ cG res (va_A (wx_W ad cI cZ cJ cG σ) sz)) 2 12 (va_A (wx_W ad cI cZ cJ cG σ) sz) := by
  refine wx_ofH (cc := method_16_code) (maxL := 4) (ret := (some .int)) (Qc := fun A => wx_Qi D ad cI cZ cJ cG res A) [.ref (ad 0), .int a1, .ref (ad 88)] (by decide) rfl (Nat.le_of_ble_eq_true rfl) ?_
  intro p e s m args below meth c A ls hin ht hl
  obtain ⟨hx, hb, hr, hts, hown, hlocks, hml, hA, hP, hK, hD, hC, hN, hS⟩ := hin
  have hl : lv_has ls 4 [(0, .ref (ad 0)), (1, .int a1), (2, .ref (ad 88))] := hl
  unfold wf_K_improve at hf
  refine lv_aload_n hx hb wd_K_improve_0 rfl (lv_at hl 2 rfl) ?_
  refine lv_iconst (v := 0) hx hb wd_K_improve_1 (by decide) ?_
  refine lv_aload_n hx hb wd_K_improve_2 rfl (lv_at hl 0 rfl) ?_
  refine lv_iload_n hx hb wd_K_improve_3 rfl (lv_at hl 1 rfl) ?_
  obtain ⟨q, hq, hf⟩ := wc_cti_e hf
  refine wx_callix (wz_runV (As := [.int a1]) (rest := [.int 0, .ref (ad 88)]) ⟨hx, hb, hml, hown, hts⟩ (wm_W_improve l D ad cI cZ cJ cG htr _ a1 σ _ hq) (wx_cwV 1 hts wt_613 wt_611 wt_612 wt_1 wt_610 wh_W_improve rfl rfl ⟨Nat.le_of_ble_eq_true rfl, Nat.le_of_ble_eq_true rfl⟩) (wx_preV hK hP hD hS hA hC (by decide) rfl rfl) rfl rfl hl.1 rfl (lv_room (Nat.le_of_ble_eq_true rfl)) wd_K_improve_4 ⟨Nat.le_of_ble_eq_true rfl, Nat.le_of_ble_eq_true rfl⟩) hD hS hA (fun E q9 ce k9 σ3 H locs e9 hE hP hD hS hc1 hc2 hc3 => ?_) (fun r2 σ1 H locs e9 hP hD hS => ?_)
  · subst e9
    have hf := wc_cti_l hf
    by_cases ck1 : k9 = 1
    · have hf := wc_t ck1 hf
      subst ck1
      rw [show E = "java/lang/IllegalStateException" from hE] at hc3
      refine wz_catch (own := "WidthCampaignsLaw") (E := "java/lang/IllegalStateException") [] ⟨0, 9, 12, 45⟩ [⟨0, 9, 15, 13⟩] hown hts hN (by rw [ht]; rfl) (fun _ h => absurd h List.not_mem_nil) (by decide) (by decide) wt_524 (List.mem_of_getElem? (i := 55) rfl) hc1 hc2 hc3 ?_
      refine W.widen (k := 2) (n := 12) (by decide) (by decide) ?_
      refine lv_astore_n (lv' := [(3, .ref q9), (0, .ref (ad 0)), (1, .int a1), (2, .ref (ad 88))]) hx hb wd_K_improve_12 rfl hl (by decide) rfl (fun ls hl => ?_)
      refine lv_iconst (v := 1) hx hb wd_K_improve_13 (by decide) ?_
      exact wx_iret hx hb hr hlocks hf hP hS wd_K_improve_14
    · have hf := wc_f ck1 hf
      by_cases ck2 : k9 = 2
      · have hf := wc_t ck2 hf
        subst ck2
        rw [show E = "java/lang/IllegalArgumentException" from hE] at hc3
        refine wz_catch (own := "WidthCampaignsLaw") (E := "java/lang/IllegalArgumentException") [⟨0, 9, 12, 45⟩] ⟨0, 9, 15, 13⟩ [] hown hts hN (by rw [ht]; rfl) (List.forall_mem_cons.mpr ⟨⟨by decide, "java/lang/IllegalStateException", wt_524, List.mem_of_getElem? (i := 0) rfl⟩, (fun _ h => absurd h List.not_mem_nil)⟩) (by decide) (by decide) wt_255 (List.mem_of_getElem? (i := 52) rfl) hc1 hc2 hc3 ?_
        refine W.widen (k := 2) (n := 12) (by decide) (by decide) ?_
        refine lv_astore_n (lv' := [(3, .ref q9), (0, .ref (ad 0)), (1, .int a1), (2, .ref (ad 88))]) hx hb wd_K_improve_15 rfl hl (by decide) rfl (fun ls hl => ?_)
        refine lv_iconst (v := 2) hx hb wd_K_improve_16 (by decide) ?_
        exact wx_iret hx hb hr hlocks hf hP hS wd_K_improve_17
      · have hf := wc_f ck2 hf
        cases hf
  · subst e9
    have hf := wc_cti_r hf
    refine W.widen (k := 2) (n := 12) (by decide) (by decide) ?_
    refine lv_i2l hx hb wd_K_improve_7 rfl ?_
    obtain ⟨h4, hf⟩ := wc_gd_e hf
    refine wx_last (x := r2) hx hb hK hP hD hS h4 rfl wd_K_improve_8 (fun σ5 H locs eσ5 hP hD hS => ?_)
    have hf := wc_st_e eσ5 hf
    refine lv_goto (tgt := 18) hx hb wd_K_improve_9 (by decide) ?_
    refine lv_iconst (v := 0) hx hb wd_K_improve_18 (by decide) ?_
    exact wx_iret hx hb hr hlocks hf hP hS wd_K_improve_19
/-! words that rows use -/
theorem wt_22 : (.methodLink "WidthCampaigns" 1 ⟨"java/lang/Object", "<init>", "()V"⟩ : Cond) ∈ wx_all := wx_mem 66 (by decide +kernel) (by decide +kernel)
theorem wt_23 : (.instanceMethod ⟨"java/lang/Object", "<init>", "()V"⟩ : Cond) ∈ wx_all := wx_mem 67 (by decide +kernel) (by decide +kernel)
theorem wt_24 : (.code ⟨"java/lang/Object", "<init>", "()V"⟩ object_method_1_code 1 (Option.none : Option Jvm.ClassFile.FieldType) : Cond) ∈ wx_all := wx_mem 68 (by decide +kernel) (by decide +kernel)
theorem wt_25 : (.classLink "WidthCampaigns" 7 "WidthCampaigns$Plant" : Cond) ∈ wx_all := wx_mem 69 (by decide +kernel) (by decide +kernel)
theorem wt_26 : (.instantiable "WidthCampaigns$Plant" 15 : Cond) ∈ wx_all := wx_mem 70 (by decide +kernel) (by decide +kernel)
theorem wt_28 : (.instanceMethod ⟨"WidthCampaigns$Plant", "<init>", "()V"⟩ : Cond) ∈ wx_all := wx_mem 72 (by decide +kernel) (by decide +kernel)
theorem wt_29 : (.code ⟨"WidthCampaigns$Plant", "<init>", "()V"⟩ prog_4_method_1_code 1 (Option.none : Option Jvm.ClassFile.FieldType) : Cond) ∈ wx_all := wx_mem 73 (by decide +kernel) (by decide +kernel)
theorem wt_30 : (.methodLink "WidthCampaigns$Plant" 3 ⟨"java/lang/Object", "<init>", "()V"⟩ : Cond) ∈ wx_all := wx_mem 74 (by decide +kernel) (by decide +kernel)
theorem wt_31 : (.classLink "WidthCampaigns$Plant" 30 "[[I" : Cond) ∈ wx_all := wx_mem 75 (by decide +kernel) (by decide +kernel)
theorem wt_33 : (.classLink "WidthCampaigns$Plant" 35 "WidthCampaigns$JumpTable" : Cond) ∈ wx_all := wx_mem 77 (by decide +kernel) (by decide +kernel)
theorem wt_34 : (.instantiable "WidthCampaigns$JumpTable" 4 : Cond) ∈ wx_all := wx_mem 78 (by decide +kernel) (by decide +kernel)
theorem wt_36 : (.instanceMethod ⟨"WidthCampaigns$JumpTable", "<init>", "()V"⟩ : Cond) ∈ wx_all := wx_mem 80 (by decide +kernel) (by decide +kernel)
theorem wt_37 : (.code ⟨"WidthCampaigns$JumpTable", "<init>", "()V"⟩ prog_2_method_1_code 1 (Option.none : Option Jvm.ClassFile.FieldType) : Cond) ∈ wx_all := wx_mem 81 (by decide +kernel) (by decide +kernel)
theorem wt_38 : (.methodLink "WidthCampaigns$JumpTable" 3 ⟨"java/lang/Object", "<init>", "()V"⟩ : Cond) ∈ wx_all := wx_mem 82 (by decide +kernel) (by decide +kernel)
theorem wt_53 : (.arrayClass Jvm.ClassFile.FieldType.int : Cond) ∈ wx_all := wx_mem 97 (by decide +kernel) (by decide +kernel)
theorem wt_54 : (.classLink "WidthCampaigns$Plant" 45 "WidthCampaigns$WidthGroups" : Cond) ∈ wx_all := wx_mem 98 (by decide +kernel) (by decide +kernel)
theorem wt_55 : (.instantiable "WidthCampaigns$WidthGroups" 4 : Cond) ∈ wx_all := wx_mem 99 (by decide +kernel) (by decide +kernel)
theorem wt_57 : (.instanceMethod ⟨"WidthCampaigns$WidthGroups", "<init>", "()V"⟩ : Cond) ∈ wx_all := wx_mem 101 (by decide +kernel) (by decide +kernel)
theorem wt_58 : (.code ⟨"WidthCampaigns$WidthGroups", "<init>", "()V"⟩ prog_6_method_1_code 1 (Option.none : Option Jvm.ClassFile.FieldType) : Cond) ∈ wx_all := wx_mem 102 (by decide +kernel) (by decide +kernel)
theorem wt_59 : (.methodLink "WidthCampaigns$WidthGroups" 3 ⟨"java/lang/Object", "<init>", "()V"⟩ : Cond) ∈ wx_all := wx_mem 103 (by decide +kernel) (by decide +kernel)
theorem wt_104 : (.fieldLink "WidthCampaigns$Plant" 52 "WidthCampaigns$Plant" "rise" "I" : Cond) ∈ wx_all := wx_mem 148 (by decide +kernel) (by decide +kernel)
theorem wt_107 : (.fieldLink "WidthCampaigns$Plant" 56 "WidthCampaigns$Plant" "wear" "I" : Cond) ∈ wx_all := wx_mem 151 (by decide +kernel) (by decide +kernel)
theorem wt_110 : (.fieldLink "WidthCampaigns$Plant" 59 "WidthCampaigns$Plant" "changeCents" "I" : Cond) ∈ wx_all := wx_mem 154 (by decide +kernel) (by decide +kernel)
theorem wt_146 : (.classLink "WidthCampaigns" 16 "WidthCampaigns$Line" : Cond) ∈ wx_all := wx_mem 190 (by decide +kernel) (by decide +kernel)
theorem wt_147 : (.instantiable "WidthCampaigns$Line" 10 : Cond) ∈ wx_all := wx_mem 191 (by decide +kernel) (by decide +kernel)
theorem wt_149 : (.instanceMethod ⟨"WidthCampaigns$Line", "<init>", "(LWidthCampaigns$Plant;)V"⟩ : Cond) ∈ wx_all := wx_mem 193 (by decide +kernel) (by decide +kernel)
theorem wt_150 : (.code ⟨"WidthCampaigns$Line", "<init>", "(LWidthCampaigns$Plant;)V"⟩ prog_3_method_1_code 2 (Option.none : Option Jvm.ClassFile.FieldType) : Cond) ∈ wx_all := wx_mem 194 (by decide +kernel) (by decide +kernel)
theorem wt_151 : (.methodLink "WidthCampaigns$Line" 3 ⟨"java/lang/Object", "<init>", "()V"⟩ : Cond) ∈ wx_all := wx_mem 195 (by decide +kernel) (by decide +kernel)
theorem wt_152 : (.classLink "WidthCampaigns$Line" 34 "[[I" : Cond) ∈ wx_all := wx_mem 196 (by decide +kernel) (by decide +kernel)
theorem wt_187 : (.arrayClass Jvm.ClassFile.FieldType.boolean : Cond) ∈ wx_all := wx_mem 231 (by decide +kernel) (by decide +kernel)
theorem wt_188 : (.classLink "WidthCampaigns" 28 "WidthCampaigns$Search" : Cond) ∈ wx_all := wx_mem 232 (by decide +kernel) (by decide +kernel)
theorem wt_189 : (.instantiable "WidthCampaigns$Search" 7 : Cond) ∈ wx_all := wx_mem 233 (by decide +kernel) (by decide +kernel)
theorem wt_191 : (.instanceMethod ⟨"WidthCampaigns$Search", "<init>", "(LWidthCampaigns$Plant;LWidthCampaigns$Line;)V"⟩ : Cond) ∈ wx_all := wx_mem 235 (by decide +kernel) (by decide +kernel)
theorem wt_192 : (.code ⟨"WidthCampaigns$Search", "<init>", "(LWidthCampaigns$Plant;LWidthCampaigns$Line;)V"⟩ prog_5_method_1_code 3 (Option.none : Option Jvm.ClassFile.FieldType) : Cond) ∈ wx_all := wx_mem 236 (by decide +kernel) (by decide +kernel)
theorem wt_193 : (.methodLink "WidthCampaigns$Search" 3 ⟨"java/lang/Object", "<init>", "()V"⟩ : Cond) ∈ wx_all := wx_mem 237 (by decide +kernel) (by decide +kernel)
theorem wt_629 : (.methodLink "WidthCampaignsModel" 1 ⟨"java/lang/Object", "<init>", "()V"⟩ : Cond) ∈ wx_all := wx_mem 673 (by decide +kernel) (by decide +kernel)
abbrev wy_G_init : MethodName := ⟨"WidthCampaigns$WidthGroups", "<init>", "()V"⟩
abbrev wx_ws_G_init : List Cond := (.code ⟨"WidthCampaigns$WidthGroups", "<init>", "()V"⟩ prog_6_method_1_code 1 (Option.none : Option Jvm.ClassFile.FieldType) : Cond) :: wx_all
theorem wh_G_init : (wy_G_init).cls ≠ "java/lang/invoke/MethodHandle" ∧ (wy_G_init).cls ≠ "java/lang/invoke/VarHandle" ∧ (parseMethodDescriptor (wy_G_init).desc).map (fun d => d.parameters.length) = some 0 := by decide +kernel
abbrev wy_J_init : MethodName := ⟨"WidthCampaigns$JumpTable", "<init>", "()V"⟩
abbrev wx_ws_J_init : List Cond := (.code ⟨"WidthCampaigns$JumpTable", "<init>", "()V"⟩ prog_2_method_1_code 1 (Option.none : Option Jvm.ClassFile.FieldType) : Cond) :: wx_all
theorem wh_J_init : (wy_J_init).cls ≠ "java/lang/invoke/MethodHandle" ∧ (wy_J_init).cls ≠ "java/lang/invoke/VarHandle" ∧ (parseMethodDescriptor (wy_J_init).desc).map (fun d => d.parameters.length) = some 0 := by decide +kernel
abbrev wy_L_init : MethodName := ⟨"WidthCampaigns$Line", "<init>", "(LWidthCampaigns$Plant;)V"⟩
abbrev wx_ws_L_init : List Cond := (.code ⟨"WidthCampaigns$Line", "<init>", "(LWidthCampaigns$Plant;)V"⟩ prog_3_method_1_code 2 (Option.none : Option Jvm.ClassFile.FieldType) : Cond) :: wx_all
theorem wh_L_init : (wy_L_init).cls ≠ "java/lang/invoke/MethodHandle" ∧ (wy_L_init).cls ≠ "java/lang/invoke/VarHandle" ∧ (parseMethodDescriptor (wy_L_init).desc).map (fun d => d.parameters.length) = some 1 := by decide +kernel
abbrev wy_M_init : MethodName := ⟨"WidthCampaignsModel", "<init>", "()V"⟩
abbrev wx_ws_M_init : List Cond := (.code ⟨"WidthCampaignsModel", "<init>", "()V"⟩ prog_8_method_1_code 1 (Option.none : Option Jvm.ClassFile.FieldType) : Cond) :: wx_all
theorem wh_M_init : (wy_M_init).cls ≠ "java/lang/invoke/MethodHandle" ∧ (wy_M_init).cls ≠ "java/lang/invoke/VarHandle" ∧ (parseMethodDescriptor (wy_M_init).desc).map (fun d => d.parameters.length) = some 0 := by decide +kernel
abbrev wy_P_init : MethodName := ⟨"WidthCampaigns$Plant", "<init>", "()V"⟩
abbrev wx_ws_P_init : List Cond := (.code ⟨"WidthCampaigns$Plant", "<init>", "()V"⟩ prog_4_method_1_code 1 (Option.none : Option Jvm.ClassFile.FieldType) : Cond) :: wx_all
theorem wh_P_init : (wy_P_init).cls ≠ "java/lang/invoke/MethodHandle" ∧ (wy_P_init).cls ≠ "java/lang/invoke/VarHandle" ∧ (parseMethodDescriptor (wy_P_init).desc).map (fun d => d.parameters.length) = some 0 := by decide +kernel
abbrev wy_S_init : MethodName := ⟨"WidthCampaigns$Search", "<init>", "(LWidthCampaigns$Plant;LWidthCampaigns$Line;)V"⟩
abbrev wx_ws_S_init : List Cond := (.code ⟨"WidthCampaigns$Search", "<init>", "(LWidthCampaigns$Plant;LWidthCampaigns$Line;)V"⟩ prog_5_method_1_code 3 (Option.none : Option Jvm.ClassFile.FieldType) : Cond) :: wx_all
theorem wh_S_init : (wy_S_init).cls ≠ "java/lang/invoke/MethodHandle" ∧ (wy_S_init).cls ≠ "java/lang/invoke/VarHandle" ∧ (parseMethodDescriptor (wy_S_init).desc).map (fun d => d.parameters.length) = some 2 := by decide +kernel
abbrev wy_W_init : MethodName := ⟨"WidthCampaigns", "<init>", "()V"⟩
abbrev wx_ws_W_init : List Cond := (.code ⟨"WidthCampaigns", "<init>", "()V"⟩ prog_1_method_1_code 1 (Option.none : Option Jvm.ClassFile.FieldType) : Cond) :: wx_all
theorem wh_W_init : (wy_W_init).cls ≠ "java/lang/invoke/MethodHandle" ∧ (wy_W_init).cls ≠ "java/lang/invoke/VarHandle" ∧ (parseMethodDescriptor (wy_W_init).desc).map (fun d => d.parameters.length) = some 0 := by decide +kernel
section

theorem wd_J_init_0 : decode prog_2_method_1_code 0 = .ok (.aload_n 0, 1) := by decide +kernel
theorem wd_J_init_1 : decode prog_2_method_1_code 1 = .ok (.invokespecial 3, 3) := by decide +kernel
theorem wd_J_init_4 : decode prog_2_method_1_code 4 = .ok (.aload_n 0, 1) := by decide +kernel
theorem wd_J_init_5 : decode prog_2_method_1_code 5 = .ok (.bipush 8, 2) := by decide +kernel
theorem wd_J_init_7 : decode prog_2_method_1_code 7 = .ok (.newarray .int, 2) := by decide +kernel
theorem wd_J_init_9 : decode prog_2_method_1_code 9 = .ok (.putfield 9, 3) := by decide +kernel
theorem wd_J_init_12 : decode prog_2_method_1_code 12 = .ok (.aload_n 0, 1) := by decide +kernel
theorem wd_J_init_13 : decode prog_2_method_1_code 13 = .ok (.bipush 8, 2) := by decide +kernel
theorem wd_J_init_15 : decode prog_2_method_1_code 15 = .ok (.newarray .int, 2) := by decide +kernel
theorem wd_J_init_17 : decode prog_2_method_1_code 17 = .ok (.putfield 15, 3) := by decide +kernel
theorem wd_J_init_20 : decode prog_2_method_1_code 20 = .ok (.aload_n 0, 1) := by decide +kernel
theorem wd_J_init_21 : decode prog_2_method_1_code 21 = .ok (.bipush 8, 2) := by decide +kernel
theorem wd_J_init_23 : decode prog_2_method_1_code 23 = .ok (.newarray .int, 2) := by decide +kernel
theorem wd_J_init_25 : decode prog_2_method_1_code 25 = .ok (.putfield 18, 3) := by decide +kernel
theorem wd_J_init_28 : decode prog_2_method_1_code 28 = .ok (.return_, 1) := by decide +kernel
end
section

theorem wd_G_init_0 : decode prog_6_method_1_code 0 = .ok (.aload_n 0, 1) := by decide +kernel
theorem wd_G_init_1 : decode prog_6_method_1_code 1 = .ok (.invokespecial 3, 3) := by decide +kernel
theorem wd_G_init_4 : decode prog_6_method_1_code 4 = .ok (.aload_n 0, 1) := by decide +kernel
theorem wd_G_init_5 : decode prog_6_method_1_code 5 = .ok (.iconst 4, 1) := by decide +kernel
theorem wd_G_init_6 : decode prog_6_method_1_code 6 = .ok (.newarray .int, 2) := by decide +kernel
theorem wd_G_init_8 : decode prog_6_method_1_code 8 = .ok (.putfield 9, 3) := by decide +kernel
theorem wd_G_init_11 : decode prog_6_method_1_code 11 = .ok (.aload_n 0, 1) := by decide +kernel
theorem wd_G_init_12 : decode prog_6_method_1_code 12 = .ok (.iconst 4, 1) := by decide +kernel
theorem wd_G_init_13 : decode prog_6_method_1_code 13 = .ok (.newarray .int, 2) := by decide +kernel
theorem wd_G_init_15 : decode prog_6_method_1_code 15 = .ok (.putfield 15, 3) := by decide +kernel
theorem wd_G_init_18 : decode prog_6_method_1_code 18 = .ok (.aload_n 0, 1) := by decide +kernel
theorem wd_G_init_19 : decode prog_6_method_1_code 19 = .ok (.iconst 4, 1) := by decide +kernel
theorem wd_G_init_20 : decode prog_6_method_1_code 20 = .ok (.newarray .int, 2) := by decide +kernel
theorem wd_G_init_22 : decode prog_6_method_1_code 22 = .ok (.putfield 18, 3) := by decide +kernel
theorem wd_G_init_25 : decode prog_6_method_1_code 25 = .ok (.return_, 1) := by decide +kernel
end
section

theorem wd_P_init_0 : decode prog_4_method_1_code 0 = .ok (.aload_n 0, 1) := by decide +kernel
theorem wd_P_init_1 : decode prog_4_method_1_code 1 = .ok (.invokespecial 3, 3) := by decide +kernel
theorem wd_P_init_4 : decode prog_4_method_1_code 4 = .ok (.aload_n 0, 1) := by decide +kernel
theorem wd_P_init_5 : decode prog_4_method_1_code 5 = .ok (.bipush 9, 2) := by decide +kernel
theorem wd_P_init_7 : decode prog_4_method_1_code 7 = .ok (.newarray .int, 2) := by decide +kernel
theorem wd_P_init_9 : decode prog_4_method_1_code 9 = .ok (.putfield 9, 3) := by decide +kernel
theorem wd_P_init_12 : decode prog_4_method_1_code 12 = .ok (.aload_n 0, 1) := by decide +kernel
theorem wd_P_init_13 : decode prog_4_method_1_code 13 = .ok (.bipush 9, 2) := by decide +kernel
theorem wd_P_init_15 : decode prog_4_method_1_code 15 = .ok (.newarray .int, 2) := by decide +kernel
theorem wd_P_init_17 : decode prog_4_method_1_code 17 = .ok (.putfield 15, 3) := by decide +kernel
theorem wd_P_init_20 : decode prog_4_method_1_code 20 = .ok (.aload_n 0, 1) := by decide +kernel
theorem wd_P_init_21 : decode prog_4_method_1_code 21 = .ok (.bipush 9, 2) := by decide +kernel
theorem wd_P_init_23 : decode prog_4_method_1_code 23 = .ok (.newarray .int, 2) := by decide +kernel
theorem wd_P_init_25 : decode prog_4_method_1_code 25 = .ok (.putfield 18, 3) := by decide +kernel
theorem wd_P_init_28 : decode prog_4_method_1_code 28 = .ok (.aload_n 0, 1) := by decide +kernel
theorem wd_P_init_29 : decode prog_4_method_1_code 29 = .ok (.bipush 9, 2) := by decide +kernel
theorem wd_P_init_31 : decode prog_4_method_1_code 31 = .ok (.newarray .int, 2) := by decide +kernel
theorem wd_P_init_33 : decode prog_4_method_1_code 33 = .ok (.putfield 21, 3) := by decide +kernel
theorem wd_P_init_36 : decode prog_4_method_1_code 36 = .ok (.aload_n 0, 1) := by decide +kernel
theorem wd_P_init_37 : decode prog_4_method_1_code 37 = .ok (.bipush 9, 2) := by decide +kernel
theorem wd_P_init_39 : decode prog_4_method_1_code 39 = .ok (.newarray .int, 2) := by decide +kernel
theorem wd_P_init_41 : decode prog_4_method_1_code 41 = .ok (.putfield 24, 3) := by decide +kernel
theorem wd_P_init_44 : decode prog_4_method_1_code 44 = .ok (.aload_n 0, 1) := by decide +kernel
theorem wd_P_init_45 : decode prog_4_method_1_code 45 = .ok (.bipush 9, 2) := by decide +kernel
theorem wd_P_init_47 : decode prog_4_method_1_code 47 = .ok (.newarray .int, 2) := by decide +kernel
theorem wd_P_init_49 : decode prog_4_method_1_code 49 = .ok (.putfield 27, 3) := by decide +kernel
theorem wd_P_init_52 : decode prog_4_method_1_code 52 = .ok (.aload_n 0, 1) := by decide +kernel
theorem wd_P_init_53 : decode prog_4_method_1_code 53 = .ok (.bipush 9, 2) := by decide +kernel
theorem wd_P_init_55 : decode prog_4_method_1_code 55 = .ok (.bipush 9, 2) := by decide +kernel
theorem wd_P_init_57 : decode prog_4_method_1_code 57 = .ok (.multianewarray 30 2, 4) := by decide +kernel
theorem wd_P_init_61 : decode prog_4_method_1_code 61 = .ok (.putfield 32, 3) := by decide +kernel
theorem wd_P_init_64 : decode prog_4_method_1_code 64 = .ok (.aload_n 0, 1) := by decide +kernel
theorem wd_P_init_65 : decode prog_4_method_1_code 65 = .ok (.new 35, 3) := by decide +kernel
theorem wd_P_init_68 : decode prog_4_method_1_code 68 = .ok (.dup, 1) := by decide +kernel
theorem wd_P_init_69 : decode prog_4_method_1_code 69 = .ok (.invokespecial 37, 3) := by decide +kernel
theorem wd_P_init_72 : decode prog_4_method_1_code 72 = .ok (.putfield 38, 3) := by decide +kernel
theorem wd_P_init_75 : decode prog_4_method_1_code 75 = .ok (.aload_n 0, 1) := by decide +kernel
theorem wd_P_init_76 : decode prog_4_method_1_code 76 = .ok (.new 35, 3) := by decide +kernel
theorem wd_P_init_79 : decode prog_4_method_1_code 79 = .ok (.dup, 1) := by decide +kernel
theorem wd_P_init_80 : decode prog_4_method_1_code 80 = .ok (.invokespecial 37, 3) := by decide +kernel
theorem wd_P_init_83 : decode prog_4_method_1_code 83 = .ok (.putfield 42, 3) := by decide +kernel
theorem wd_P_init_86 : decode prog_4_method_1_code 86 = .ok (.aload_n 0, 1) := by decide +kernel
theorem wd_P_init_87 : decode prog_4_method_1_code 87 = .ok (.new 45, 3) := by decide +kernel
theorem wd_P_init_90 : decode prog_4_method_1_code 90 = .ok (.dup, 1) := by decide +kernel
theorem wd_P_init_91 : decode prog_4_method_1_code 91 = .ok (.invokespecial 47, 3) := by decide +kernel
theorem wd_P_init_94 : decode prog_4_method_1_code 94 = .ok (.putfield 48, 3) := by decide +kernel
theorem wd_P_init_97 : decode prog_4_method_1_code 97 = .ok (.aload_n 0, 1) := by decide +kernel
theorem wd_P_init_98 : decode prog_4_method_1_code 98 = .ok (.iconst 2, 1) := by decide +kernel
theorem wd_P_init_99 : decode prog_4_method_1_code 99 = .ok (.putfield 52, 3) := by decide +kernel
theorem wd_P_init_102 : decode prog_4_method_1_code 102 = .ok (.aload_n 0, 1) := by decide +kernel
theorem wd_P_init_103 : decode prog_4_method_1_code 103 = .ok (.sipush 1000, 3) := by decide +kernel
theorem wd_P_init_106 : decode prog_4_method_1_code 106 = .ok (.putfield 56, 3) := by decide +kernel
theorem wd_P_init_109 : decode prog_4_method_1_code 109 = .ok (.aload_n 0, 1) := by decide +kernel
theorem wd_P_init_110 : decode prog_4_method_1_code 110 = .ok (.bipush 100, 2) := by decide +kernel
theorem wd_P_init_112 : decode prog_4_method_1_code 112 = .ok (.putfield 59, 3) := by decide +kernel
theorem wd_P_init_115 : decode prog_4_method_1_code 115 = .ok (.return_, 1) := by decide +kernel
end
section

theorem wd_L_init_0 : decode prog_3_method_1_code 0 = .ok (.aload_n 0, 1) := by decide +kernel
theorem wd_L_init_1 : decode prog_3_method_1_code 1 = .ok (.invokespecial 3, 3) := by decide +kernel
theorem wd_L_init_4 : decode prog_3_method_1_code 4 = .ok (.aload_n 0, 1) := by decide +kernel
theorem wd_L_init_5 : decode prog_3_method_1_code 5 = .ok (.bipush 9, 2) := by decide +kernel
theorem wd_L_init_7 : decode prog_3_method_1_code 7 = .ok (.newarray .int, 2) := by decide +kernel
theorem wd_L_init_9 : decode prog_3_method_1_code 9 = .ok (.putfield 9, 3) := by decide +kernel
theorem wd_L_init_12 : decode prog_3_method_1_code 12 = .ok (.aload_n 0, 1) := by decide +kernel
theorem wd_L_init_13 : decode prog_3_method_1_code 13 = .ok (.bipush 9, 2) := by decide +kernel
theorem wd_L_init_15 : decode prog_3_method_1_code 15 = .ok (.newarray .boolean, 2) := by decide +kernel
theorem wd_L_init_17 : decode prog_3_method_1_code 17 = .ok (.putfield 15, 3) := by decide +kernel
theorem wd_L_init_20 : decode prog_3_method_1_code 20 = .ok (.aload_n 0, 1) := by decide +kernel
theorem wd_L_init_21 : decode prog_3_method_1_code 21 = .ok (.bipush 9, 2) := by decide +kernel
theorem wd_L_init_23 : decode prog_3_method_1_code 23 = .ok (.newarray .boolean, 2) := by decide +kernel
theorem wd_L_init_25 : decode prog_3_method_1_code 25 = .ok (.putfield 19, 3) := by decide +kernel
theorem wd_L_init_28 : decode prog_3_method_1_code 28 = .ok (.aload_n 0, 1) := by decide +kernel
theorem wd_L_init_29 : decode prog_3_method_1_code 29 = .ok (.bipush 10, 2) := by decide +kernel
theorem wd_L_init_31 : decode prog_3_method_1_code 31 = .ok (.newarray .int, 2) := by decide +kernel
theorem wd_L_init_33 : decode prog_3_method_1_code 33 = .ok (.putfield 22, 3) := by decide +kernel
theorem wd_L_init_36 : decode prog_3_method_1_code 36 = .ok (.aload_n 0, 1) := by decide +kernel
theorem wd_L_init_37 : decode prog_3_method_1_code 37 = .ok (.bipush 10, 2) := by decide +kernel
theorem wd_L_init_39 : decode prog_3_method_1_code 39 = .ok (.newarray .int, 2) := by decide +kernel
theorem wd_L_init_41 : decode prog_3_method_1_code 41 = .ok (.putfield 25, 3) := by decide +kernel
theorem wd_L_init_44 : decode prog_3_method_1_code 44 = .ok (.aload_n 0, 1) := by decide +kernel
theorem wd_L_init_45 : decode prog_3_method_1_code 45 = .ok (.bipush 10, 2) := by decide +kernel
theorem wd_L_init_47 : decode prog_3_method_1_code 47 = .ok (.newarray .int, 2) := by decide +kernel
theorem wd_L_init_49 : decode prog_3_method_1_code 49 = .ok (.putfield 28, 3) := by decide +kernel
theorem wd_L_init_52 : decode prog_3_method_1_code 52 = .ok (.aload_n 0, 1) := by decide +kernel
theorem wd_L_init_53 : decode prog_3_method_1_code 53 = .ok (.bipush 10, 2) := by decide +kernel
theorem wd_L_init_55 : decode prog_3_method_1_code 55 = .ok (.newarray .int, 2) := by decide +kernel
theorem wd_L_init_57 : decode prog_3_method_1_code 57 = .ok (.putfield 31, 3) := by decide +kernel
theorem wd_L_init_60 : decode prog_3_method_1_code 60 = .ok (.aload_n 0, 1) := by decide +kernel
theorem wd_L_init_61 : decode prog_3_method_1_code 61 = .ok (.bipush 10, 2) := by decide +kernel
theorem wd_L_init_63 : decode prog_3_method_1_code 63 = .ok (.iconst 4, 1) := by decide +kernel
theorem wd_L_init_64 : decode prog_3_method_1_code 64 = .ok (.multianewarray 34 2, 4) := by decide +kernel
theorem wd_L_init_68 : decode prog_3_method_1_code 68 = .ok (.putfield 36, 3) := by decide +kernel
theorem wd_L_init_71 : decode prog_3_method_1_code 71 = .ok (.aload_n 0, 1) := by decide +kernel
theorem wd_L_init_72 : decode prog_3_method_1_code 72 = .ok (.aload_n 1, 1) := by decide +kernel
theorem wd_L_init_73 : decode prog_3_method_1_code 73 = .ok (.putfield 39, 3) := by decide +kernel
theorem wd_L_init_76 : decode prog_3_method_1_code 76 = .ok (.return_, 1) := by decide +kernel
end
section

theorem wd_S_init_0 : decode prog_5_method_1_code 0 = .ok (.aload_n 0, 1) := by decide +kernel
theorem wd_S_init_1 : decode prog_5_method_1_code 1 = .ok (.invokespecial 3, 3) := by decide +kernel
theorem wd_S_init_4 : decode prog_5_method_1_code 4 = .ok (.aload_n 0, 1) := by decide +kernel
theorem wd_S_init_5 : decode prog_5_method_1_code 5 = .ok (.bipush 9, 2) := by decide +kernel
theorem wd_S_init_7 : decode prog_5_method_1_code 7 = .ok (.newarray .int, 2) := by decide +kernel
theorem wd_S_init_9 : decode prog_5_method_1_code 9 = .ok (.putfield 9, 3) := by decide +kernel
theorem wd_S_init_12 : decode prog_5_method_1_code 12 = .ok (.aload_n 0, 1) := by decide +kernel
theorem wd_S_init_13 : decode prog_5_method_1_code 13 = .ok (.aload_n 1, 1) := by decide +kernel
theorem wd_S_init_14 : decode prog_5_method_1_code 14 = .ok (.putfield 15, 3) := by decide +kernel
theorem wd_S_init_17 : decode prog_5_method_1_code 17 = .ok (.aload_n 0, 1) := by decide +kernel
theorem wd_S_init_18 : decode prog_5_method_1_code 18 = .ok (.aload_n 2, 1) := by decide +kernel
theorem wd_S_init_19 : decode prog_5_method_1_code 19 = .ok (.putfield 19, 3) := by decide +kernel
theorem wd_S_init_22 : decode prog_5_method_1_code 22 = .ok (.return_, 1) := by decide +kernel
end
section

theorem wd_W_init_0 : decode prog_1_method_1_code 0 = .ok (.aload_n 0, 1) := by decide +kernel
theorem wd_W_init_1 : decode prog_1_method_1_code 1 = .ok (.invokespecial 1, 3) := by decide +kernel
theorem wd_W_init_4 : decode prog_1_method_1_code 4 = .ok (.aload_n 0, 1) := by decide +kernel
theorem wd_W_init_5 : decode prog_1_method_1_code 5 = .ok (.new 7, 3) := by decide +kernel
theorem wd_W_init_8 : decode prog_1_method_1_code 8 = .ok (.dup, 1) := by decide +kernel
theorem wd_W_init_9 : decode prog_1_method_1_code 9 = .ok (.invokespecial 9, 3) := by decide +kernel
theorem wd_W_init_12 : decode prog_1_method_1_code 12 = .ok (.putfield 10, 3) := by decide +kernel
theorem wd_W_init_15 : decode prog_1_method_1_code 15 = .ok (.aload_n 0, 1) := by decide +kernel
theorem wd_W_init_16 : decode prog_1_method_1_code 16 = .ok (.new 16, 3) := by decide +kernel
theorem wd_W_init_19 : decode prog_1_method_1_code 19 = .ok (.dup, 1) := by decide +kernel
theorem wd_W_init_20 : decode prog_1_method_1_code 20 = .ok (.aload_n 0, 1) := by decide +kernel
theorem wd_W_init_21 : decode prog_1_method_1_code 21 = .ok (.getfield 10, 3) := by decide +kernel
theorem wd_W_init_24 : decode prog_1_method_1_code 24 = .ok (.invokespecial 18, 3) := by decide +kernel
theorem wd_W_init_27 : decode prog_1_method_1_code 27 = .ok (.putfield 21, 3) := by decide +kernel
theorem wd_W_init_30 : decode prog_1_method_1_code 30 = .ok (.aload_n 0, 1) := by decide +kernel
theorem wd_W_init_31 : decode prog_1_method_1_code 31 = .ok (.new 16, 3) := by decide +kernel
theorem wd_W_init_34 : decode prog_1_method_1_code 34 = .ok (.dup, 1) := by decide +kernel
theorem wd_W_init_35 : decode prog_1_method_1_code 35 = .ok (.aload_n 0, 1) := by decide +kernel
theorem wd_W_init_36 : decode prog_1_method_1_code 36 = .ok (.getfield 10, 3) := by decide +kernel
theorem wd_W_init_39 : decode prog_1_method_1_code 39 = .ok (.invokespecial 18, 3) := by decide +kernel
theorem wd_W_init_42 : decode prog_1_method_1_code 42 = .ok (.putfield 25, 3) := by decide +kernel
theorem wd_W_init_45 : decode prog_1_method_1_code 45 = .ok (.aload_n 0, 1) := by decide +kernel
theorem wd_W_init_46 : decode prog_1_method_1_code 46 = .ok (.new 28, 3) := by decide +kernel
theorem wd_W_init_49 : decode prog_1_method_1_code 49 = .ok (.dup, 1) := by decide +kernel
theorem wd_W_init_50 : decode prog_1_method_1_code 50 = .ok (.aload_n 0, 1) := by decide +kernel
theorem wd_W_init_51 : decode prog_1_method_1_code 51 = .ok (.getfield 10, 3) := by decide +kernel
theorem wd_W_init_54 : decode prog_1_method_1_code 54 = .ok (.aload_n 0, 1) := by decide +kernel
theorem wd_W_init_55 : decode prog_1_method_1_code 55 = .ok (.getfield 21, 3) := by decide +kernel
theorem wd_W_init_58 : decode prog_1_method_1_code 58 = .ok (.invokespecial 30, 3) := by decide +kernel
theorem wd_W_init_61 : decode prog_1_method_1_code 61 = .ok (.putfield 33, 3) := by decide +kernel
theorem wd_W_init_64 : decode prog_1_method_1_code 64 = .ok (.aload_n 0, 1) := by decide +kernel
theorem wd_W_init_65 : decode prog_1_method_1_code 65 = .ok (.bipush 9, 2) := by decide +kernel
theorem wd_W_init_67 : decode prog_1_method_1_code 67 = .ok (.newarray .int, 2) := by decide +kernel
theorem wd_W_init_69 : decode prog_1_method_1_code 69 = .ok (.putfield 37, 3) := by decide +kernel
theorem wd_W_init_72 : decode prog_1_method_1_code 72 = .ok (.return_, 1) := by decide +kernel
end
section

theorem wd_M_init_0 : decode prog_8_method_1_code 0 = .ok (.aload_n 0, 1) := by decide +kernel
theorem wd_M_init_1 : decode prog_8_method_1_code 1 = .ok (.invokespecial 1, 3) := by decide +kernel
theorem wd_M_init_4 : decode prog_8_method_1_code 4 = .ok (.aload_n 0, 1) := by decide +kernel
theorem wd_M_init_5 : decode prog_8_method_1_code 5 = .ok (.bipush 9, 2) := by decide +kernel
theorem wd_M_init_7 : decode prog_8_method_1_code 7 = .ok (.newarray .int, 2) := by decide +kernel
theorem wd_M_init_9 : decode prog_8_method_1_code 9 = .ok (.putfield 7, 3) := by decide +kernel
theorem wd_M_init_12 : decode prog_8_method_1_code 12 = .ok (.aload_n 0, 1) := by decide +kernel
theorem wd_M_init_13 : decode prog_8_method_1_code 13 = .ok (.bipush 9, 2) := by decide +kernel
theorem wd_M_init_15 : decode prog_8_method_1_code 15 = .ok (.newarray .int, 2) := by decide +kernel
theorem wd_M_init_17 : decode prog_8_method_1_code 17 = .ok (.putfield 13, 3) := by decide +kernel
theorem wd_M_init_20 : decode prog_8_method_1_code 20 = .ok (.aload_n 0, 1) := by decide +kernel
theorem wd_M_init_21 : decode prog_8_method_1_code 21 = .ok (.bipush 9, 2) := by decide +kernel
theorem wd_M_init_23 : decode prog_8_method_1_code 23 = .ok (.newarray .int, 2) := by decide +kernel
theorem wd_M_init_25 : decode prog_8_method_1_code 25 = .ok (.putfield 16, 3) := by decide +kernel
theorem wd_M_init_28 : decode prog_8_method_1_code 28 = .ok (.aload_n 0, 1) := by decide +kernel
theorem wd_M_init_29 : decode prog_8_method_1_code 29 = .ok (.bipush 9, 2) := by decide +kernel
theorem wd_M_init_31 : decode prog_8_method_1_code 31 = .ok (.newarray .int, 2) := by decide +kernel
theorem wd_M_init_33 : decode prog_8_method_1_code 33 = .ok (.putfield 19, 3) := by decide +kernel
theorem wd_M_init_36 : decode prog_8_method_1_code 36 = .ok (.aload_n 0, 1) := by decide +kernel
theorem wd_M_init_37 : decode prog_8_method_1_code 37 = .ok (.bipush 9, 2) := by decide +kernel
theorem wd_M_init_39 : decode prog_8_method_1_code 39 = .ok (.newarray .int, 2) := by decide +kernel
theorem wd_M_init_41 : decode prog_8_method_1_code 41 = .ok (.putfield 22, 3) := by decide +kernel
theorem wd_M_init_44 : decode prog_8_method_1_code 44 = .ok (.aload_n 0, 1) := by decide +kernel
theorem wd_M_init_45 : decode prog_8_method_1_code 45 = .ok (.bipush 9, 2) := by decide +kernel
theorem wd_M_init_47 : decode prog_8_method_1_code 47 = .ok (.newarray .int, 2) := by decide +kernel
theorem wd_M_init_49 : decode prog_8_method_1_code 49 = .ok (.putfield 25, 3) := by decide +kernel
theorem wd_M_init_52 : decode prog_8_method_1_code 52 = .ok (.aload_n 0, 1) := by decide +kernel
theorem wd_M_init_53 : decode prog_8_method_1_code 53 = .ok (.iconst 2, 1) := by decide +kernel
theorem wd_M_init_54 : decode prog_8_method_1_code 54 = .ok (.newarray .int, 2) := by decide +kernel
theorem wd_M_init_56 : decode prog_8_method_1_code 56 = .ok (.putfield 28, 3) := by decide +kernel
theorem wd_M_init_59 : decode prog_8_method_1_code 59 = .ok (.aload_n 0, 1) := by decide +kernel
theorem wd_M_init_60 : decode prog_8_method_1_code 60 = .ok (.bipush 16, 2) := by decide +kernel
theorem wd_M_init_62 : decode prog_8_method_1_code 62 = .ok (.newarray .int, 2) := by decide +kernel
theorem wd_M_init_64 : decode prog_8_method_1_code 64 = .ok (.putfield 31, 3) := by decide +kernel
theorem wd_M_init_67 : decode prog_8_method_1_code 67 = .ok (.aload_n 0, 1) := by decide +kernel
theorem wd_M_init_68 : decode prog_8_method_1_code 68 = .ok (.bipush 16, 2) := by decide +kernel
theorem wd_M_init_70 : decode prog_8_method_1_code 70 = .ok (.newarray .int, 2) := by decide +kernel
theorem wd_M_init_72 : decode prog_8_method_1_code 72 = .ok (.putfield 34, 3) := by decide +kernel
theorem wd_M_init_75 : decode prog_8_method_1_code 75 = .ok (.aload_n 0, 1) := by decide +kernel
theorem wd_M_init_76 : decode prog_8_method_1_code 76 = .ok (.bipush 16, 2) := by decide +kernel
theorem wd_M_init_78 : decode prog_8_method_1_code 78 = .ok (.newarray .int, 2) := by decide +kernel
theorem wd_M_init_80 : decode prog_8_method_1_code 80 = .ok (.putfield 37, 3) := by decide +kernel
theorem wd_M_init_83 : decode prog_8_method_1_code 83 = .ok (.aload_n 0, 1) := by decide +kernel
theorem wd_M_init_84 : decode prog_8_method_1_code 84 = .ok (.iconst 4, 1) := by decide +kernel
theorem wd_M_init_85 : decode prog_8_method_1_code 85 = .ok (.newarray .int, 2) := by decide +kernel
theorem wd_M_init_87 : decode prog_8_method_1_code 87 = .ok (.putfield 40, 3) := by decide +kernel
theorem wd_M_init_90 : decode prog_8_method_1_code 90 = .ok (.aload_n 0, 1) := by decide +kernel
theorem wd_M_init_91 : decode prog_8_method_1_code 91 = .ok (.iconst 4, 1) := by decide +kernel
theorem wd_M_init_92 : decode prog_8_method_1_code 92 = .ok (.newarray .int, 2) := by decide +kernel
theorem wd_M_init_94 : decode prog_8_method_1_code 94 = .ok (.putfield 43, 3) := by decide +kernel
theorem wd_M_init_97 : decode prog_8_method_1_code 97 = .ok (.aload_n 0, 1) := by decide +kernel
theorem wd_M_init_98 : decode prog_8_method_1_code 98 = .ok (.iconst 4, 1) := by decide +kernel
theorem wd_M_init_99 : decode prog_8_method_1_code 99 = .ok (.newarray .int, 2) := by decide +kernel
theorem wd_M_init_101 : decode prog_8_method_1_code 101 = .ok (.putfield 46, 3) := by decide +kernel
theorem wd_M_init_104 : decode prog_8_method_1_code 104 = .ok (.aload_n 0, 1) := by decide +kernel
theorem wd_M_init_105 : decode prog_8_method_1_code 105 = .ok (.iconst 2, 1) := by decide +kernel
theorem wd_M_init_106 : decode prog_8_method_1_code 106 = .ok (.putfield 49, 3) := by decide +kernel
theorem wd_M_init_109 : decode prog_8_method_1_code 109 = .ok (.aload_n 0, 1) := by decide +kernel
theorem wd_M_init_110 : decode prog_8_method_1_code 110 = .ok (.sipush 1000, 3) := by decide +kernel
theorem wd_M_init_113 : decode prog_8_method_1_code 113 = .ok (.putfield 53, 3) := by decide +kernel
theorem wd_M_init_116 : decode prog_8_method_1_code 116 = .ok (.aload_n 0, 1) := by decide +kernel
theorem wd_M_init_117 : decode prog_8_method_1_code 117 = .ok (.bipush 100, 2) := by decide +kernel
theorem wd_M_init_119 : decode prog_8_method_1_code 119 = .ok (.putfield 56, 3) := by decide +kernel
theorem wd_M_init_122 : decode prog_8_method_1_code 122 = .ok (.aload_n 0, 1) := by decide +kernel
theorem wd_M_init_123 : decode prog_8_method_1_code 123 = .ok (.bipush 9, 2) := by decide +kernel
theorem wd_M_init_125 : decode prog_8_method_1_code 125 = .ok (.newarray .int, 2) := by decide +kernel
theorem wd_M_init_127 : decode prog_8_method_1_code 127 = .ok (.putfield 59, 3) := by decide +kernel
theorem wd_M_init_130 : decode prog_8_method_1_code 130 = .ok (.aload_n 0, 1) := by decide +kernel
theorem wd_M_init_131 : decode prog_8_method_1_code 131 = .ok (.bipush 9, 2) := by decide +kernel
theorem wd_M_init_133 : decode prog_8_method_1_code 133 = .ok (.newarray .int, 2) := by decide +kernel
theorem wd_M_init_135 : decode prog_8_method_1_code 135 = .ok (.putfield 62, 3) := by decide +kernel
theorem wd_M_init_138 : decode prog_8_method_1_code 138 = .ok (.aload_n 0, 1) := by decide +kernel
theorem wd_M_init_139 : decode prog_8_method_1_code 139 = .ok (.bipush 9, 2) := by decide +kernel
theorem wd_M_init_141 : decode prog_8_method_1_code 141 = .ok (.newarray .boolean, 2) := by decide +kernel
theorem wd_M_init_143 : decode prog_8_method_1_code 143 = .ok (.putfield 65, 3) := by decide +kernel
theorem wd_M_init_146 : decode prog_8_method_1_code 146 = .ok (.return_, 1) := by decide +kernel
end
/-! constructors: what they start from, new arrays -/
section WN
def wn_pre (D : va_G) (cI cZ cJ cG : ClassId) (st : va_W) (sz : Nat) : State → Prop := fun U => U.heap.size = sz ∧ va_P D wx_cl st U.heap ∧ va_K D wx_cl (wx_ty cI cZ cJ cG) U ∧ va_D (fun _ => True) st ∧ wx_C (va_A st sz) U U.heap ∧ (Cond.arrayOver (.array .int)).before #[] U = true
variable {p : Program} {l : Launch} {e : Env} {R : Room} {s : State} {m : MethodId} {args : Array Value} {below : List Frame} {meth : Method} {c : Code} {H : Heap} {locs : List Loc} {cells slots : Nat} {Q : State → Prop}
variable {cc : ByteArray} {pc : Nat} {ls : Array Slot} {rest : List Value} {D : va_G} {cI cZ cJ cG : ClassId} {A : Nat → Prop} {H0 : Heap} {ws st : va_W} {c0 : Cond}
theorem wn_preS {av : List Value} (hK : va_K D wx_cl (wx_ty cI cZ cJ cG) s) (hP : va_P D wx_cl st H) (hD : va_D A st) (hS : va_S A s.heap H locs) (hF : ∀ q, va_A st H.size q → A q) (hC : wx_C A s s.heap) (hO : (Cond.arrayOver (.array .int)).before #[] s = true) : PreS s H (va_Pc av (wn_pre D cI cZ cJ cG st H.size)) av := by
  refine ⟨fun a U g mk q => ?_, fun U hU hW => ?_⟩
  · obtain ⟨q0, q1, qP, qK, qD, qC, qO⟩ := q
    exact ⟨q0, q1, qP, va_K.moved (u := U) (U := U.calling g mk a) (Vm.Alike.refl U.vm) qK, qD, qC, over_moved (u := U) (E := U.calling g mk a) (Vm.Alike.refl U.vm) qO⟩
  · exact ⟨rfl, by rw [hU], by rw [hU]; exact hP, va_K.moved hW.alike hK, hD.weaken (fun _ _ _ _ => trivial), by rw [hU]; exact wx_C.go hW hS hF hC, over_moved hW.alike hO⟩
theorem wn_newI (hx : p.tables.exec = Jvm.exec) (hb : c.code = cc) (hts : ∀ w ∈ c0 :: wx_all, w.before args s = true) (harr : Cond.arrayClass .int ∈ wx_all) (hK : va_K D wx_cl (wx_ty cI cZ cJ cG) s) (hP : va_P D wx_cl ws H) (hD : va_D A ws) (hS : va_S A H0 H locs) (hA : ∀ q, H0.size ≤ q → A q) {n : Int32} {N' : Nat} (hn : ¬ n < 0) (hN : n.toNatClampNeg = N') (hbytes : N' * 4 ≤ 536870912) (hc : cells + 1 ≤ R.cells) (hs : slots + N' ≤ R.slots) (hdg : decode cc pc = .ok (.newarray .int, 2))
    (kk : ∀ (q : Nat) (H1 : Heap), va_P D wx_cl (ws ++ [(q, .inl (cI, N', .inl (fun _ => 0)))]) H1 → va_D A (ws ++ [(q, .inl (cI, N', .inl (fun _ => 0)))]) → va_S A H0 H1 locs → W p l e R s m args below meth c H1 locs (cells + 1) (slots + N') Q (F0 m (pc + 2) ls (.ref q :: rest))) : W p l e R s m args below meth c H locs cells slots Q (F0 m pc ls (.int n :: rest)) := by
  refine va_newa (atype := .int) (ty := .int) (a0 := (N', .inl (fun _ => 0))) hx hb (wx_hw hts harr) rfl hK hP hD hS hA (fun cA => rfl) hn hN hbytes hc hs hdg (fun q cA H1 hK1 hP1 hD1 hS1 => ?_)
  have e1 : s.vm.findClass ("[" ++ FieldType.int.toString) = some cA := (hK1.2 4 (cA, .int) rfl).2
  have e2 : s.vm.findClass ("[" ++ FieldType.int.toString) = some cI := (hK.2 0 (cI, .int) rfl).2
  cases Option.some.inj (e1.symm.trans e2)
  exact kk q H1 hP1 hD1 hS1
theorem wn_newZ (hx : p.tables.exec = Jvm.exec) (hb : c.code = cc) (hts : ∀ w ∈ c0 :: wx_all, w.before args s = true) (harr : Cond.arrayClass .boolean ∈ wx_all) (hK : va_K D wx_cl (wx_ty cI cZ cJ cG) s) (hP : va_P D wx_cl ws H) (hD : va_D A ws) (hS : va_S A H0 H locs) (hA : ∀ q, H0.size ≤ q → A q) {n : Int32} {N' : Nat} (hn : ¬ n < 0) (hN : n.toNatClampNeg = N') (hbytes : N' * 1 ≤ 536870912) (hc : cells + 1 ≤ R.cells) (hs : slots + N' ≤ R.slots) (hdg : decode cc pc = .ok (.newarray .boolean, 2))
    (kk : ∀ (q : Nat) (H1 : Heap), va_P D wx_cl (ws ++ [(q, .inl (cZ, N', .inl (fun _ => 0)))]) H1 → va_D A (ws ++ [(q, .inl (cZ, N', .inl (fun _ => 0)))]) → va_S A H0 H1 locs → W p l e R s m args below meth c H1 locs (cells + 1) (slots + N') Q (F0 m (pc + 2) ls (.ref q :: rest))) : W p l e R s m args below meth c H locs cells slots Q (F0 m pc ls (.int n :: rest)) := by
  refine va_newa (atype := .boolean) (ty := .boolean) (a0 := (N', .inl (fun _ => 0))) hx hb (wx_hw hts harr) rfl hK hP hD hS hA (fun cA => rfl) hn hN hbytes hc hs hdg (fun q cA H1 hK1 hP1 hD1 hS1 => ?_)
  have e1 : s.vm.findClass ("[" ++ FieldType.boolean.toString) = some cA := (hK1.2 4 (cA, .boolean) rfl).2
  have e2 : s.vm.findClass ("[" ++ FieldType.boolean.toString) = some cZ := (hK.2 1 (cZ, .boolean) rfl).2
  cases Option.some.inj (e1.symm.trans e2)
  exact kk q H1 hP1 hD1 hS1
theorem wn_newJ (hx : p.tables.exec = Jvm.exec) (hb : c.code = cc) (hts : ∀ w ∈ c0 :: wx_all, w.before args s = true) (harr : Cond.arrayClass .long ∈ wx_all) (hK : va_K D wx_cl (wx_ty cI cZ cJ cG) s) (hP : va_P D wx_cl ws H) (hD : va_D A ws) (hS : va_S A H0 H locs) (hA : ∀ q, H0.size ≤ q → A q) {n : Int32} {N' : Nat} (hn : ¬ n < 0) (hN : n.toNatClampNeg = N') (hbytes : N' * 8 ≤ 536870912) (hc : cells + 1 ≤ R.cells) (hs : slots + N' ≤ R.slots) (hdg : decode cc pc = .ok (.newarray .long, 2))
    (kk : ∀ (q : Nat) (H1 : Heap), va_P D wx_cl (ws ++ [(q, .inl (cJ, N', .inr (.inl (fun _ => 0))))]) H1 → va_D A (ws ++ [(q, .inl (cJ, N', .inr (.inl (fun _ => 0))))]) → va_S A H0 H1 locs → W p l e R s m args below meth c H1 locs (cells + 1) (slots + N') Q (F0 m (pc + 2) ls (.ref q :: rest))) : W p l e R s m args below meth c H locs cells slots Q (F0 m pc ls (.int n :: rest)) := by
  refine va_newa (atype := .long) (ty := .long) (a0 := (N', .inr (.inl (fun _ => 0)))) hx hb (wx_hw hts harr) rfl hK hP hD hS hA (fun cA => rfl) hn hN hbytes hc hs hdg (fun q cA H1 hK1 hP1 hD1 hS1 => ?_)
  have e1 : s.vm.findClass ("[" ++ FieldType.long.toString) = some cA := (hK1.2 4 (cA, .long) rfl).2
  have e2 : s.vm.findClass ("[" ++ FieldType.long.toString) = some cJ := (hK.2 2 (cJ, .long) rfl).2
  cases Option.some.inj (e1.symm.trans e2)
  exact kk q H1 hP1 hD1 hS1
/-- the array of rows behind i of them -/
theorem wn_outer (cA : ClassId) (N h0 : Nat) : ∀ i : Nat, Jvm.Free.Multi.outerC cA N h0 i = arrV cA N (fun j => va_rf (if j < i then some (h0 + 1 + j) else none))
  | 0 => by
    show ({ cls := cA, slots := Array.replicate N .null, vm := .none } : Cell) = _
    rw [arrV_new]
    exact congrArg (arrV cA N) (funext fun j => by simp [va_rf])
  | i + 1 => by
    show (Jvm.Free.Multi.outerC cA N h0 i).setSlot i (.ref (h0 + 1 + i)) = _
    rw [wn_outer cA N h0 i, arrV_store]
    refine congrArg (arrV cA N) (funext fun j => ?_)
    rcases Nat.lt_trichotomy j i with h | h | h
    · simp [updV, Nat.ne_of_lt h, h, Nat.lt_succ_of_lt h]
    · subst h; simp [updV, va_rf]
    · simp [updV, Nat.ne_of_gt h, Nat.not_lt_of_gt h, show ¬ j < i + 1 by omega]
theorem wn_mna (hx : p.tables.exec = Jvm.exec) (hb : c.code = cc) {own : String} {index : Nat} (hown : s.vm.findClass own = some m.cls) (hts : ∀ w ∈ c0 :: wx_all, w.before args s = true) (hcl : Cond.classLink own index "[[I" ∈ wx_all) (hO : (Cond.arrayOver (.array .int)).before #[] s = true) (harr : Cond.arrayClass .int ∈ wx_all) (hK : va_K D wx_cl (wx_ty cI cZ cJ cG) s) (hP : va_P D wx_cl ws H) (hD : va_D A ws) (hS : va_S A H0 H locs) (hA : ∀ q, H0.size ≤ q → A q) {n k : Int32} {N' K' : Nat} (hn : ¬ n < 0) (hk : ¬ k < 0) (hN : n.toNatClampNeg = N') (hM : k.toNatClampNeg = K') (hb1 : N' * 4 ≤ 536870912) (hb2 : K' * 4 ≤ 536870912) (hb3 : K' ≤ 536870912) (hc : cells + (1 + N') ≤ R.cells) (hs : slots + (N' + N' * K') ≤ R.slots) (hdg : decode cc pc = .ok (.multianewarray index 2, 4))
    (kk : ∀ (q : Nat) (H1 : Heap), va_P D wx_cl (ws ++ ((q, .inl (cG, N', .inr (.inr (.inr (.inr (fun i => if i < N' then some (q + 1 + i) else none)))))) :: (List.range N').map (fun i => (q + 1 + i, .inl (cI, K', .inl (fun _ => 0)))))) H1 → va_D A (ws ++ ((q, .inl (cG, N', .inr (.inr (.inr (.inr (fun i => if i < N' then some (q + 1 + i) else none)))))) :: (List.range N').map (fun i => (q + 1 + i, .inl (cI, K', .inl (fun _ => 0)))))) → va_S A H0 H1 locs →
      W p l e R s m args below meth c H1 locs (cells + 1 + N') (slots + N' + N' * K') Q (F0 m (pc + 4) ls (.ref q :: rest))) : W p l e R s m args below meth c H locs cells slots Q (F0 m pc ls (.int k :: .int n :: rest)) := by
  subst hN
  subst hM
  intro T hT X
  obtain ⟨vm1, cA, comp, -, fA, fC, -, -, X1, step⟩ := X.multianewarray2F hx (own := own) (index := index) (ty := .int) hown (wx_hw hts hcl) (show (Cond.arrayOver (.array .int)).before args s = true from hO) (wx_hw hts harr) (g := F0 m pc ls (.int k :: .int n :: rest)) rfl (by rw [hb]; exact hdg) rfl hn hk hb1 hb2 hb3 rfl rfl hc hs
  have e1 : s.vm.findClass ("[" ++ (FieldType.array .int).toString) = some cG := (hK.2 3 (cG, .array .int) rfl).2
  have e2 : s.vm.findClass ("[" ++ FieldType.int.toString) = some cI := (hK.2 0 (cI, .int) rfl).2
  cases Option.some.inj (fA.symm.trans e1)
  cases Option.some.inj (fC.symm.trans e2)
  obtain ⟨F, hF⟩ : ∃ F, F = Jvm.Free.Multi.fill (T.setVm vm1) cG cI n.toNatClampNeg k.toNatClampNeg (defaultValue .int) n.toNatClampNeg := ⟨_, rfl⟩
  have hTh : (T.setVm vm1).heap = H := hT
  obtain ⟨f1, f2, -, -⟩ := Jvm.Free.Multi.fill_facts (T.setVm vm1) cG cI n.toNatClampNeg k.toNatClampNeg (defaultValue .int) n.toNatClampNeg
  rw [← hF, hTh] at f1 f2
  rw [← hF] at X1 step
  have old : ∀ x : Nat, x < H.size → F.heap[x]? = H[x]? := fun x hx => by
    have h := Jvm.Free.Multi.fill_old (T.setVm vm1) cG cI n.toNatClampNeg k.toNatClampNeg (defaultValue .int) (a := x) (by rw [hTh]; exact hx) n.toNatClampNeg
    rw [← hF, hTh] at h
    exact h
  have row : ∀ j : Nat, j < n.toNatClampNeg → F.heap[H.size + 1 + j]? = some (vp_cell cI (k.toNatClampNeg, .inl (fun _ => 0))) := fun j hj => by
    have h := Jvm.Free.Multi.fill_inner (T.setVm vm1) cG cI n.toNatClampNeg k.toNatClampNeg (defaultValue .int) n.toNatClampNeg j hj
    rw [← hF, hTh] at h
    rw [h]
    show some ({ cls := cI, slots := Array.replicate k.toNatClampNeg (.int 0), vm := .none } : Cell) = _
    rw [arrV_new]
    rfl
  rw [wn_outer] at f2
  have hP1 : va_P D wx_cl (ws ++ ((H.size, .inl (cG, n.toNatClampNeg, .inr (.inr (.inr (.inr (fun i => if i < n.toNatClampNeg then some (H.size + 1 + i) else none)))))) :: (List.range n.toNatClampNeg).map (fun i => (H.size + 1 + i, .inl (cI, k.toNatClampNeg, .inl (fun _ => 0)))))) F.heap := by
    refine (hP.kept (fun j x hx => old x.1 ((hP j x hx).lt))).app (fun j x hx => ?_)
    cases j with
    | zero => cases hx; exact f2
    | succ j =>
      rw [List.getElem?_cons_succ, List.getElem?_map] at hx
      by_cases hj : j < n.toNatClampNeg
      · rw [List.getElem?_range hj] at hx
        cases hx
        exact row j hj
      · rw [List.getElem?_eq_none (by rw [List.length_range]; omega)] at hx
        cases hx
  have adr : ∀ (j : Nat) (x : Nat × va_E), (((H.size, .inl (cG, n.toNatClampNeg, .inr (.inr (.inr (.inr (fun i => if i < n.toNatClampNeg then some (H.size + 1 + i) else none)))))) :: (List.range n.toNatClampNeg).map (fun i => (H.size + 1 + i, .inl (cI, k.toNatClampNeg, .inl (fun _ => 0))))) : va_W)[j]? = some x → x.1 = H.size + j := by
    intro j x hx
    cases j with
    | zero => cases hx; rfl
    | succ j =>
      rw [List.getElem?_cons_succ, List.getElem?_map] at hx
      by_cases hj : j < n.toNatClampNeg
      · rw [List.getElem?_range hj] at hx
        cases hx
        show H.size + 1 + j = _
        omega
      · rw [List.getElem?_eq_none (by rw [List.length_range]; omega)] at hx
        cases hx
  have hD1 : va_D A (ws ++ ((H.size, .inl (cG, n.toNatClampNeg, .inr (.inr (.inr (.inr (fun i => if i < n.toNatClampNeg then some (H.size + 1 + i) else none)))))) :: (List.range n.toNatClampNeg).map (fun i => (H.size + 1 + i, .inl (cI, k.toNatClampNeg, .inl (fun _ => 0)))))) := by
    refine va_D.app hD ⟨fun i j x y hi hj hxy => ?_, fun j x hj => ?_⟩ (fun i j x y hi hj hxy => ?_)
    · have h1 := adr i x hi
      have h2 := adr j y hj
      omega
    · exact hA _ (by have := adr j x hj; have := hS.1; omega)
    · have h1 := (hP i x hi).lt
      have h2 := adr j y hj
      omega
  obtain ⟨t, a1, b1⟩ := kk H.size F.heap hP1 hD1 ⟨Nat.le_trans hS.1 (by rw [f1]; omega), fun x h1 h2 => (old x (Nat.lt_of_lt_of_le h1 hS.1)).trans (hS.2.1 x h1 h2), hS.2.2⟩ F rfl X1
  exact ⟨t, step t (by rw [hT]; exact a1), b1⟩
end WN
section WNC
variable {R : Room} {s : State} {args : Array Value} {c0 : Cond}
theorem wn_cwI {own : String} {index maxL mc ms : Nat} {y : MethodName} {bytes : ByteArray} {rm : Room} (n : Nat) (hts : ∀ w ∈ c0 :: wx_all, w.before args s = true) (hco : Cond.code y bytes maxL none ∈ wx_all) (hin : Cond.instanceMethod y ∈ wx_all) (hini : Cond.initialized y.cls ∈ wx_all) (hl : Cond.methodLink own index y ∈ wx_all) (hd : y.cls ≠ "java/lang/invoke/MethodHandle" ∧ y.cls ≠ "java/lang/invoke/VarHandle" ∧ (parseMethodDescriptor y.desc).map (fun d => d.parameters.length) = some n) (hrc : rm.cells = mc) (hrs : rm.slots = ms) (hR : rm.frames + 1 ≤ R.frames ∧ 8 + (maxL + 11) + rm.locals ≤ R.locals) (hy : y.name = "<init>" := by rfl) :
    CallB R s args own index y bytes maxL none (Cond.code y bytes maxL none :: wx_all) rm mc ms n ∧ y.name = "<init>" ∧ (Cond.instanceMethod y).before args s = true :=
  ⟨callB_of n hts (wx_good hco) rfl hrc hrs (wx_hw hts hini) (wx_hw hts hl) hd hR, hy, wx_hw hts hin⟩
theorem wn_cwN {own host : String} {index maxL mc ms : Nat} {y : MethodName} {bytes : ByteArray} {rm : Room} (n : Nat) (hts : ∀ w ∈ c0 :: wx_all, w.before args s = true) (hco : Cond.code y bytes maxL none ∈ wx_all) (hin : Cond.instanceMethod y ∈ wx_all) (hini : Cond.initialized y.cls ∈ wx_all) (hl : va_Nw (.methodLinkNest own index y host) s) (hd : y.cls ≠ "java/lang/invoke/MethodHandle" ∧ y.cls ≠ "java/lang/invoke/VarHandle" ∧ (parseMethodDescriptor y.desc).map (fun d => d.parameters.length) = some n) (hrc : rm.cells = mc) (hrs : rm.slots = ms) (hR : rm.frames + 1 ≤ R.frames ∧ 8 + (maxL + 11) + rm.locals ≤ R.locals) (hy : y.name = "<init>" := by rfl) :
    va_CN R s args own index y host bytes maxL none (Cond.code y bytes maxL none :: wx_all) rm mc ms n ∧ y.name = "<init>" ∧ (Cond.instanceMethod y).before args s = true :=
  ⟨va_cnB n hts (wx_good hco) rfl hrc hrs hl (wx_hw hts hini) hd hR, hy, wx_hw hts hin⟩
end WNC
