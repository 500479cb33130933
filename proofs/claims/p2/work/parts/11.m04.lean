set_option maxHeartbeats 4000000 in
set_option maxRecDepth 100000 in
theorem wm_S_keepBest (l : Launch) (D : va_G) (ad : Nat → Nat) (cI cZ cJ cG : ClassId) (sz : Nat) (σ : wc_S) (res : wc_S) (hf : wf_S_keepBest  σ = some res) : Met l wy_S_keepBest (wx_ws_S_keepBest) ({ frames := 1, cells := 0, slots := 0, locals := 60 }) (va_Pc [.ref (ad 68)] (wx_pre D ad cI cZ cJ cG σ sz)) (wx_Qv D ad cI cZ cJ cG res (va_A (wx_W ad cI cZ cJ cG σ) sz)) 0 0 (va_A (wx_W ad cI cZ cJ cG σ) sz) := by
  refine wx_ofW (cc := prog_5_method_5_code) (maxL := 1) (ret := none) (Qc := fun A => wx_Qv D ad cI cZ cJ cG res A) [.ref (ad 68)] (by decide) rfl (Nat.le_of_ble_eq_true rfl) ?_
  intro p e s m args below meth c A ls hin hl
  obtain ⟨hx, hb, hr, hts, hown, hlocks, hml, hA, hP, hK, hD, hC, hN, hS⟩ := hin
  have hl : lv_has ls 1 [(0, .ref (ad 68))] := hl
  unfold wf_S_keepBest at hf
  refine lv_aload_n hx hb wd_S_keepBest_0 rfl (lv_at hl 0 rfl) ?_
  refine lv_iconst (v := 1) hx hb wd_S_keepBest_1 (by decide) ?_
  refine wx_put (x := 1) (ty := .boolean) (C := "WidthCampaigns$Search") (T := wx_TS) (N' := 7) hx hb hts wi_S wx_tS wx_toS wx_nS hown hK hP hD hS 68 (by decide) (fun _ => rfl) rfl 5 (by decide) wt_200 (fun _ h9 => h9) rfl (by decide +kernel) narrow_b1 rfl (Nat.le_of_ble_eq_true rfl) rfl wd_S_keepBest_2 (fun σ1 H locs eσ1 hP hD hS => ?_)
  have hf := wc_st_e eσ1 hf
  refine lv_aload_n hx hb wd_S_keepBest_5 rfl (lv_at hl 0 rfl) ?_
  refine lv_aload_n hx hb wd_S_keepBest_6 rfl (lv_at hl 0 rfl) ?_
  refine wx_get (v := .ref (ad 30)) (C := "WidthCampaigns$Search") (T := wx_TS) (N' := 7) hx hb hts wi_S hown hK hP 68 (by decide) rfl rfl 1 (by decide) wt_195 (fun _ h9 => h9) rfl wd_S_keepBest_7 ?_
  obtain ⟨r3, σ2, hq, hf⟩ := wc_b2_e hf
  refine wx_calli (va_runVN (As := []) (rest := [.ref (ad 68)]) ⟨hx, hb, hml, hown, hts⟩ (wm_L_penaltySoFar l D ad cI cZ cJ cG _ 30 (Or.inl rfl) σ1 _ hq) (wx_cwN 0 hts wt_474 wt_473 wp_14 wt_5 (hN.1 _ (List.mem_of_getElem? (i := 17) rfl) #[]) wh_L_penaltySoFar rfl rfl ⟨Nat.le_of_ble_eq_true rfl, Nat.le_of_ble_eq_true rfl⟩) (wx_preV hK hP hD hS hA hC (by decide) rfl rfl) rfl rfl hl.1 rfl (lv_room (Nat.le_of_ble_eq_true rfl)) wd_S_keepBest_10 ⟨Nat.le_of_ble_eq_true rfl, Nat.le_of_ble_eq_true rfl⟩) hD hS hA (fun H locs hP hD hS => ?_)
  refine wx_put (x := r3) (ty := .int) (C := "WidthCampaigns$Search") (T := wx_TS) (N' := 7) hx hb hts wi_S wx_tS wx_toS wx_nS hown hK hP hD hS 68 (by decide) (fun _ => rfl) rfl 3 (by decide) wt_198 (fun _ h9 => h9) rfl (by decide +kernel) rfl rfl (Nat.le_of_ble_eq_true rfl) rfl wd_S_keepBest_13 (fun σ4 H locs eσ4 hP hD hS => ?_)
  have hf := wc_st_e eσ4 hf
  refine lv_aload_n hx hb wd_S_keepBest_16 rfl (lv_at hl 0 rfl) ?_
  refine wx_get (v := .ref (ad 30)) (C := "WidthCampaigns$Search") (T := wx_TS) (N' := 7) hx hb hts wi_S hown hK hP 68 (by decide) rfl rfl 1 (by decide) wt_195 (fun _ h9 => h9) rfl wd_S_keepBest_17 ?_
  refine wx_getN (v := .ref (ad 31)) (C := "WidthCampaigns$Line") (T := wx_TL) (N' := 10) hx hb hts wi_L hown hK hP 30 (by decide) rfl rfl 1 (by decide) (hN.1 _ (List.mem_of_getElem? (i := 18) rfl) #[]) (fun _ h9 => h9) rfl wd_S_keepBest_20 ?_
  refine lv_iconst (v := 0) hx hb wd_S_keepBest_23 (by decide) ?_
  refine lv_aload_n hx hb wd_S_keepBest_24 rfl (lv_at hl 0 rfl) ?_
  refine wx_get (v := .ref (ad 69)) (C := "WidthCampaigns$Search") (T := wx_TS) (N' := 7) hx hb hts wi_S hown hK hP 68 (by decide) rfl rfl 2 (by decide) wt_196 (fun _ h9 => h9) rfl wd_S_keepBest_25 ?_
  refine lv_iconst (v := 0) hx hb wd_S_keepBest_28 (by decide) ?_
  refine lv_aload_n hx hb wd_S_keepBest_29 rfl (lv_at hl 0 rfl) ?_
  refine wx_get (v := .ref (ad 1)) (C := "WidthCampaigns$Search") (T := wx_TS) (N' := 7) hx hb hts wi_S hown hK hP 68 (by decide) rfl rfl 0 (by decide) wt_194 (fun _ h9 => h9) rfl wd_S_keepBest_30 ?_
  refine wx_getN (v := .int (σ4 1 10)) (C := "WidthCampaigns$Plant") (T := wx_TP) (N' := 15) hx hb hts wi_P hown hK hP 1 (by decide) rfl rfl 10 (by decide) (hN.1 _ (List.mem_of_getElem? (i := 19) rfl) #[]) (fun _ h9 => h9) rfl wd_S_keepBest_33 ?_
  refine lv_topi (fun v5 ev5 => ?_)
  have hf := wc_st_e ev5 hf
  obtain ⟨h6, hf⟩ := wc_gd_e hf
  refine wx_copy hx hb (hml.trans hl.1.symm) hown (wx_hw hts wt_475) (wx_hw hts wt_477) (wx_hw hts wt_476) (wx_hw hts wt_15) hK hP hD hS 31 69 (by decide) (by decide) (fun _ => rfl) (fun _ => rfl) h6 (Nat.le_of_ble_eq_true rfl) (Nat.le_of_ble_eq_true rfl) wd_S_keepBest_36 (fun σ7 H locs eσ7 hP hD hS => ?_)
  have hf := wc_st_e eσ7 hf
  exact wx_vret hx hb hr hlocks hf hP hS wd_S_keepBest_39
set_option maxHeartbeats 4000000 in
set_option maxRecDepth 100000 in
theorem wm_S_putAndGoOn (l : Launch) (D : va_G) (ad : Nat → Nat) (cI cZ cJ cG : ClassId) (d : Nat) (g : Int32 → wc_S → Option wc_S) (hg : ∀ (sz : Nat) (a1 : Int32) (σ : wc_S) (res : wc_S), g a1 σ = some res → Met l wy_S_goOnAt (wx_ws_S_goOnAt) ({ frames := 2 * d + 3, cells := 0, slots := 0, locals := 44 * d + 80 }) (va_Pc [.ref (ad 68), .int a1] (wx_pre D ad cI cZ cJ cG σ sz)) (wx_Qv D ad cI cZ cJ cG res (va_A (wx_W ad cI cZ cJ cG σ) sz)) 0 0 (va_A (wx_W ad cI cZ cJ cG σ) sz)) (sz : Nat) (a1 : Int32) (a2 : Int32) (σ : wc_S) (res : wc_S) (hf : wf_S_putAndGoOn g a1 a2 σ = some res) : Met l wy_S_putAndGoOn (wx_ws_S_putAndGoOn) ({ frames := 2 * d + 4, cells := 0, slots := 0, locals := 44 * d + 102 }) (va_Pc [.ref (ad 68), .int a1, .int a2] (wx_pre D ad cI cZ cJ cG σ sz)) (wx_Qv D ad cI cZ cJ cG res (va_A (wx_W ad cI cZ cJ cG σ) sz)) 0 0 (va_A (wx_W ad cI cZ cJ cG σ) sz) := by
  refine wx_ofW (cc := prog_5_method_4_code) (maxL := 3) (ret := none) (Qc := fun A => wx_Qv D ad cI cZ cJ cG res A) [.ref (ad 68), .int a1, .int a2] (by decide) rfl (Nat.le_of_ble_eq_true rfl) ?_
  intro p e s m args below meth c A ls hin hl
  obtain ⟨hx, hb, hr, hts, hown, hlocks, hml, hA, hP, hK, hD, hC, hN, hS⟩ := hin
  have hl : lv_has ls 3 [(0, .ref (ad 68)), (1, .int a1), (2, .int a2)] := hl
  have J52 : ∀ (σ : wc_S), wf_S_putAndGoOn_52 g  σ = some res → wx_Arr p l e ({ frames := 2 * d + 4, cells := 0, slots := 0, locals := 44 * d + 102 }) s m args below meth c D ad cI cZ cJ cG A (MQ below (wx_Qv D ad cI cZ cJ cG res A) args s 0 0 A) 3 0 0 52 [(0, .ref (ad 68))] [] σ := by
    intro   σ hf H locs ls hP hD hS hl
    unfold wf_S_putAndGoOn_52 at hf
    refine lv_aload_n hx hb wd_S_putAndGoOn_52 rfl (lv_at hl 0 rfl) ?_
    refine wx_get (v := .ref (ad 30)) (C := "WidthCampaigns$Search") (T := wx_TS) (N' := 7) hx hb hts wi_S hown hK hP 68 (by decide) rfl rfl 1 (by decide) wt_195 (fun _ h9 => h9) rfl wd_S_putAndGoOn_53 ?_
    obtain ⟨σ11, hq, hf⟩ := wc_b1_e hf
    refine wx_callv (va_runVN (As := []) (rest := []) ⟨hx, hb, hml, hown, hts⟩ (wm_L_takeBack l D ad cI cZ cJ cG _ 30 (Or.inl rfl) σ _ hq) (wx_cwN 0 hts wt_513 wt_512 wp_23 wt_5 (hN.1 _ (List.mem_of_getElem? (i := 21) rfl) #[]) wh_L_takeBack rfl rfl ⟨by simp only []; omega, by simp only []; omega⟩) (wx_preV hK hP hD hS hA hC (by decide) rfl rfl) rfl rfl hl.1 rfl (lv_room (Nat.le_of_ble_eq_true rfl)) wd_S_putAndGoOn_56 ⟨Nat.le_of_ble_eq_true rfl, Nat.le_of_ble_eq_true rfl⟩) hD hS hA (fun H locs hP hD hS => ?_)
    exact wx_vret hx hb hr hlocks hf hP hS wd_S_putAndGoOn_59
  unfold wf_S_putAndGoOn at hf
  refine lv_aload_n hx hb wd_S_putAndGoOn_0 rfl (lv_at hl 0 rfl) ?_
  refine wx_get (v := .int (σ 68 4)) (C := "WidthCampaigns$Search") (T := wx_TS) (N' := 7) hx hb hts wi_S hown hK hP 68 (by decide) rfl rfl 4 (by decide) wt_199 (fun _ h9 => h9) rfl wd_S_putAndGoOn_1 ?_
  refine lv_topi (fun v1 ev1 => ?_)
  have hf := wc_st_e ev1 hf
  refine lv_if_gt (tgt := 13) hx hb wd_S_putAndGoOn_4 (by decide) (fun c2 => ?_) (fun c2 => ?_)
  · have hf := wc_t c2 hf
    refine lv_aload_n hx hb wd_S_putAndGoOn_13 rfl (lv_at hl 0 rfl) ?_
    refine lv_dup hx hb wd_S_putAndGoOn_14 rfl ?_
    refine wx_get (v := .int (σ 68 4)) (C := "WidthCampaigns$Search") (T := wx_TS) (N' := 7) hx hb hts wi_S hown hK hP 68 (by decide) rfl rfl 4 (by decide) wt_199 (fun _ h9 => h9) rfl wd_S_putAndGoOn_15 ?_
    refine lv_topi (fun v3 ev3 => ?_)
    have hf := wc_st_e ev3 hf
    refine lv_iconst (v := 1) hx hb wd_S_putAndGoOn_18 (by decide) ?_
    refine lv_isub hx hb wd_S_putAndGoOn_19 ?_
    refine lv_topi (fun v4 ev4 => ?_)
    have hf := wc_st_e ev4 hf
    refine wx_put (x := v4) (ty := .int) (C := "WidthCampaigns$Search") (T := wx_TS) (N' := 7) hx hb hts wi_S wx_tS wx_toS wx_nS hown hK hP hD hS 68 (by decide) (fun _ => rfl) rfl 4 (by decide) wt_199 (fun _ h9 => h9) rfl (by decide +kernel) rfl rfl (Nat.le_of_ble_eq_true rfl) rfl wd_S_putAndGoOn_20 (fun σ5 H locs eσ5 hP hD hS => ?_)
    have hf := wc_st_e eσ5 hf
    refine lv_aload_n hx hb wd_S_putAndGoOn_23 rfl (lv_at hl 0 rfl) ?_
    refine wx_get (v := .ref (ad 30)) (C := "WidthCampaigns$Search") (T := wx_TS) (N' := 7) hx hb hts wi_S hown hK hP 68 (by decide) rfl rfl 1 (by decide) wt_195 (fun _ h9 => h9) rfl wd_S_putAndGoOn_24 ?_
    refine lv_iload_n hx hb wd_S_putAndGoOn_27 rfl (lv_at hl 1 rfl) ?_
    obtain ⟨σ6, hq, hf⟩ := wc_b1_e hf
    refine wx_callv (va_runVN (As := [.int a1]) (rest := []) ⟨hx, hb, hml, hown, hts⟩ (wm_L_put l D ad cI cZ cJ cG _ 30 (Or.inl rfl) a1 σ5 _ hq) (wx_cwN 1 hts wt_493 wt_492 wp_18 wt_5 (hN.1 _ (List.mem_of_getElem? (i := 20) rfl) #[]) wh_L_put rfl rfl ⟨by simp only []; omega, by simp only []; omega⟩) (wx_preV hK hP hD hS hA hC (by decide) rfl rfl) rfl rfl hl.1 rfl (lv_room (Nat.le_of_ble_eq_true rfl)) wd_S_putAndGoOn_28 ⟨Nat.le_of_ble_eq_true rfl, Nat.le_of_ble_eq_true rfl⟩) hD hS hA (fun H locs hP hD hS => ?_)
    refine lv_aload_n hx hb wd_S_putAndGoOn_31 rfl (lv_at hl 0 rfl) ?_
    refine wx_get (v := .ref (ad 30)) (C := "WidthCampaigns$Search") (T := wx_TS) (N' := 7) hx hb hts wi_S hown hK hP 68 (by decide) rfl rfl 1 (by decide) wt_195 (fun _ h9 => h9) rfl wd_S_putAndGoOn_32 ?_
    obtain ⟨r8, σ7, hq, hf⟩ := wc_b2_e hf
    refine wx_calli (va_runVN (As := []) (rest := []) ⟨hx, hb, hml, hown, hts⟩ (wm_L_penaltySoFar l D ad cI cZ cJ cG _ 30 (Or.inl rfl) σ6 _ hq) (wx_cwN 0 hts wt_474 wt_473 wp_14 wt_5 (hN.1 _ (List.mem_of_getElem? (i := 17) rfl) #[]) wh_L_penaltySoFar rfl rfl ⟨by simp only []; omega, by simp only []; omega⟩) (wx_preV hK hP hD hS hA hC (by decide) rfl rfl) rfl rfl hl.1 rfl (lv_room (Nat.le_of_ble_eq_true rfl)) wd_S_putAndGoOn_35 ⟨Nat.le_of_ble_eq_true rfl, Nat.le_of_ble_eq_true rfl⟩) hD hS hA (fun H locs hP hD hS => ?_)
    refine lv_aload_n hx hb wd_S_putAndGoOn_38 rfl (lv_at hl 0 rfl) ?_
    refine wx_get (v := .int (σ7 68 3)) (C := "WidthCampaigns$Search") (T := wx_TS) (N' := 7) hx hb hts wi_S hown hK hP 68 (by decide) rfl rfl 3 (by decide) wt_198 (fun _ h9 => h9) rfl wd_S_putAndGoOn_39 ?_
    refine lv_topi (fun v9 ev9 => ?_)
    have hf := wc_st_e ev9 hf
    refine lv_icmp_ge (tgt := 52) hx hb wd_S_putAndGoOn_42 (by decide) (fun c10 => ?_) (fun c10 => ?_)
    · have hf := wc_t c10 hf
      exact J52  σ7 hf _ _ _ hP hD hS (lv_sub hl [0] rfl)
    · have hf := wc_f c10 hf
      refine lv_aload_n hx hb wd_S_putAndGoOn_45 rfl (lv_at hl 0 rfl) ?_
      refine lv_iload_n hx hb wd_S_putAndGoOn_46 rfl (lv_at hl 2 rfl) ?_
      refine lv_iconst (v := 1) hx hb wd_S_putAndGoOn_47 (by decide) ?_
      refine lv_iadd hx hb wd_S_putAndGoOn_48 ?_
      refine lv_topi (fun v12 ev12 => ?_)
      have hf := wc_st_e ev12 hf
      obtain ⟨σ13, hq, hf⟩ := wc_b1_e hf
      refine wx_callv (va_runV (As := [.int v12]) (rest := []) ⟨hx, hb, hml, hown, hts⟩ (hg _ v12 σ7 _ hq) (wx_cwV 1 hts wt_466 wt_465 wp_12 wt_6 wt_463 wh_S_goOnAt rfl rfl ⟨by simp only []; omega, by simp only []; omega⟩) (wx_preV hK hP hD hS hA hC (by decide) rfl rfl) rfl rfl hl.1 rfl (lv_room (Nat.le_of_ble_eq_true rfl)) wd_S_putAndGoOn_49 ⟨Nat.le_of_ble_eq_true rfl, Nat.le_of_ble_eq_true rfl⟩) hD hS hA (fun H locs hP hD hS => ?_)
      exact J52  σ13 hf _ _ _ hP hD hS (lv_sub hl [0] rfl)
  · have hf := wc_f c2 hf
    refine lv_aload_n hx hb wd_S_putAndGoOn_7 rfl (lv_at hl 0 rfl) ?_
    refine lv_iconst (v := 1) hx hb wd_S_putAndGoOn_8 (by decide) ?_
    refine wx_put (x := 1) (ty := .boolean) (C := "WidthCampaigns$Search") (T := wx_TS) (N' := 7) hx hb hts wi_S wx_tS wx_toS wx_nS hown hK hP hD hS 68 (by decide) (fun _ => rfl) rfl 6 (by decide) wt_202 (fun _ h9 => h9) rfl (by decide +kernel) narrow_b1 rfl (Nat.le_of_ble_eq_true rfl) rfl wd_S_putAndGoOn_9 (fun σ14 H locs eσ14 hP hD hS => ?_)
    have hf := wc_st_e eσ14 hf
    exact wx_vret hx hb hr hlocks hf hP hS wd_S_putAndGoOn_12
set_option maxHeartbeats 4000000 in
set_option maxRecDepth 100000 in
theorem wm_S_goOnAt_r (l : Launch) (D : va_G) (ad : Nat → Nat) (cI cZ cJ cG : ClassId) (d : Nat) (g : Int32 → wc_S → Option wc_S) (hg : ∀ (sz : Nat) (a1 : Int32) (σ : wc_S) (res : wc_S), g a1 σ = some res → Met l wy_S_goOnAt (wx_ws_S_goOnAt) ({ frames := 2 * d + 3, cells := 0, slots := 0, locals := 44 * d + 80 }) (va_Pc [.ref (ad 68), .int a1] (wx_pre D ad cI cZ cJ cG σ sz)) (wx_Qv D ad cI cZ cJ cG res (va_A (wx_W ad cI cZ cJ cG σ) sz)) 0 0 (va_A (wx_W ad cI cZ cJ cG σ) sz)) (sz : Nat) (a1 : Int32) (σ : wc_S) (res : wc_S) (hf : wf_S_goOnAt_r g a1 σ = some res) : Met l wy_S_goOnAt (wx_ws_S_goOnAt) ({ frames := 2 * (d + 1) + 3, cells := 0, slots := 0, locals := 44 * (d + 1) + 80 }) (va_Pc [.ref (ad 68), .int a1] (wx_pre D ad cI cZ cJ cG σ sz)) (wx_Qv D ad cI cZ cJ cG res (va_A (wx_W ad cI cZ cJ cG σ) sz)) 0 0 (va_A (wx_W ad cI cZ cJ cG σ) sz) := by
  refine wx_ofW (cc := prog_5_method_3_code) (maxL := 3) (ret := none) (Qc := fun A => wx_Qv D ad cI cZ cJ cG res A) [.ref (ad 68), .int a1] (by decide) rfl (Nat.le_of_ble_eq_true rfl) ?_
  intro p e s m args below meth c A ls hin hl
  obtain ⟨hx, hb, hr, hts, hown, hlocks, hml, hA, hP, hK, hD, hC, hN, hS⟩ := hin
  have hl : lv_has ls 3 [(0, .ref (ad 68)), (1, .int a1)] := hl
  have J53 : ∀ (k18 : Int32 → Int32 → wc_S → Option wc_S) (hk18 : (∀ (x1 : Int32) (x2 : Int32) (σ : wc_S), k18 x1 x2 σ = some res → wx_Arr p l e ({ frames := 2 * (d + 1) + 3, cells := 0, slots := 0, locals := 44 * (d + 1) + 80 }) s m args below meth c D ad cI cZ cJ cG A (MQ below (wx_Qv D ad cI cZ cJ cG res A) args s 0 0 A) 3 0 0 18 [(0, .ref (ad 68)), (1, .int x1), (2, .int x2)] [] σ)) (x1 : Int32) (x2 : Int32) (σ : wc_S), wf_S_goOnAt_53 g k18 x1 x2 σ = some res → wx_Arr p l e ({ frames := 2 * (d + 1) + 3, cells := 0, slots := 0, locals := 44 * (d + 1) + 80 }) s m args below meth c D ad cI cZ cJ cG A (MQ below (wx_Qv D ad cI cZ cJ cG res A) args s 0 0 A) 3 0 0 53 [(0, .ref (ad 68)), (1, .int x1), (2, .int x2)] [] σ := by
    intro k18 hk18 x1 x2 σ hf H locs ls hP hD hS hl
    unfold wf_S_goOnAt_53 at hf
    obtain ⟨v10, ev10⟩ : ∃ y : Int32, y = x2 + 1 := ⟨_, rfl⟩
    have hf := wc_st_e ev10 hf
    refine lv_iinc (v := v10) (lv' := [(2, .int v10), (0, .ref (ad 68)), (1, .int x1)]) hx hb wd_S_goOnAt_53 hl (k := 2) rfl (by rw [ev10]; rfl) (by decide) rfl (fun ls hl => ?_)
    refine lv_goto (tgt := 18) hx hb wd_S_goOnAt_56 (by decide) ?_
    exact hk18 x1 v10 σ hf _ _ _ hP hD hS (lv_sub hl [1, 2, 0] rfl)
  have J18 : ∀ (n : Nat) (x1 : Int32) (x2 : Int32) (σ : wc_S), wf_S_goOnAt_18 g n x1 x2 σ = some res → wx_Arr p l e ({ frames := 2 * (d + 1) + 3, cells := 0, slots := 0, locals := 44 * (d + 1) + 80 }) s m args below meth c D ad cI cZ cJ cG A (MQ below (wx_Qv D ad cI cZ cJ cG res A) args s 0 0 A) 3 0 0 18 [(0, .ref (ad 68)), (1, .int x1), (2, .int x2)] [] σ := by
    intro  n
    induction n with
    | zero => intro x1 x2 σ hf; exact absurd hf (by intro h9; cases h9)
    | succ n hk18 =>
      intro x1 x2 σ hf H locs ls hP hD hS hl
      have hf : wf_S_goOnAt_18_b g (wf_S_goOnAt_18 g n) x1 x2 σ = some res := hf
      unfold wf_S_goOnAt_18_b at hf
      refine lv_iload_n hx hb wd_S_goOnAt_18 rfl (lv_at hl 2 rfl) ?_
      refine lv_aload_n hx hb wd_S_goOnAt_19 rfl (lv_at hl 0 rfl) ?_
      refine wx_get (v := .ref (ad 1)) (C := "WidthCampaigns$Search") (T := wx_TS) (N' := 7) hx hb hts wi_S hown hK hP 68 (by decide) rfl rfl 0 (by decide) wt_194 (fun _ h9 => h9) rfl wd_S_goOnAt_20 ?_
      refine wx_getN (v := .int (σ 1 10)) (C := "WidthCampaigns$Plant") (T := wx_TP) (N' := 15) hx hb hts wi_P hown hK hP 1 (by decide) rfl rfl 10 (by decide) (hN.1 _ (List.mem_of_getElem? (i := 19) rfl) #[]) (fun _ h9 => h9) rfl wd_S_goOnAt_23 ?_
      refine lv_topi (fun v3 ev3 => ?_)
      have hf := wc_st_e ev3 hf
      refine lv_icmp_ge (tgt := 59) hx hb wd_S_goOnAt_26 (by decide) (fun c4 => ?_) (fun c4 => ?_)
      · have hf := wc_t c4 hf
        exact wx_vret hx hb hr hlocks hf hP hS wd_S_goOnAt_59
      · have hf := wc_f c4 hf
        refine lv_aload_n hx hb wd_S_goOnAt_29 rfl (lv_at hl 0 rfl) ?_
        refine wx_get (v := .int (σ 68 6)) (C := "WidthCampaigns$Search") (T := wx_TS) (N' := 7) hx hb hts wi_S hown hK hP 68 (by decide) rfl rfl 6 (by decide) wt_202 (fun _ h9 => h9) rfl wd_S_goOnAt_30 ?_
        refine lv_topi (fun v5 ev5 => ?_)
        have hf := wc_st_e ev5 hf
        refine lv_if_ne (tgt := 59) hx hb wd_S_goOnAt_33 (by decide) (fun c6 => ?_) (fun c6 => ?_)
        · have hf := wc_f c6 hf
          exact wx_vret hx hb hr hlocks hf hP hS wd_S_goOnAt_59
        · have hf := wc_t c6 hf
          refine lv_aload_n hx hb wd_S_goOnAt_36 rfl (lv_at hl 0 rfl) ?_
          refine wx_get (v := .ref (ad 30)) (C := "WidthCampaigns$Search") (T := wx_TS) (N' := 7) hx hb hts wi_S hown hK hP 68 (by decide) rfl rfl 1 (by decide) wt_195 (fun _ h9 => h9) rfl wd_S_goOnAt_37 ?_
          refine lv_iload_n hx hb wd_S_goOnAt_40 rfl (lv_at hl 2 rfl) ?_
          obtain ⟨r8, σ7, hq, hf⟩ := wc_b2_e hf
          refine wx_calli (va_runVN (As := [.int x2]) (rest := []) ⟨hx, hb, hml, hown, hts⟩ (wm_L_mayPut l D ad cI cZ cJ cG _ 30 (Or.inl rfl) x2 σ _ hq) (wx_cwN 1 hts wt_481 wt_480 wp_15 wt_5 (hN.1 _ (List.mem_of_getElem? (i := 22) rfl) #[]) wh_L_mayPut rfl rfl ⟨by simp only []; omega, by simp only []; omega⟩) (wx_preV hK hP hD hS hA hC (by decide) rfl rfl) rfl rfl hl.1 rfl (lv_room (Nat.le_of_ble_eq_true rfl)) wd_S_goOnAt_41 ⟨Nat.le_of_ble_eq_true rfl, Nat.le_of_ble_eq_true rfl⟩) hD hS hA (fun H locs hP hD hS => ?_)
          refine lv_if_eq (tgt := 53) hx hb wd_S_goOnAt_44 (by decide) (fun c9 => ?_) (fun c9 => ?_)
          · have hf := wc_t c9 hf
            exact J53 (wf_S_goOnAt_18 g n) hk18 x1 x2 σ7 hf _ _ _ hP hD hS (lv_sub hl [0, 1, 2] rfl)
          · have hf := wc_f c9 hf
            refine lv_aload_n hx hb wd_S_goOnAt_47 rfl (lv_at hl 0 rfl) ?_
            refine lv_iload_n hx hb wd_S_goOnAt_48 rfl (lv_at hl 2 rfl) ?_
            refine lv_iload_n hx hb wd_S_goOnAt_49 rfl (lv_at hl 1 rfl) ?_
            obtain ⟨σ11, hq, hf⟩ := wc_b1_e hf
            refine wx_callv (va_runV (As := [.int x2, .int x1]) (rest := []) ⟨hx, hb, hml, hown, hts⟩ (wm_S_putAndGoOn l D ad cI cZ cJ cG d g hg _ x2 x1 σ7 _ hq) (wx_cwV 2 hts wt_489 wt_488 wp_17 wt_6 wt_486 wh_S_putAndGoOn rfl rfl ⟨by simp only []; omega, by simp only []; omega⟩) (wx_preV hK hP hD hS hA hC (by decide) rfl rfl) rfl rfl hl.1 rfl (lv_room (Nat.le_of_ble_eq_true rfl)) wd_S_goOnAt_50 ⟨Nat.le_of_ble_eq_true rfl, Nat.le_of_ble_eq_true rfl⟩) hD hS hA (fun H locs hP hD hS => ?_)
            exact J53 (wf_S_goOnAt_18 g n) hk18 x1 x2 σ11 hf _ _ _ hP hD hS (lv_sub hl [0, 1, 2] rfl)
  unfold wf_S_goOnAt_r at hf
  refine lv_iload_n hx hb wd_S_goOnAt_0 rfl (lv_at hl 1 rfl) ?_
  refine lv_aload_n hx hb wd_S_goOnAt_1 rfl (lv_at hl 0 rfl) ?_
  refine wx_get (v := .ref (ad 1)) (C := "WidthCampaigns$Search") (T := wx_TS) (N' := 7) hx hb hts wi_S hown hK hP 68 (by decide) rfl rfl 0 (by decide) wt_194 (fun _ h9 => h9) rfl wd_S_goOnAt_2 ?_
  refine wx_getN (v := .int (σ 1 10)) (C := "WidthCampaigns$Plant") (T := wx_TP) (N' := 15) hx hb hts wi_P hown hK hP 1 (by decide) rfl rfl 10 (by decide) (hN.1 _ (List.mem_of_getElem? (i := 19) rfl) #[]) (fun _ h9 => h9) rfl wd_S_goOnAt_5 ?_
  refine lv_topi (fun v1 ev1 => ?_)
  have hf := wc_st_e ev1 hf
  refine lv_icmp_lt (tgt := 16) hx hb wd_S_goOnAt_8 (by decide) (fun c2 => ?_) (fun c2 => ?_)
  · have hf := wc_t c2 hf
    refine lv_iconst (v := 0) hx hb wd_S_goOnAt_16 (by decide) ?_
    refine lv_istore_n (lv' := [(2, .int 0), (0, .ref (ad 68)), (1, .int a1)]) hx hb wd_S_goOnAt_17 rfl hl (by decide) rfl (fun ls hl => ?_)
    exact J18 16 a1 0 σ hf _ _ _ hP hD hS (lv_sub hl [1, 2, 0] rfl)
  · have hf := wc_f c2 hf
    refine lv_aload_n hx hb wd_S_goOnAt_11 rfl (lv_at hl 0 rfl) ?_
    obtain ⟨σ12, hq, hf⟩ := wc_b1_e hf
    refine wx_callv (va_runV (As := []) (rest := []) ⟨hx, hb, hml, hown, hts⟩ (wm_S_keepBest l D ad cI cZ cJ cG _ σ _ hq) (wx_cwV 0 hts wt_470 wt_469 wp_13 wt_6 wt_467 wh_S_keepBest rfl rfl ⟨by simp only []; omega, by simp only []; omega⟩) (wx_preV hK hP hD hS hA hC (by decide) rfl rfl) rfl rfl hl.1 rfl (lv_room (Nat.le_of_ble_eq_true rfl)) wd_S_goOnAt_12 ⟨Nat.le_of_ble_eq_true rfl, Nat.le_of_ble_eq_true rfl⟩) hD hS hA (fun H locs hP hD hS => ?_)
    exact wx_vret hx hb hr hlocks hf hP hS wd_S_goOnAt_15
theorem wm_S_goOnAt (l : Launch) (D : va_G) (ad : Nat → Nat) (cI cZ cJ cG : ClassId) (d : Nat) : ∀ (sz : Nat) (a1 : Int32) (σ : wc_S) (res : wc_S), wf_S_goOnAt d a1 σ = some res → Met l wy_S_goOnAt (wx_ws_S_goOnAt) ({ frames := 2 * d + 3, cells := 0, slots := 0, locals := 44 * d + 80 }) (va_Pc [.ref (ad 68), .int a1] (wx_pre D ad cI cZ cJ cG σ sz)) (wx_Qv D ad cI cZ cJ cG res (va_A (wx_W ad cI cZ cJ cG σ) sz)) 0 0 (va_A (wx_W ad cI cZ cJ cG σ) sz) := by
  induction d with
  | zero => intro sz a1 σ res hf; exact absurd hf (by intro h9; cases h9)
  | succ d ih => intro sz a1 σ res hf; exact wm_S_goOnAt_r l D ad cI cZ cJ cG d (wf_S_goOnAt d) ih sz a1 σ res hf
set_option maxHeartbeats 4000000 in
set_option maxRecDepth 100000 in
theorem wm_S_searchWith (l : Launch) (D : va_G) (ad : Nat → Nat) (cI cZ cJ cG : ClassId) (sz : Nat) (a1 : Int32) (σ : wc_S) (res : wc_S) (hf : wf_S_searchWith a1 σ = some res) : Met l wy_S_searchWith (wx_ws_S_searchWith) ({ frames := 26, cells := 0, slots := 0, locals := 586 }) (va_Pc [.ref (ad 68), .int a1] (wx_pre D ad cI cZ cJ cG σ sz)) (wx_Qv D ad cI cZ cJ cG res (va_A (wx_W ad cI cZ cJ cG σ) sz)) 0 0 (va_A (wx_W ad cI cZ cJ cG σ) sz) := by
  refine wx_ofW (cc := prog_5_method_2_code) (maxL := 2) (ret := none) (Qc := fun A => wx_Qv D ad cI cZ cJ cG res A) [.ref (ad 68), .int a1] (by decide) rfl (Nat.le_of_ble_eq_true rfl) ?_
  intro p e s m args below meth c A ls hin hl
  obtain ⟨hx, hb, hr, hts, hown, hlocks, hml, hA, hP, hK, hD, hC, hN, hS⟩ := hin
  have hl : lv_has ls 2 [(0, .ref (ad 68)), (1, .int a1)] := hl
  unfold wf_S_searchWith at hf
  refine lv_aload_n hx hb wd_S_searchWith_0 rfl (lv_at hl 0 rfl) ?_
  refine lv_iload_n hx hb wd_S_searchWith_1 rfl (lv_at hl 1 rfl) ?_
  refine wx_put (x := a1) (ty := .int) (C := "WidthCampaigns$Search") (T := wx_TS) (N' := 7) hx hb hts wi_S wx_tS wx_toS wx_nS hown hK hP hD hS 68 (by decide) (fun _ => rfl) rfl 4 (by decide) wt_199 (fun _ h9 => h9) rfl (by decide +kernel) rfl rfl (Nat.le_of_ble_eq_true rfl) rfl wd_S_searchWith_2 (fun σ1 H locs eσ1 hP hD hS => ?_)
  have hf := wc_st_e eσ1 hf
  refine lv_aload_n hx hb wd_S_searchWith_5 rfl (lv_at hl 0 rfl) ?_
  refine lv_ldc (v := 2147483647) hx hb hown (wx_hw hts wt_458) wd_S_searchWith_6 ?_
  refine wx_put (x := 2147483647) (ty := .int) (C := "WidthCampaigns$Search") (T := wx_TS) (N' := 7) hx hb hts wi_S wx_tS wx_toS wx_nS hown hK hP hD hS 68 (by decide) (fun _ => rfl) rfl 3 (by decide) wt_198 (fun _ h9 => h9) rfl (by decide +kernel) rfl rfl (Nat.le_of_ble_eq_true rfl) rfl wd_S_searchWith_8 (fun σ2 H locs eσ2 hP hD hS => ?_)
  have hf := wc_st_e eσ2 hf
  refine lv_aload_n hx hb wd_S_searchWith_11 rfl (lv_at hl 0 rfl) ?_
  refine lv_iconst (v := 0) hx hb wd_S_searchWith_12 (by decide) ?_
  refine wx_put (x := 0) (ty := .boolean) (C := "WidthCampaigns$Search") (T := wx_TS) (N' := 7) hx hb hts wi_S wx_tS wx_toS wx_nS hown hK hP hD hS 68 (by decide) (fun _ => rfl) rfl 5 (by decide) wt_200 (fun _ h9 => h9) rfl (by decide +kernel) narrow_b0 rfl (Nat.le_of_ble_eq_true rfl) rfl wd_S_searchWith_13 (fun σ3 H locs eσ3 hP hD hS => ?_)
  have hf := wc_st_e eσ3 hf
  refine lv_aload_n hx hb wd_S_searchWith_16 rfl (lv_at hl 0 rfl) ?_
  refine lv_iconst (v := 0) hx hb wd_S_searchWith_17 (by decide) ?_
  refine wx_put (x := 0) (ty := .boolean) (C := "WidthCampaigns$Search") (T := wx_TS) (N' := 7) hx hb hts wi_S wx_tS wx_toS wx_nS hown hK hP hD hS 68 (by decide) (fun _ => rfl) rfl 6 (by decide) wt_202 (fun _ h9 => h9) rfl (by decide +kernel) narrow_b0 rfl (Nat.le_of_ble_eq_true rfl) rfl wd_S_searchWith_18 (fun σ4 H locs eσ4 hP hD hS => ?_)
  have hf := wc_st_e eσ4 hf
  refine lv_aload_n hx hb wd_S_searchWith_21 rfl (lv_at hl 0 rfl) ?_
  refine wx_get (v := .ref (ad 30)) (C := "WidthCampaigns$Search") (T := wx_TS) (N' := 7) hx hb hts wi_S hown hK hP 68 (by decide) rfl rfl 1 (by decide) wt_195 (fun _ h9 => h9) rfl wd_S_searchWith_22 ?_
  obtain ⟨σ5, hq, hf⟩ := wc_b1_e hf
  refine wx_callv (va_runVN (As := []) (rest := []) ⟨hx, hb, hml, hown, hts⟩ (wm_L_clear l D ad cI cZ cJ cG _ 30 (Or.inl rfl) σ4 _ hq) (wx_cwN 0 hts wt_462 wt_461 wp_11 wt_5 (hN.1 _ (List.mem_of_getElem? (i := 23) rfl) #[]) wh_L_clear rfl rfl ⟨Nat.le_of_ble_eq_true rfl, Nat.le_of_ble_eq_true rfl⟩) (wx_preV hK hP hD hS hA hC (by decide) rfl rfl) rfl rfl hl.1 rfl (lv_room (Nat.le_of_ble_eq_true rfl)) wd_S_searchWith_25 ⟨Nat.le_of_ble_eq_true rfl, Nat.le_of_ble_eq_true rfl⟩) hD hS hA (fun H locs hP hD hS => ?_)
  refine lv_aload_n hx hb wd_S_searchWith_28 rfl (lv_at hl 0 rfl) ?_
  refine lv_iconst (v := 0) hx hb wd_S_searchWith_29 (by decide) ?_
  obtain ⟨σ6, hq, hf⟩ := wc_b1_e hf
  refine wx_callv (va_runV (As := [.int 0]) (rest := []) ⟨hx, hb, hml, hown, hts⟩ (wm_S_goOnAt l D ad cI cZ cJ cG 11 _ 0 σ5 _ hq) (wx_cwV 1 hts wt_466 wt_465 wp_12 wt_6 wt_463 wh_S_goOnAt rfl rfl ⟨Nat.le_of_ble_eq_true rfl, Nat.le_of_ble_eq_true rfl⟩) (wx_preV hK hP hD hS hA hC (by decide) rfl rfl) rfl rfl hl.1 rfl (lv_room (Nat.le_of_ble_eq_true rfl)) wd_S_searchWith_30 ⟨Nat.le_of_ble_eq_true rfl, Nat.le_of_ble_eq_true rfl⟩) hD hS hA (fun H locs hP hD hS => ?_)
  exact wx_vret hx hb hr hlocks hf hP hS wd_S_searchWith_33
set_option maxHeartbeats 4000000 in
set_option maxRecDepth 100000 in
theorem wm_W_isOutside (l : Launch) (D : va_G) (ad : Nat → Nat) (cI cZ cJ cG : ClassId) (sz : Nat) (a0 : Int32) (a1 : Int32) (a2 : Int32) (σ : wc_S) (res : Int32 × wc_S) (hf : wf_W_isOutside a0 a1 a2 σ = some res) : Met l wy_W_isOutside (wx_ws_W_isOutside) ({ frames := 0, cells := 0, slots := 0, locals := 0 }) (va_Pc [.int a0, .int a1, .int a2] (wx_pre D ad cI cZ cJ cG σ sz)) (wx_Qi D ad cI cZ cJ cG res (va_A (wx_W ad cI cZ cJ cG σ) sz)) 0 0 (va_A (wx_W ad cI cZ cJ cG σ) sz) := by
  refine wx_ofW (cc := prog_1_method_17_code) (maxL := 3) (ret := (some .boolean)) (Qc := fun A => wx_Qi D ad cI cZ cJ cG res A) [.int a0, .int a1, .int a2] (by decide) rfl (Nat.le_of_ble_eq_true rfl) ?_
  intro p e s m args below meth c A ls hin hl
  obtain ⟨hx, hb, hr, hts, hown, hlocks, hml, hA, hP, hK, hD, hC, hN, hS⟩ := hin
  have hl : lv_has ls 3 [(0, .int a0), (1, .int a1), (2, .int a2)] := hl
  unfold wf_W_isOutside at hf
  refine lv_iload_n hx hb wd_W_isOutside_0 rfl (lv_at hl 0 rfl) ?_
  refine lv_iload_n hx hb wd_W_isOutside_1 rfl (lv_at hl 1 rfl) ?_
  refine lv_icmp_lt (tgt := 10) hx hb wd_W_isOutside_2 (by decide) (fun c1 => ?_) (fun c1 => ?_)
  · have hf := wc_t c1 hf
    refine lv_iconst (v := 1) hx hb wd_W_isOutside_10 (by decide) ?_
    refine lv_goto (tgt := 15) hx hb wd_W_isOutside_11 (by decide) ?_
    exact wx_zret hx hb hr narrow_b1 hlocks hf hP hS wd_W_isOutside_15
  · have hf := wc_f c1 hf
    refine lv_iload_n hx hb wd_W_isOutside_5 rfl (lv_at hl 0 rfl) ?_
    refine lv_iload_n hx hb wd_W_isOutside_6 rfl (lv_at hl 2 rfl) ?_
    refine lv_icmp_le (tgt := 14) hx hb wd_W_isOutside_7 (by decide) (fun c2 => ?_) (fun c2 => ?_)
    · have hf := wc_t c2 hf
      refine lv_iconst (v := 0) hx hb wd_W_isOutside_14 (by decide) ?_
      exact wx_zret hx hb hr narrow_b0 hlocks hf hP hS wd_W_isOutside_15
    · have hf := wc_f c2 hf
      refine lv_iconst (v := 1) hx hb wd_W_isOutside_10 (by decide) ?_
      refine lv_goto (tgt := 15) hx hb wd_W_isOutside_11 (by decide) ?_
      exact wx_zret hx hb hr narrow_b1 hlocks hf hP hS wd_W_isOutside_15
set_option maxHeartbeats 4000000 in
set_option maxRecDepth 100000 in
theorem wm_W_isNoCoil (l : Launch) (D : va_G) (ad : Nat → Nat) (cI cZ cJ cG : ClassId) (sz : Nat) (a1 : Int32) (σ : wc_S) (res : Int32 × wc_S) (hf : wf_W_isNoCoil a1 σ = some res) : Met l wy_W_isNoCoil (wx_ws_W_isNoCoil) ({ frames := 0, cells := 0, slots := 0, locals := 0 }) (va_Pc [.ref (ad 0), .int a1] (wx_pre D ad cI cZ cJ cG σ sz)) (wx_Qi D ad cI cZ cJ cG res (va_A (wx_W ad cI cZ cJ cG σ) sz)) 0 0 (va_A (wx_W ad cI cZ cJ cG σ) sz) := by
  refine wx_ofW (cc := prog_1_method_18_code) (maxL := 2) (ret := (some .boolean)) (Qc := fun A => wx_Qi D ad cI cZ cJ cG res A) [.ref (ad 0), .int a1] (by decide) rfl (Nat.le_of_ble_eq_true rfl) ?_
  intro p e s m args below meth c A ls hin hl
  obtain ⟨hx, hb, hr, hts, hown, hlocks, hml, hA, hP, hK, hD, hC, hN, hS⟩ := hin
  have hl : lv_has ls 2 [(0, .ref (ad 0)), (1, .int a1)] := hl
  unfold wf_W_isNoCoil at hf
  refine lv_iload_n hx hb wd_W_isNoCoil_0 rfl (lv_at hl 1 rfl) ?_
  refine lv_if_lt (tgt := 15) hx hb wd_W_isNoCoil_1 (by decide) (fun c1 => ?_) (fun c1 => ?_)
  · have hf := wc_t c1 hf
    refine lv_iconst (v := 1) hx hb wd_W_isNoCoil_15 (by decide) ?_
    refine lv_goto (tgt := 20) hx hb wd_W_isNoCoil_16 (by decide) ?_
    exact wx_zret hx hb hr narrow_b1 hlocks hf hP hS wd_W_isNoCoil_20
  · have hf := wc_f c1 hf
    refine lv_iload_n hx hb wd_W_isNoCoil_4 rfl (lv_at hl 1 rfl) ?_
    refine lv_aload_n hx hb wd_W_isNoCoil_5 rfl (lv_at hl 0 rfl) ?_
    refine wx_get (v := .ref (ad 1)) (C := "WidthCampaigns") (T := wx_TW) (N' := 7) hx hb hts wi_W hown hK hP 0 (by decide) rfl rfl 0 (by decide) wt_219 (fun _ h9 => h9) rfl wd_W_isNoCoil_6 ?_
    refine wx_getN (v := .int (σ 1 10)) (C := "WidthCampaigns$Plant") (T := wx_TP) (N' := 15) hx hb hts wi_P hown hK hP 1 (by decide) rfl rfl 10 (by decide) (hN.1 _ (List.mem_of_getElem? (i := 24) rfl) #[]) (fun _ h9 => h9) rfl wd_W_isNoCoil_9 ?_
    refine lv_topi (fun v2 ev2 => ?_)
    have hf := wc_st_e ev2 hf
    refine lv_icmp_lt (tgt := 19) hx hb wd_W_isNoCoil_12 (by decide) (fun c3 => ?_) (fun c3 => ?_)
    · have hf := wc_t c3 hf
      refine lv_iconst (v := 0) hx hb wd_W_isNoCoil_19 (by decide) ?_
      exact wx_zret hx hb hr narrow_b0 hlocks hf hP hS wd_W_isNoCoil_20
    · have hf := wc_f c3 hf
      refine lv_iconst (v := 1) hx hb wd_W_isNoCoil_15 (by decide) ?_
      refine lv_goto (tgt := 20) hx hb wd_W_isNoCoil_16 (by decide) ?_
      exact wx_zret hx hb hr narrow_b1 hlocks hf hP hS wd_W_isNoCoil_20
set_option maxHeartbeats 4000000 in
set_option maxRecDepth 100000 in
theorem wm_W_forgetOrder (l : Launch) (D : va_G) (ad : Nat → Nat) (cI cZ cJ cG : ClassId) (sz : Nat) (σ : wc_S) (res : wc_S) (hf : wf_W_forgetOrder  σ = some res) : Met l wy_W_forgetOrder (wx_ws_W_forgetOrder) ({ frames := 0, cells := 0, slots := 0, locals := 0 }) (va_Pc [.ref (ad 0)] (wx_pre D ad cI cZ cJ cG σ sz)) (wx_Qv D ad cI cZ cJ cG res (va_A (wx_W ad cI cZ cJ cG σ) sz)) 0 0 (va_A (wx_W ad cI cZ cJ cG σ) sz) := by
  refine wx_ofW (cc := prog_1_method_19_code) (maxL := 1) (ret := none) (Qc := fun A => wx_Qv D ad cI cZ cJ cG res A) [.ref (ad 0)] (by decide) rfl (Nat.le_of_ble_eq_true rfl) ?_
  intro p e s m args below meth c A ls hin hl
  obtain ⟨hx, hb, hr, hts, hown, hlocks, hml, hA, hP, hK, hD, hC, hN, hS⟩ := hin
  have hl : lv_has ls 1 [(0, .ref (ad 0))] := hl
  unfold wf_W_forgetOrder at hf
  refine lv_aload_n hx hb wd_W_forgetOrder_0 rfl (lv_at hl 0 rfl) ?_
  refine lv_iconst (v := 0) hx hb wd_W_forgetOrder_1 (by decide) ?_
  refine wx_put (x := 0) (ty := .boolean) (C := "WidthCampaigns") (T := wx_TW) (N' := 7) hx hb hts wi_W wx_tW wx_toW wx_nW hown hK hP hD hS 0 (by decide) (fun _ => rfl) rfl 5 (by decide) wt_224 (fun _ h9 => h9) rfl (by decide +kernel) narrow_b0 rfl (Nat.le_of_ble_eq_true rfl) rfl wd_W_forgetOrder_2 (fun σ1 H locs eσ1 hP hD hS => ?_)
  have hf := wc_st_e eσ1 hf
  refine lv_aload_n hx hb wd_W_forgetOrder_5 rfl (lv_at hl 0 rfl) ?_
  refine lv_iconst (v := 0) hx hb wd_W_forgetOrder_6 (by decide) ?_
  refine wx_put (x := 0) (ty := .boolean) (C := "WidthCampaigns") (T := wx_TW) (N' := 7) hx hb hts wi_W wx_tW wx_toW wx_nW hown hK hP hD hS 0 (by decide) (fun _ => rfl) rfl 6 (by decide) wt_225 (fun _ h9 => h9) rfl (by decide +kernel) narrow_b0 rfl (Nat.le_of_ble_eq_true rfl) rfl wd_W_forgetOrder_7 (fun σ2 H locs eσ2 hP hD hS => ?_)
  have hf := wc_st_e eσ2 hf
  exact wx_vret hx hb hr hlocks hf hP hS wd_W_forgetOrder_10
set_option maxHeartbeats 4000000 in
set_option maxRecDepth 100000 in
theorem wm_W_readIntoScratch (l : Launch) (D : va_G) (ad : Nat → Nat) (cI cZ cJ cG : ClassId) (sz : Nat) (a1 : Int64) (σ : wc_S) (res : Int32 × wc_S) (hf : wf_W_readIntoScratch a1 σ = some res) : Met l wy_W_readIntoScratch (wx_ws_W_readIntoScratch) ({ frames := 1, cells := 0, slots := 0, locals := 21 }) (va_Pc [.ref (ad 0), .long a1] (wx_pre D ad cI cZ cJ cG σ sz)) (wx_Qi D ad cI cZ cJ cG res (va_A (wx_W ad cI cZ cJ cG σ) sz)) 0 0 (va_A (wx_W ad cI cZ cJ cG σ) sz) := by
  refine wx_ofW (cc := prog_1_method_22_code) (maxL := 6) (ret := (some .boolean)) (Qc := fun A => wx_Qi D ad cI cZ cJ cG res A) [.ref (ad 0), .long a1] (by decide) rfl (Nat.le_of_ble_eq_true rfl) ?_
  intro p e s m args below meth c A ls hin hl
  obtain ⟨hx, hb, hr, hts, hown, hlocks, hml, hA, hP, hK, hD, hC, hN, hS⟩ := hin
  have hl : lv_has ls 6 [(0, .ref (ad 0)), (1, .long a1)] := hl
  have J5 : ∀ (n : Nat) (x1 : Int64) (x3 : Int32) (x4 : Int32) (σ : wc_S), wf_W_readIntoScratch_5 n x1 x3 x4 σ = some res → wx_Arr p l e ({ frames := 1, cells := 0, slots := 0, locals := 21 }) s m args below meth c D ad cI cZ cJ cG A (MQ below (wx_Qi D ad cI cZ cJ cG res A) args s 0 0 A) 6 0 0 5 [(0, .ref (ad 0)), (1, .long x1), (3, .int x3), (4, .int x4)] [] σ := by
    intro  n
    induction n with
    | zero => intro x1 x3 x4 σ hf; exact absurd hf (by intro h9; cases h9)
    | succ n hk5 =>
      intro x1 x3 x4 σ hf H locs ls hP hD hS hl
      have hf : wf_W_readIntoScratch_5_b (wf_W_readIntoScratch_5 n) x1 x3 x4 σ = some res := hf
      unfold wf_W_readIntoScratch_5_b at hf
      refine lv_iload hx hb wd_W_readIntoScratch_5 (lv_at hl 3 rfl) ?_
      refine lv_aload_n hx hb wd_W_readIntoScratch_7 rfl (lv_at hl 0 rfl) ?_
      refine wx_get (v := .ref (ad 1)) (C := "WidthCampaigns") (T := wx_TW) (N' := 7) hx hb hts wi_W hown hK hP 0 (by decide) rfl rfl 0 (by decide) wt_219 (fun _ h9 => h9) rfl wd_W_readIntoScratch_8 ?_
      refine wx_getN (v := .int (σ 1 10)) (C := "WidthCampaigns$Plant") (T := wx_TP) (N' := 15) hx hb hts wi_P hown hK hP 1 (by decide) rfl rfl 10 (by decide) (hN.1 _ (List.mem_of_getElem? (i := 24) rfl) #[]) (fun _ h9 => h9) rfl wd_W_readIntoScratch_11 ?_
      refine lv_topi (fun v1 ev1 => ?_)
      have hf := wc_st_e ev1 hf
      refine lv_icmp_ge (tgt := 72) hx hb wd_W_readIntoScratch_14 (by decide) (fun c2 => ?_) (fun c2 => ?_)
      · have hf := wc_t c2 hf
        refine lv_iconst (v := 1) hx hb wd_W_readIntoScratch_72 (by decide) ?_
        exact wx_zret hx hb hr narrow_b1 hlocks hf hP hS wd_W_readIntoScratch_73
      · have hf := wc_f c2 hf
        refine lv_lload_n hx hb wd_W_readIntoScratch_17 rfl (lv_at hl 1 rfl) ?_
        refine lv_iconst (v := 4) hx hb wd_W_readIntoScratch_18 (by decide) ?_
        refine lv_iload hx hb wd_W_readIntoScratch_19 (lv_at hl 3 rfl) ?_
        refine lv_imul hx hb wd_W_readIntoScratch_21 ?_
        refine lv_topi (fun v3 ev3 => ?_)
        have hf := wc_st_e ev3 hf
        refine lv_lushr hx hb wd_W_readIntoScratch_22 rfl ?_
        refine lv_topl (fun v4 ev4 => ?_)
        have hf := wc_st_e ev4 hf
        refine lv_l2i hx hb wd_W_readIntoScratch_23 rfl ?_
        refine lv_topi (fun v5 ev5 => ?_)
        have hf := wc_st_e ev5 hf
        refine lv_bipush (v := 15) hx hb wd_W_readIntoScratch_24 (by decide) ?_
        refine lv_iand hx hb wd_W_readIntoScratch_26 ?_
        refine lv_topi (fun v6 ev6 => ?_)
        have hf := wc_st_e ev6 hf
        refine lv_istore (lv' := [(5, .int v6), (0, .ref (ad 0)), (1, .long x1), (3, .int x3), (4, .int x4)]) hx hb wd_W_readIntoScratch_27 hl (by decide) rfl (fun ls hl => ?_)
        refine lv_aload_n hx hb wd_W_readIntoScratch_29 rfl (lv_at hl 1 rfl) ?_
        refine lv_iload hx hb wd_W_readIntoScratch_30 (lv_at hl 0 rfl) ?_
        obtain ⟨r8, σ7, hq, hf⟩ := wc_b2_e hf
        refine wx_calli (va_runV (As := [.int v6]) (rest := []) ⟨hx, hb, hml, hown, hts⟩ (wm_W_isNoCoil l D ad cI cZ cJ cG _ v6 σ _ hq) (wx_cwV 1 hts wt_426 wt_425 wp_9 wt_1 wt_423 wh_W_isNoCoil rfl rfl ⟨Nat.le_of_ble_eq_true rfl, Nat.le_of_ble_eq_true rfl⟩) (wx_preV hK hP hD hS hA hC (by decide) rfl rfl) rfl rfl hl.1 rfl (lv_room (Nat.le_of_ble_eq_true rfl)) wd_W_readIntoScratch_32 ⟨Nat.le_of_ble_eq_true rfl, Nat.le_of_ble_eq_true rfl⟩) hD hS hA (fun H locs hP hD hS => ?_)
        refine lv_if_ne (tgt := 48) hx hb wd_W_readIntoScratch_35 (by decide) (fun c9 => ?_) (fun c9 => ?_)
        · have hf := wc_f c9 hf
          refine lv_iconst (v := 0) hx hb wd_W_readIntoScratch_48 (by decide) ?_
          exact wx_zret hx hb hr narrow_b0 hlocks hf hP hS wd_W_readIntoScratch_49
        · have hf := wc_t c9 hf
          refine lv_iload_n hx hb wd_W_readIntoScratch_38 rfl (lv_at hl 3 rfl) ?_
          refine lv_iload hx hb wd_W_readIntoScratch_39 (lv_at hl 0 rfl) ?_
          refine lv_ishr hx hb wd_W_readIntoScratch_41 ?_
          refine lv_topi (fun v10 ev10 => ?_)
          have hf := wc_st_e ev10 hf
          refine lv_iconst (v := 1) hx hb wd_W_readIntoScratch_42 (by decide) ?_
          refine lv_iand hx hb wd_W_readIntoScratch_43 ?_
          refine lv_topi (fun v11 ev11 => ?_)
          have hf := wc_st_e ev11 hf
          refine lv_iconst (v := 1) hx hb wd_W_readIntoScratch_44 (by decide) ?_
          refine lv_icmp_ne (tgt := 50) hx hb wd_W_readIntoScratch_45 (by decide) (fun c12 => ?_) (fun c12 => ?_)
          · have hf := wc_f c12 hf
            refine lv_iload_n hx hb wd_W_readIntoScratch_50 rfl (lv_at hl 3 rfl) ?_
            refine lv_iconst (v := 1) hx hb wd_W_readIntoScratch_51 (by decide) ?_
            refine lv_iload hx hb wd_W_readIntoScratch_52 (lv_at hl 0 rfl) ?_
            refine lv_ishl hx hb wd_W_readIntoScratch_54 ?_
            refine lv_topi (fun v13 ev13 => ?_)
            have hf := wc_st_e ev13 hf
            refine lv_ior hx hb wd_W_readIntoScratch_55 ?_
            refine lv_topi (fun v14 ev14 => ?_)
            have hf := wc_st_e ev14 hf
            refine lv_istore_n (lv' := [(3, .int v14), (5, .int v6), (0, .ref (ad 0)), (1, .long x1), (4, .int x4)]) hx hb wd_W_readIntoScratch_56 rfl hl (by decide) rfl (fun ls hl => ?_)
            refine lv_aload_n hx hb wd_W_readIntoScratch_57 rfl (lv_at hl 2 rfl) ?_
            refine wx_get (v := .ref (ad 70)) (C := "WidthCampaigns") (T := wx_TW) (N' := 7) hx hb hts wi_W hown hK hP 0 (by decide) rfl rfl 4 (by decide) wt_223 (fun _ h9 => h9) rfl wd_W_readIntoScratch_58 ?_
            refine lv_iload hx hb wd_W_readIntoScratch_61 (lv_at hl 4 rfl) ?_
            refine lv_iload hx hb wd_W_readIntoScratch_63 (lv_at hl 1 rfl) ?_
            obtain ⟨h15, hf⟩ := wc_gd_e hf
            refine wx_iast hx hb hK hP hD hS 70 (n := 9) (by decide) (fun _ => rfl) h15 wd_W_readIntoScratch_65 (fun σ16 H locs eσ16 hP hD hS => ?_)
            have hf := wc_st_e eσ16 hf
            obtain ⟨v17, ev17⟩ : ∃ y : Int32, y = x4 + 1 := ⟨_, rfl⟩
            have hf := wc_st_e ev17 hf
            refine lv_iinc (v := v17) (lv' := [(4, .int v17), (3, .int v14), (5, .int v6), (0, .ref (ad 0)), (1, .long x1)]) hx hb wd_W_readIntoScratch_66 hl (k := 4) rfl (by rw [ev17]; rfl) (by decide) rfl (fun ls hl => ?_)
            refine lv_goto (tgt := 5) hx hb wd_W_readIntoScratch_69 (by decide) ?_
            exact hk5 x1 v14 v17 σ16 hf _ _ _ hP hD hS (lv_sub hl [3, 4, 1, 0] rfl)
          · have hf := wc_t c12 hf
            refine lv_iconst (v := 0) hx hb wd_W_readIntoScratch_48 (by decide) ?_
            exact wx_zret hx hb hr narrow_b0 hlocks hf hP hS wd_W_readIntoScratch_49
  unfold wf_W_readIntoScratch at hf
  refine lv_iconst (v := 0) hx hb wd_W_readIntoScratch_0 (by decide) ?_
  refine lv_istore_n (lv' := [(3, .int 0), (0, .ref (ad 0)), (1, .long a1)]) hx hb wd_W_readIntoScratch_1 rfl hl (by decide) rfl (fun ls hl => ?_)
  refine lv_iconst (v := 0) hx hb wd_W_readIntoScratch_2 (by decide) ?_
  refine lv_istore (lv' := [(4, .int 0), (3, .int 0), (0, .ref (ad 0)), (1, .long a1)]) hx hb wd_W_readIntoScratch_3 hl (by decide) rfl (fun ls hl => ?_)
  exact J5 16 a1 0 0 σ hf _ _ _ hP hD hS (lv_sub hl [2, 3, 1, 0] rfl)
