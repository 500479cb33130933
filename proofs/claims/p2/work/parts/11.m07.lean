set_option maxHeartbeats 4000000 in
set_option maxRecDepth 100000 in
theorem wm_M_group (l : Launch) (D : va_G) (ad : Nat → Nat) (cI cZ cJ cG : ClassId) (sz : Nat) (a1 : Int32) (a2 : Int32) (a3 : Int32) (σ : wc_S) (res : Int32 × wc_S) (hf : wf_M_group a1 a2 a3 σ = some res) : Met l wy_M_group (wx_ws_M_group) ({ frames := 1, cells := 0, slots := 0, locals := 23 }) (va_Pc [.ref (ad 71), .int a1, .int a2, .int a3] (wx_pre D ad cI cZ cJ cG σ sz)) (wx_Qi D ad cI cZ cJ cG res (va_A (wx_W ad cI cZ cJ cG σ) sz)) 0 0 (va_A (wx_W ad cI cZ cJ cG σ) sz) := by
  refine wx_ofW (cc := prog_8_method_9_code) (maxL := 4) (ret := (some .int)) (Qc := fun A => wx_Qi D ad cI cZ cJ cG res A) [.ref (ad 71), .int a1, .int a2, .int a3] (by decide) rfl (Nat.le_of_ble_eq_true rfl) ?_
  intro p e s m args below meth c A ls hin hl
  obtain ⟨hx, hb, hr, hts, hown, hlocks, hml, hA, hP, hK, hD, hC, hN, hS⟩ := hin
  have hl : lv_has ls 4 [(0, .ref (ad 71)), (1, .int a1), (2, .int a2), (3, .int a3)] := hl
  have J52 : ∀ (x1 : Int32) (x2 : Int32) (x3 : Int32) (s1 : Int32) (s2 : Int32) (σ : wc_S), wf_M_group_52 x1 x2 x3 s1 s2 σ = some res → wx_Arr p l e ({ frames := 1, cells := 0, slots := 0, locals := 23 }) s m args below meth c D ad cI cZ cJ cG A (MQ below (wx_Qi D ad cI cZ cJ cG res A) args s 0 0 A) 4 0 0 52 [(0, .ref (ad 71)), (1, .int x1), (2, .int x2), (3, .int x3)] [.int s2, .int s1, .ref (ad 71)] σ := by
    intro  x1 x2 x3 s1 s2 σ hf H locs ls hP hD hS hl
    unfold wf_M_group_52 at hf
    refine lv_iconst (v := 1) hx hb wd_M_group_52 (by decide) ?_
    obtain ⟨r7, σ6, hq, hf⟩ := wc_b2_e hf
    refine wx_calli (va_runV (As := [.int s1, .int s2, .int 1]) (rest := []) ⟨hx, hb, hml, hown, hts⟩ (wm_M_goes l D ad cI cZ cJ cG _ s1 s2 1 σ _ hq) (wx_cwV 3 hts wt_732 wt_731 wp_32 wt_7 wt_729 wh_M_goes rfl rfl ⟨Nat.le_of_ble_eq_true rfl, Nat.le_of_ble_eq_true rfl⟩) (wx_preV hK hP hD hS hA hC (by decide) rfl rfl) rfl rfl hl.1 rfl (lv_room (Nat.le_of_ble_eq_true rfl)) wd_M_group_53 ⟨Nat.le_of_ble_eq_true rfl, Nat.le_of_ble_eq_true rfl⟩) hD hS hA (fun H locs hP hD hS => ?_)
    refine lv_if_ne (tgt := 61) hx hb wd_M_group_56 (by decide) (fun c8 => ?_) (fun c8 => ?_)
    · have hf := wc_f c8 hf
      refine lv_aload_n hx hb wd_M_group_61 rfl (lv_at hl 0 rfl) ?_
      refine wx_get (v := .ref (ad 82)) (C := "WidthCampaignsModel") (T := wx_TM) (N' := 29) hx hb hts wi_M hown hK hP 71 (by decide) rfl rfl 13 (by decide) wt_643 (fun _ h9 => h9) rfl wd_M_group_62 ?_
      refine lv_aload_n hx hb wd_M_group_65 rfl (lv_at hl 0 rfl) ?_
      refine wx_get (v := .int (σ6 71 12)) (C := "WidthCampaignsModel") (T := wx_TM) (N' := 29) hx hb hts wi_M hown hK hP 71 (by decide) rfl rfl 12 (by decide) wt_642 (fun _ h9 => h9) rfl wd_M_group_66 ?_
      refine lv_topi (fun v9 ev9 => ?_)
      have hf := wc_st_e ev9 hf
      refine lv_iload_n hx hb wd_M_group_69 rfl (lv_at hl 1 rfl) ?_
      obtain ⟨h10, hf⟩ := wc_gd_e hf
      refine wx_iast hx hb hK hP hD hS 82 (n := 4) (by decide) (fun _ => rfl) h10 wd_M_group_70 (fun σ11 H locs eσ11 hP hD hS => ?_)
      have hf := wc_st_e eσ11 hf
      refine lv_aload_n hx hb wd_M_group_71 rfl (lv_at hl 0 rfl) ?_
      refine wx_get (v := .ref (ad 83)) (C := "WidthCampaignsModel") (T := wx_TM) (N' := 29) hx hb hts wi_M hown hK hP 71 (by decide) rfl rfl 14 (by decide) wt_644 (fun _ h9 => h9) rfl wd_M_group_72 ?_
      refine lv_aload_n hx hb wd_M_group_75 rfl (lv_at hl 0 rfl) ?_
      refine wx_get (v := .int (σ11 71 12)) (C := "WidthCampaignsModel") (T := wx_TM) (N' := 29) hx hb hts wi_M hown hK hP 71 (by decide) rfl rfl 12 (by decide) wt_642 (fun _ h9 => h9) rfl wd_M_group_76 ?_
      refine lv_topi (fun v12 ev12 => ?_)
      have hf := wc_st_e ev12 hf
      refine lv_iload_n hx hb wd_M_group_79 rfl (lv_at hl 2 rfl) ?_
      obtain ⟨h13, hf⟩ := wc_gd_e hf
      refine wx_iast hx hb hK hP hD hS 83 (n := 4) (by decide) (fun _ => rfl) h13 wd_M_group_80 (fun σ14 H locs eσ14 hP hD hS => ?_)
      have hf := wc_st_e eσ14 hf
      refine lv_aload_n hx hb wd_M_group_81 rfl (lv_at hl 0 rfl) ?_
      refine wx_get (v := .ref (ad 84)) (C := "WidthCampaignsModel") (T := wx_TM) (N' := 29) hx hb hts wi_M hown hK hP 71 (by decide) rfl rfl 15 (by decide) wt_645 (fun _ h9 => h9) rfl wd_M_group_82 ?_
      refine lv_aload_n hx hb wd_M_group_85 rfl (lv_at hl 0 rfl) ?_
      refine wx_get (v := .int (σ14 71 12)) (C := "WidthCampaignsModel") (T := wx_TM) (N' := 29) hx hb hts wi_M hown hK hP 71 (by decide) rfl rfl 12 (by decide) wt_642 (fun _ h9 => h9) rfl wd_M_group_86 ?_
      refine lv_topi (fun v15 ev15 => ?_)
      have hf := wc_st_e ev15 hf
      refine lv_iload_n hx hb wd_M_group_89 rfl (lv_at hl 3 rfl) ?_
      obtain ⟨h16, hf⟩ := wc_gd_e hf
      refine wx_iast hx hb hK hP hD hS 84 (n := 4) (by decide) (fun _ => rfl) h16 wd_M_group_90 (fun σ17 H locs eσ17 hP hD hS => ?_)
      have hf := wc_st_e eσ17 hf
      refine lv_aload_n hx hb wd_M_group_91 rfl (lv_at hl 0 rfl) ?_
      refine lv_dup hx hb wd_M_group_92 rfl ?_
      refine wx_get (v := .int (σ17 71 12)) (C := "WidthCampaignsModel") (T := wx_TM) (N' := 29) hx hb hts wi_M hown hK hP 71 (by decide) rfl rfl 12 (by decide) wt_642 (fun _ h9 => h9) rfl wd_M_group_93 ?_
      refine lv_topi (fun v18 ev18 => ?_)
      have hf := wc_st_e ev18 hf
      refine lv_iconst (v := 1) hx hb wd_M_group_96 (by decide) ?_
      refine lv_iadd hx hb wd_M_group_97 ?_
      refine lv_topi (fun v19 ev19 => ?_)
      have hf := wc_st_e ev19 hf
      refine wx_put (x := v19) (ty := .int) (C := "WidthCampaignsModel") (T := wx_TM) (N' := 29) hx hb hts wi_M wx_tM wx_toM wx_nM hown hK hP hD hS 71 (by decide) (fun _ => rfl) rfl 12 (by decide) wt_642 (fun _ h9 => h9) rfl (by decide +kernel) rfl rfl (Nat.le_of_ble_eq_true rfl) rfl wd_M_group_98 (fun σ20 H locs eσ20 hP hD hS => ?_)
      have hf := wc_st_e eσ20 hf
      refine lv_aload_n hx hb wd_M_group_101 rfl (lv_at hl 0 rfl) ?_
      obtain ⟨σ21, hq, hf⟩ := wc_b1_e hf
      refine wx_callv (va_runV (As := []) (rest := []) ⟨hx, hb, hml, hown, hts⟩ (wm_M_gone l D ad cI cZ cJ cG _ σ20 _ hq) (wx_cwV 0 hts wt_736 wt_735 wp_33 wt_7 wt_733 wh_M_gone rfl rfl ⟨Nat.le_of_ble_eq_true rfl, Nat.le_of_ble_eq_true rfl⟩) (wx_preV hK hP hD hS hA hC (by decide) rfl rfl) rfl rfl hl.1 rfl (lv_room (Nat.le_of_ble_eq_true rfl)) wd_M_group_102 ⟨Nat.le_of_ble_eq_true rfl, Nat.le_of_ble_eq_true rfl⟩) hD hS hA (fun H locs hP hD hS => ?_)
      refine lv_aload_n hx hb wd_M_group_105 rfl (lv_at hl 0 rfl) ?_
      refine wx_get (v := .int (σ21 71 12)) (C := "WidthCampaignsModel") (T := wx_TM) (N' := 29) hx hb hts wi_M hown hK hP 71 (by decide) rfl rfl 12 (by decide) wt_642 (fun _ h9 => h9) rfl wd_M_group_106 ?_
      refine lv_topi (fun v22 ev22 => ?_)
      have hf := wc_st_e ev22 hf
      exact wx_iret hx hb hr hlocks hf hP hS wd_M_group_109
    · have hf := wc_t c8 hf
      refine lv_iconst (v := 0) hx hb wd_M_group_59 (by decide) ?_
      exact wx_iret hx hb hr hlocks hf hP hS wd_M_group_60
  have J39 : ∀ (x1 : Int32) (x2 : Int32) (x3 : Int32) (s1 : Int32) (σ : wc_S), wf_M_group_39 x1 x2 x3 s1 σ = some res → wx_Arr p l e ({ frames := 1, cells := 0, slots := 0, locals := 23 }) s m args below meth c D ad cI cZ cJ cG A (MQ below (wx_Qi D ad cI cZ cJ cG res A) args s 0 0 A) 4 0 0 39 [(0, .ref (ad 71)), (1, .int x1), (2, .int x2), (3, .int x3)] [.int s1, .ref (ad 71)] σ := by
    intro  x1 x2 x3 s1 σ hf H locs ls hP hD hS hl
    unfold wf_M_group_39 at hf
    refine lv_aload_n hx hb wd_M_group_39 rfl (lv_at hl 0 rfl) ?_
    refine wx_get (v := .int (σ 71 12)) (C := "WidthCampaignsModel") (T := wx_TM) (N' := 29) hx hb hts wi_M hown hK hP 71 (by decide) rfl rfl 12 (by decide) wt_642 (fun _ h9 => h9) rfl wd_M_group_40 ?_
    refine lv_topi (fun v4 ev4 => ?_)
    have hf := wc_st_e ev4 hf
    refine lv_iconst (v := 4) hx hb wd_M_group_43 (by decide) ?_
    refine lv_icmp_ge (tgt := 51) hx hb wd_M_group_44 (by decide) (fun c5 => ?_) (fun c5 => ?_)
    · have hf := wc_t c5 hf
      refine lv_iconst (v := 0) hx hb wd_M_group_51 (by decide) ?_
      exact J52 x1 x2 x3 s1 0 σ hf _ _ _ hP hD hS (lv_sub hl [0, 1, 2, 3] rfl)
    · have hf := wc_f c5 hf
      refine lv_iconst (v := 1) hx hb wd_M_group_47 (by decide) ?_
      refine lv_goto (tgt := 52) hx hb wd_M_group_48 (by decide) ?_
      exact J52 x1 x2 x3 s1 1 σ hf _ _ _ hP hD hS (lv_sub hl [0, 1, 2, 3] rfl)
  have J38 : ∀ (x1 : Int32) (x2 : Int32) (x3 : Int32) (σ : wc_S), wf_M_group_38 x1 x2 x3 σ = some res → wx_Arr p l e ({ frames := 1, cells := 0, slots := 0, locals := 23 }) s m args below meth c D ad cI cZ cJ cG A (MQ below (wx_Qi D ad cI cZ cJ cG res A) args s 0 0 A) 4 0 0 38 [(0, .ref (ad 71)), (1, .int x1), (2, .int x2), (3, .int x3)] [.ref (ad 71)] σ := by
    intro  x1 x2 x3 σ hf H locs ls hP hD hS hl
    unfold wf_M_group_38 at hf
    refine lv_iconst (v := 0) hx hb wd_M_group_38 (by decide) ?_
    exact J39 x1 x2 x3 0 σ hf _ _ _ hP hD hS (lv_sub hl [0, 1, 2, 3] rfl)
  unfold wf_M_group at hf
  refine lv_aload_n hx hb wd_M_group_0 rfl (lv_at hl 0 rfl) ?_
  refine lv_iload_n hx hb wd_M_group_1 rfl (lv_at hl 1 rfl) ?_
  refine lv_iconst (v := 1) hx hb wd_M_group_2 (by decide) ?_
  refine lv_sipush (v := 2000) hx hb wd_M_group_3 (by decide) ?_
  obtain ⟨r2, σ1, hq, hf⟩ := wc_b2_e hf
  refine wx_calli (va_runS (As := [.int a1, .int 1, .int 2000]) (rest := [.ref (ad 71)]) ⟨hx, hb, hml, hown, hts⟩ (wm_M_in l D ad cI cZ cJ cG _ a1 1 2000 σ _ hq) (wx_cwS 3 hts wt_728 wt_727 wt_7 wt_726 wh_M_in rfl rfl ⟨Nat.le_of_ble_eq_true rfl, Nat.le_of_ble_eq_true rfl⟩) (wx_preS hK hP hD hS hA hC) rfl rfl hl.1 rfl (lv_room (Nat.le_of_ble_eq_true rfl)) wd_M_group_6 ⟨Nat.le_of_ble_eq_true rfl, Nat.le_of_ble_eq_true rfl⟩) hD hS hA (fun H locs hP hD hS => ?_)
  refine lv_if_eq (tgt := 38) hx hb wd_M_group_9 (by decide) (fun c3 => ?_) (fun c3 => ?_)
  · have hf := wc_t c3 hf
    exact J38 a1 a2 a3 σ1 hf _ _ _ hP hD hS (lv_sub hl [0, 1, 2, 3] rfl)
  · have hf := wc_f c3 hf
    refine lv_iload_n hx hb wd_M_group_12 rfl (lv_at hl 2 rfl) ?_
    refine lv_iload_n hx hb wd_M_group_13 rfl (lv_at hl 1 rfl) ?_
    refine lv_sipush (v := 2000) hx hb wd_M_group_14 (by decide) ?_
    obtain ⟨r24, σ23, hq, hf⟩ := wc_b2_e hf
    refine wx_calli (va_runS (As := [.int a2, .int a1, .int 2000]) (rest := [.ref (ad 71)]) ⟨hx, hb, hml, hown, hts⟩ (wm_M_in l D ad cI cZ cJ cG _ a2 a1 2000 σ1 _ hq) (wx_cwS 3 hts wt_728 wt_727 wt_7 wt_726 wh_M_in rfl rfl ⟨Nat.le_of_ble_eq_true rfl, Nat.le_of_ble_eq_true rfl⟩) (wx_preS hK hP hD hS hA hC) rfl rfl hl.1 rfl (lv_room (Nat.le_of_ble_eq_true rfl)) wd_M_group_17 ⟨Nat.le_of_ble_eq_true rfl, Nat.le_of_ble_eq_true rfl⟩) hD hS hA (fun H locs hP hD hS => ?_)
    refine lv_if_eq (tgt := 38) hx hb wd_M_group_20 (by decide) (fun c25 => ?_) (fun c25 => ?_)
    · have hf := wc_t c25 hf
      exact J38 a1 a2 a3 σ23 hf _ _ _ hP hD hS (lv_sub hl [0, 1, 2, 3] rfl)
    · have hf := wc_f c25 hf
      refine lv_iload_n hx hb wd_M_group_23 rfl (lv_at hl 3 rfl) ?_
      refine lv_iconst (v := 1) hx hb wd_M_group_24 (by decide) ?_
      refine lv_sipush (v := 1000) hx hb wd_M_group_25 (by decide) ?_
      obtain ⟨r27, σ26, hq, hf⟩ := wc_b2_e hf
      refine wx_calli (va_runS (As := [.int a3, .int 1, .int 1000]) (rest := [.ref (ad 71)]) ⟨hx, hb, hml, hown, hts⟩ (wm_M_in l D ad cI cZ cJ cG _ a3 1 1000 σ23 _ hq) (wx_cwS 3 hts wt_728 wt_727 wt_7 wt_726 wh_M_in rfl rfl ⟨Nat.le_of_ble_eq_true rfl, Nat.le_of_ble_eq_true rfl⟩) (wx_preS hK hP hD hS hA hC) rfl rfl hl.1 rfl (lv_room (Nat.le_of_ble_eq_true rfl)) wd_M_group_28 ⟨Nat.le_of_ble_eq_true rfl, Nat.le_of_ble_eq_true rfl⟩) hD hS hA (fun H locs hP hD hS => ?_)
      refine lv_if_eq (tgt := 38) hx hb wd_M_group_31 (by decide) (fun c28 => ?_) (fun c28 => ?_)
      · have hf := wc_t c28 hf
        exact J38 a1 a2 a3 σ26 hf _ _ _ hP hD hS (lv_sub hl [0, 1, 2, 3] rfl)
      · have hf := wc_f c28 hf
        refine lv_iconst (v := 1) hx hb wd_M_group_34 (by decide) ?_
        refine lv_goto (tgt := 39) hx hb wd_M_group_35 (by decide) ?_
        exact J39 a1 a2 a3 1 σ26 hf _ _ _ hP hD hS (lv_sub hl [0, 1, 2, 3] rfl)
set_option maxHeartbeats 4000000 in
set_option maxRecDepth 100000 in
theorem wm_M_urgent (l : Launch) (D : va_G) (ad : Nat → Nat) (cI cZ cJ cG : ClassId) (sz : Nat) (a1 : Int32) (a2 : Int32) (σ : wc_S) (res : wc_S) (hf : wf_M_urgent a1 a2 σ = some res) : Met l wy_M_urgent (wx_ws_M_urgent) ({ frames := 2, cells := 0, slots := 0, locals := 43 }) (va_Pc [.ref (ad 71), .int a1, .int a2] (wx_pre D ad cI cZ cJ cG σ sz)) (wx_Qv D ad cI cZ cJ cG res (va_A (wx_W ad cI cZ cJ cG σ) sz)) 0 0 (va_A (wx_W ad cI cZ cJ cG σ) sz) := by
  refine wx_ofW (cc := prog_8_method_10_code) (maxL := 3) (ret := none) (Qc := fun A => wx_Qv D ad cI cZ cJ cG res A) [.ref (ad 71), .int a1, .int a2] (by decide) rfl (Nat.le_of_ble_eq_true rfl) ?_
  intro p e s m args below meth c A ls hin hl
  obtain ⟨hx, hb, hr, hts, hown, hlocks, hml, hA, hP, hK, hD, hC, hN, hS⟩ := hin
  have hl : lv_has ls 3 [(0, .ref (ad 71)), (1, .int a1), (2, .int a2)] := hl
  unfold wf_M_urgent at hf
  refine lv_aload_n hx hb wd_M_urgent_0 rfl (lv_at hl 0 rfl) ?_
  refine lv_aload_n hx hb wd_M_urgent_1 rfl (lv_at hl 0 rfl) ?_
  refine lv_iload_n hx hb wd_M_urgent_2 rfl (lv_at hl 1 rfl) ?_
  obtain ⟨r2, σ1, hq, hf⟩ := wc_b2_e hf
  refine wx_calli (va_runV (As := [.int a1]) (rest := [.ref (ad 71)]) ⟨hx, hb, hml, hown, hts⟩ (wm_M_isCoil l D ad cI cZ cJ cG _ a1 σ _ hq) (wx_cwV 1 hts wt_752 wt_751 wp_34 wt_7 wt_749 wh_M_isCoil rfl rfl ⟨Nat.le_of_ble_eq_true rfl, Nat.le_of_ble_eq_true rfl⟩) (wx_preV hK hP hD hS hA hC (by decide) rfl rfl) rfl rfl hl.1 rfl (lv_room (Nat.le_of_ble_eq_true rfl)) wd_M_urgent_3 ⟨Nat.le_of_ble_eq_true rfl, Nat.le_of_ble_eq_true rfl⟩) hD hS hA (fun H locs hP hD hS => ?_)
  refine lv_iload_n hx hb wd_M_urgent_6 rfl (lv_at hl 2 rfl) ?_
  refine lv_iconst (v := 0) hx hb wd_M_urgent_7 (by decide) ?_
  refine lv_bipush (v := 8) hx hb wd_M_urgent_8 (by decide) ?_
  obtain ⟨r4, σ3, hq, hf⟩ := wc_b2_e hf
  refine wx_calli (va_runS (As := [.int a2, .int 0, .int 8]) (rest := [.int r2, .ref (ad 71)]) ⟨hx, hb, hml, hown, hts⟩ (wm_M_in l D ad cI cZ cJ cG _ a2 0 8 σ1 _ hq) (wx_cwS 3 hts wt_728 wt_727 wt_7 wt_726 wh_M_in rfl rfl ⟨Nat.le_of_ble_eq_true rfl, Nat.le_of_ble_eq_true rfl⟩) (wx_preS hK hP hD hS hA hC) rfl rfl hl.1 rfl (lv_room (Nat.le_of_ble_eq_true rfl)) wd_M_urgent_10 ⟨Nat.le_of_ble_eq_true rfl, Nat.le_of_ble_eq_true rfl⟩) hD hS hA (fun H locs hP hD hS => ?_)
  refine lv_iconst (v := 1) hx hb wd_M_urgent_13 (by decide) ?_
  obtain ⟨r6, σ5, hq, hf⟩ := wc_b2_e hf
  refine wx_calli (va_runV (As := [.int r2, .int r4, .int 1]) (rest := []) ⟨hx, hb, hml, hown, hts⟩ (wm_M_goes l D ad cI cZ cJ cG _ r2 r4 1 σ3 _ hq) (wx_cwV 3 hts wt_732 wt_731 wp_32 wt_7 wt_729 wh_M_goes rfl rfl ⟨Nat.le_of_ble_eq_true rfl, Nat.le_of_ble_eq_true rfl⟩) (wx_preV hK hP hD hS hA hC (by decide) rfl rfl) rfl rfl hl.1 rfl (lv_room (Nat.le_of_ble_eq_true rfl)) wd_M_urgent_14 ⟨Nat.le_of_ble_eq_true rfl, Nat.le_of_ble_eq_true rfl⟩) hD hS hA (fun H locs hP hD hS => ?_)
  refine lv_if_ne (tgt := 21) hx hb wd_M_urgent_17 (by decide) (fun c7 => ?_) (fun c7 => ?_)
  · have hf := wc_f c7 hf
    refine lv_aload_n hx hb wd_M_urgent_21 rfl (lv_at hl 0 rfl) ?_
    refine wx_get (v := .ref (ad 76)) (C := "WidthCampaignsModel") (T := wx_TM) (N' := 29) hx hb hts wi_M hown hK hP 71 (by decide) rfl rfl 6 (by decide) wt_636 (fun _ h9 => h9) rfl wd_M_urgent_22 ?_
    refine lv_iload_n hx hb wd_M_urgent_25 rfl (lv_at hl 1 rfl) ?_
    refine lv_iload_n hx hb wd_M_urgent_26 rfl (lv_at hl 2 rfl) ?_
    obtain ⟨h8, hf⟩ := wc_gd_e hf
    refine wx_iast hx hb hK hP hD hS 76 (n := 9) (by decide) (fun _ => rfl) h8 wd_M_urgent_27 (fun σ9 H locs eσ9 hP hD hS => ?_)
    have hf := wc_st_e eσ9 hf
    refine lv_aload_n hx hb wd_M_urgent_28 rfl (lv_at hl 0 rfl) ?_
    obtain ⟨σ10, hq, hf⟩ := wc_b1_e hf
    refine wx_callv (va_runV (As := []) (rest := []) ⟨hx, hb, hml, hown, hts⟩ (wm_M_gone l D ad cI cZ cJ cG _ σ9 _ hq) (wx_cwV 0 hts wt_736 wt_735 wp_33 wt_7 wt_733 wh_M_gone rfl rfl ⟨Nat.le_of_ble_eq_true rfl, Nat.le_of_ble_eq_true rfl⟩) (wx_preV hK hP hD hS hA hC (by decide) rfl rfl) rfl rfl hl.1 rfl (lv_room (Nat.le_of_ble_eq_true rfl)) wd_M_urgent_29 ⟨Nat.le_of_ble_eq_true rfl, Nat.le_of_ble_eq_true rfl⟩) hD hS hA (fun H locs hP hD hS => ?_)
    exact wx_vret hx hb hr hlocks hf hP hS wd_M_urgent_32
  · have hf := wc_t c7 hf
    exact wx_vret hx hb hr hlocks hf hP hS wd_M_urgent_20
set_option maxHeartbeats 4000000 in
set_option maxRecDepth 100000 in
theorem wm_M_old (l : Launch) (D : va_G) (ad : Nat → Nat) (cI cZ cJ cG : ClassId) (sz : Nat) (a1 : Int32) (a2 : Int32) (σ : wc_S) (res : wc_S) (hf : wf_M_old a1 a2 σ = some res) : Met l wy_M_old (wx_ws_M_old) ({ frames := 2, cells := 0, slots := 0, locals := 43 }) (va_Pc [.ref (ad 71), .int a1, .int a2] (wx_pre D ad cI cZ cJ cG σ sz)) (wx_Qv D ad cI cZ cJ cG res (va_A (wx_W ad cI cZ cJ cG σ) sz)) 0 0 (va_A (wx_W ad cI cZ cJ cG σ) sz) := by
  refine wx_ofW (cc := prog_8_method_11_code) (maxL := 3) (ret := none) (Qc := fun A => wx_Qv D ad cI cZ cJ cG res A) [.ref (ad 71), .int a1, .int a2] (by decide) rfl (Nat.le_of_ble_eq_true rfl) ?_
  intro p e s m args below meth c A ls hin hl
  obtain ⟨hx, hb, hr, hts, hown, hlocks, hml, hA, hP, hK, hD, hC, hN, hS⟩ := hin
  have hl : lv_has ls 3 [(0, .ref (ad 71)), (1, .int a1), (2, .int a2)] := hl
  unfold wf_M_old at hf
  refine lv_aload_n hx hb wd_M_old_0 rfl (lv_at hl 0 rfl) ?_
  refine lv_aload_n hx hb wd_M_old_1 rfl (lv_at hl 0 rfl) ?_
  refine lv_iload_n hx hb wd_M_old_2 rfl (lv_at hl 1 rfl) ?_
  obtain ⟨r2, σ1, hq, hf⟩ := wc_b2_e hf
  refine wx_calli (va_runV (As := [.int a1]) (rest := [.ref (ad 71)]) ⟨hx, hb, hml, hown, hts⟩ (wm_M_isCoil l D ad cI cZ cJ cG _ a1 σ _ hq) (wx_cwV 1 hts wt_752 wt_751 wp_34 wt_7 wt_749 wh_M_isCoil rfl rfl ⟨Nat.le_of_ble_eq_true rfl, Nat.le_of_ble_eq_true rfl⟩) (wx_preV hK hP hD hS hA hC (by decide) rfl rfl) rfl rfl hl.1 rfl (lv_room (Nat.le_of_ble_eq_true rfl)) wd_M_old_3 ⟨Nat.le_of_ble_eq_true rfl, Nat.le_of_ble_eq_true rfl⟩) hD hS hA (fun H locs hP hD hS => ?_)
  refine lv_iload_n hx hb wd_M_old_6 rfl (lv_at hl 2 rfl) ?_
  refine lv_iconst (v := (-1)) hx hb wd_M_old_7 (by decide) ?_
  refine lv_bipush (v := 8) hx hb wd_M_old_8 (by decide) ?_
  obtain ⟨r4, σ3, hq, hf⟩ := wc_b2_e hf
  refine wx_calli (va_runS (As := [.int a2, .int (-1), .int 8]) (rest := [.int r2, .ref (ad 71)]) ⟨hx, hb, hml, hown, hts⟩ (wm_M_in l D ad cI cZ cJ cG _ a2 (-1) 8 σ1 _ hq) (wx_cwS 3 hts wt_728 wt_727 wt_7 wt_726 wh_M_in rfl rfl ⟨Nat.le_of_ble_eq_true rfl, Nat.le_of_ble_eq_true rfl⟩) (wx_preS hK hP hD hS hA hC) rfl rfl hl.1 rfl (lv_room (Nat.le_of_ble_eq_true rfl)) wd_M_old_10 ⟨Nat.le_of_ble_eq_true rfl, Nat.le_of_ble_eq_true rfl⟩) hD hS hA (fun H locs hP hD hS => ?_)
  refine lv_iconst (v := 1) hx hb wd_M_old_13 (by decide) ?_
  obtain ⟨r6, σ5, hq, hf⟩ := wc_b2_e hf
  refine wx_calli (va_runV (As := [.int r2, .int r4, .int 1]) (rest := []) ⟨hx, hb, hml, hown, hts⟩ (wm_M_goes l D ad cI cZ cJ cG _ r2 r4 1 σ3 _ hq) (wx_cwV 3 hts wt_732 wt_731 wp_32 wt_7 wt_729 wh_M_goes rfl rfl ⟨Nat.le_of_ble_eq_true rfl, Nat.le_of_ble_eq_true rfl⟩) (wx_preV hK hP hD hS hA hC (by decide) rfl rfl) rfl rfl hl.1 rfl (lv_room (Nat.le_of_ble_eq_true rfl)) wd_M_old_14 ⟨Nat.le_of_ble_eq_true rfl, Nat.le_of_ble_eq_true rfl⟩) hD hS hA (fun H locs hP hD hS => ?_)
  refine lv_if_ne (tgt := 21) hx hb wd_M_old_17 (by decide) (fun c7 => ?_) (fun c7 => ?_)
  · have hf := wc_f c7 hf
    refine lv_aload_n hx hb wd_M_old_21 rfl (lv_at hl 0 rfl) ?_
    refine wx_get (v := .ref (ad 77)) (C := "WidthCampaignsModel") (T := wx_TM) (N' := 29) hx hb hts wi_M hown hK hP 71 (by decide) rfl rfl 7 (by decide) wt_637 (fun _ h9 => h9) rfl wd_M_old_22 ?_
    refine lv_iload_n hx hb wd_M_old_25 rfl (lv_at hl 1 rfl) ?_
    refine lv_iload_n hx hb wd_M_old_26 rfl (lv_at hl 2 rfl) ?_
    obtain ⟨h8, hf⟩ := wc_gd_e hf
    refine wx_iast hx hb hK hP hD hS 77 (n := 9) (by decide) (fun _ => rfl) h8 wd_M_old_27 (fun σ9 H locs eσ9 hP hD hS => ?_)
    have hf := wc_st_e eσ9 hf
    refine lv_aload_n hx hb wd_M_old_28 rfl (lv_at hl 0 rfl) ?_
    obtain ⟨σ10, hq, hf⟩ := wc_b1_e hf
    refine wx_callv (va_runV (As := []) (rest := []) ⟨hx, hb, hml, hown, hts⟩ (wm_M_gone l D ad cI cZ cJ cG _ σ9 _ hq) (wx_cwV 0 hts wt_736 wt_735 wp_33 wt_7 wt_733 wh_M_gone rfl rfl ⟨Nat.le_of_ble_eq_true rfl, Nat.le_of_ble_eq_true rfl⟩) (wx_preV hK hP hD hS hA hC (by decide) rfl rfl) rfl rfl hl.1 rfl (lv_room (Nat.le_of_ble_eq_true rfl)) wd_M_old_29 ⟨Nat.le_of_ble_eq_true rfl, Nat.le_of_ble_eq_true rfl⟩) hD hS hA (fun H locs hP hD hS => ?_)
    exact wx_vret hx hb hr hlocks hf hP hS wd_M_old_32
  · have hf := wc_t c7 hf
    exact wx_vret hx hb hr hlocks hf hP hS wd_M_old_20
set_option maxHeartbeats 4000000 in
set_option maxRecDepth 100000 in
theorem wm_M_rules (l : Launch) (D : va_G) (ad : Nat → Nat) (cI cZ cJ cG : ClassId) (sz : Nat) (a1 : Int32) (a2 : Int32) (a3 : Int32) (a4 : Int32) (σ : wc_S) (res : wc_S) (hf : wf_M_rules a1 a2 a3 a4 σ = some res) : Met l wy_M_rules (wx_ws_M_rules) ({ frames := 1, cells := 0, slots := 0, locals := 23 }) (va_Pc [.ref (ad 71), .int a1, .int a2, .int a3, .int a4] (wx_pre D ad cI cZ cJ cG σ sz)) (wx_Qv D ad cI cZ cJ cG res (va_A (wx_W ad cI cZ cJ cG σ) sz)) 0 0 (va_A (wx_W ad cI cZ cJ cG σ) sz) := by
  refine wx_ofW (cc := prog_8_method_12_code) (maxL := 5) (ret := none) (Qc := fun A => wx_Qv D ad cI cZ cJ cG res A) [.ref (ad 71), .int a1, .int a2, .int a3, .int a4] (by decide) rfl (Nat.le_of_ble_eq_true rfl) ?_
  intro p e s m args below meth c A ls hin hl
  obtain ⟨hx, hb, hr, hts, hown, hlocks, hml, hA, hP, hK, hD, hC, hN, hS⟩ := hin
  have hl : lv_has ls 5 [(0, .ref (ad 71)), (1, .int a1), (2, .int a2), (3, .int a3), (4, .int a4)] := hl
  have J50 : ∀ (x1 : Int32) (x2 : Int32) (x3 : Int32) (x4 : Int32) (s1 : Int32) (σ : wc_S), wf_M_rules_50 x1 x2 x3 x4 s1 σ = some res → wx_Arr p l e ({ frames := 1, cells := 0, slots := 0, locals := 23 }) s m args below meth c D ad cI cZ cJ cG A (MQ below (wx_Qv D ad cI cZ cJ cG res A) args s 0 0 A) 5 0 0 50 [(0, .ref (ad 71)), (1, .int x1), (2, .int x2), (3, .int x3), (4, .int x4)] [.int s1, .ref (ad 71)] σ := by
    intro  x1 x2 x3 x4 s1 σ hf H locs ls hP hD hS hl
    unfold wf_M_rules_50 at hf
    refine lv_iconst (v := 1) hx hb wd_M_rules_50 (by decide) ?_
    refine lv_iconst (v := 1) hx hb wd_M_rules_51 (by decide) ?_
    obtain ⟨r5, σ4, hq, hf⟩ := wc_b2_e hf
    refine wx_calli (va_runV (As := [.int s1, .int 1, .int 1]) (rest := []) ⟨hx, hb, hml, hown, hts⟩ (wm_M_goes l D ad cI cZ cJ cG _ s1 1 1 σ _ hq) (wx_cwV 3 hts wt_732 wt_731 wp_32 wt_7 wt_729 wh_M_goes rfl rfl ⟨Nat.le_of_ble_eq_true rfl, Nat.le_of_ble_eq_true rfl⟩) (wx_preV hK hP hD hS hA hC (by decide) rfl rfl) rfl rfl hl.1 rfl (lv_room (Nat.le_of_ble_eq_true rfl)) wd_M_rules_52 ⟨Nat.le_of_ble_eq_true rfl, Nat.le_of_ble_eq_true rfl⟩) hD hS hA (fun H locs hP hD hS => ?_)
    refine lv_if_ne (tgt := 59) hx hb wd_M_rules_55 (by decide) (fun c6 => ?_) (fun c6 => ?_)
    · have hf := wc_f c6 hf
      refine lv_aload_n hx hb wd_M_rules_59 rfl (lv_at hl 0 rfl) ?_
      refine lv_iload_n hx hb wd_M_rules_60 rfl (lv_at hl 1 rfl) ?_
      refine wx_put (x := x1) (ty := .int) (C := "WidthCampaignsModel") (T := wx_TM) (N' := 29) hx hb hts wi_M wx_tM wx_toM wx_nM hown hK hP hD hS 71 (by decide) (fun _ => rfl) rfl 16 (by decide) wt_646 (fun _ h9 => h9) rfl (by decide +kernel) rfl rfl (Nat.le_of_ble_eq_true rfl) rfl wd_M_rules_61 (fun σ7 H locs eσ7 hP hD hS => ?_)
      have hf := wc_st_e eσ7 hf
      refine lv_aload_n hx hb wd_M_rules_64 rfl (lv_at hl 0 rfl) ?_
      refine lv_iload_n hx hb wd_M_rules_65 rfl (lv_at hl 2 rfl) ?_
      refine wx_put (x := x2) (ty := .int) (C := "WidthCampaignsModel") (T := wx_TM) (N' := 29) hx hb hts wi_M wx_tM wx_toM wx_nM hown hK hP hD hS 71 (by decide) (fun _ => rfl) rfl 17 (by decide) wt_647 (fun _ h9 => h9) rfl (by decide +kernel) rfl rfl (Nat.le_of_ble_eq_true rfl) rfl wd_M_rules_66 (fun σ8 H locs eσ8 hP hD hS => ?_)
      have hf := wc_st_e eσ8 hf
      refine lv_aload_n hx hb wd_M_rules_69 rfl (lv_at hl 0 rfl) ?_
      refine lv_iload_n hx hb wd_M_rules_70 rfl (lv_at hl 3 rfl) ?_
      refine wx_put (x := x3) (ty := .int) (C := "WidthCampaignsModel") (T := wx_TM) (N' := 29) hx hb hts wi_M wx_tM wx_toM wx_nM hown hK hP hD hS 71 (by decide) (fun _ => rfl) rfl 18 (by decide) wt_648 (fun _ h9 => h9) rfl (by decide +kernel) rfl rfl (Nat.le_of_ble_eq_true rfl) rfl wd_M_rules_71 (fun σ9 H locs eσ9 hP hD hS => ?_)
      have hf := wc_st_e eσ9 hf
      refine lv_aload_n hx hb wd_M_rules_74 rfl (lv_at hl 0 rfl) ?_
      refine lv_iload hx hb wd_M_rules_75 (lv_at hl 4 rfl) ?_
      refine wx_put (x := x4) (ty := .int) (C := "WidthCampaignsModel") (T := wx_TM) (N' := 29) hx hb hts wi_M wx_tM wx_toM wx_nM hown hK hP hD hS 71 (by decide) (fun _ => rfl) rfl 19 (by decide) wt_649 (fun _ h9 => h9) rfl (by decide +kernel) rfl rfl (Nat.le_of_ble_eq_true rfl) rfl wd_M_rules_77 (fun σ10 H locs eσ10 hP hD hS => ?_)
      have hf := wc_st_e eσ10 hf
      refine lv_aload_n hx hb wd_M_rules_80 rfl (lv_at hl 0 rfl) ?_
      obtain ⟨σ11, hq, hf⟩ := wc_b1_e hf
      refine wx_callv (va_runV (As := []) (rest := []) ⟨hx, hb, hml, hown, hts⟩ (wm_M_gone l D ad cI cZ cJ cG _ σ10 _ hq) (wx_cwV 0 hts wt_736 wt_735 wp_33 wt_7 wt_733 wh_M_gone rfl rfl ⟨Nat.le_of_ble_eq_true rfl, Nat.le_of_ble_eq_true rfl⟩) (wx_preV hK hP hD hS hA hC (by decide) rfl rfl) rfl rfl hl.1 rfl (lv_room (Nat.le_of_ble_eq_true rfl)) wd_M_rules_81 ⟨Nat.le_of_ble_eq_true rfl, Nat.le_of_ble_eq_true rfl⟩) hD hS hA (fun H locs hP hD hS => ?_)
      exact wx_vret hx hb hr hlocks hf hP hS wd_M_rules_84
    · have hf := wc_t c6 hf
      exact wx_vret hx hb hr hlocks hf hP hS wd_M_rules_58
  have J49 : ∀ (x1 : Int32) (x2 : Int32) (x3 : Int32) (x4 : Int32) (σ : wc_S), wf_M_rules_49 x1 x2 x3 x4 σ = some res → wx_Arr p l e ({ frames := 1, cells := 0, slots := 0, locals := 23 }) s m args below meth c D ad cI cZ cJ cG A (MQ below (wx_Qv D ad cI cZ cJ cG res A) args s 0 0 A) 5 0 0 49 [(0, .ref (ad 71)), (1, .int x1), (2, .int x2), (3, .int x3), (4, .int x4)] [.ref (ad 71)] σ := by
    intro  x1 x2 x3 x4 σ hf H locs ls hP hD hS hl
    unfold wf_M_rules_49 at hf
    refine lv_iconst (v := 0) hx hb wd_M_rules_49 (by decide) ?_
    exact J50 x1 x2 x3 x4 0 σ hf _ _ _ hP hD hS (lv_sub hl [0, 1, 2, 3, 4] rfl)
  unfold wf_M_rules at hf
  refine lv_aload_n hx hb wd_M_rules_0 rfl (lv_at hl 0 rfl) ?_
  refine lv_iload_n hx hb wd_M_rules_1 rfl (lv_at hl 1 rfl) ?_
  refine lv_iconst (v := 0) hx hb wd_M_rules_2 (by decide) ?_
  refine lv_bipush (v := 9) hx hb wd_M_rules_3 (by decide) ?_
  obtain ⟨r2, σ1, hq, hf⟩ := wc_b2_e hf
  refine wx_calli (va_runS (As := [.int a1, .int 0, .int 9]) (rest := [.ref (ad 71)]) ⟨hx, hb, hml, hown, hts⟩ (wm_M_in l D ad cI cZ cJ cG _ a1 0 9 σ _ hq) (wx_cwS 3 hts wt_728 wt_727 wt_7 wt_726 wh_M_in rfl rfl ⟨Nat.le_of_ble_eq_true rfl, Nat.le_of_ble_eq_true rfl⟩) (wx_preS hK hP hD hS hA hC) rfl rfl hl.1 rfl (lv_room (Nat.le_of_ble_eq_true rfl)) wd_M_rules_5 ⟨Nat.le_of_ble_eq_true rfl, Nat.le_of_ble_eq_true rfl⟩) hD hS hA (fun H locs hP hD hS => ?_)
  refine lv_if_eq (tgt := 49) hx hb wd_M_rules_8 (by decide) (fun c3 => ?_) (fun c3 => ?_)
  · have hf := wc_t c3 hf
    exact J49 a1 a2 a3 a4 σ1 hf _ _ _ hP hD hS (lv_sub hl [0, 1, 2, 3, 4] rfl)
  · have hf := wc_f c3 hf
    refine lv_iload_n hx hb wd_M_rules_11 rfl (lv_at hl 2 rfl) ?_
    refine lv_iconst (v := 1) hx hb wd_M_rules_12 (by decide) ?_
    refine lv_sipush (v := 1000) hx hb wd_M_rules_13 (by decide) ?_
    obtain ⟨r13, σ12, hq, hf⟩ := wc_b2_e hf
    refine wx_calli (va_runS (As := [.int a2, .int 1, .int 1000]) (rest := [.ref (ad 71)]) ⟨hx, hb, hml, hown, hts⟩ (wm_M_in l D ad cI cZ cJ cG _ a2 1 1000 σ1 _ hq) (wx_cwS 3 hts wt_728 wt_727 wt_7 wt_726 wh_M_in rfl rfl ⟨Nat.le_of_ble_eq_true rfl, Nat.le_of_ble_eq_true rfl⟩) (wx_preS hK hP hD hS hA hC) rfl rfl hl.1 rfl (lv_room (Nat.le_of_ble_eq_true rfl)) wd_M_rules_16 ⟨Nat.le_of_ble_eq_true rfl, Nat.le_of_ble_eq_true rfl⟩) hD hS hA (fun H locs hP hD hS => ?_)
    refine lv_if_eq (tgt := 49) hx hb wd_M_rules_19 (by decide) (fun c14 => ?_) (fun c14 => ?_)
    · have hf := wc_t c14 hf
      exact J49 a1 a2 a3 a4 σ12 hf _ _ _ hP hD hS (lv_sub hl [0, 1, 2, 3, 4] rfl)
    · have hf := wc_f c14 hf
      refine lv_iload_n hx hb wd_M_rules_22 rfl (lv_at hl 3 rfl) ?_
      refine lv_iconst (v := 0) hx hb wd_M_rules_23 (by decide) ?_
      refine lv_sipush (v := 10000) hx hb wd_M_rules_24 (by decide) ?_
      obtain ⟨r16, σ15, hq, hf⟩ := wc_b2_e hf
      refine wx_calli (va_runS (As := [.int a3, .int 0, .int 10000]) (rest := [.ref (ad 71)]) ⟨hx, hb, hml, hown, hts⟩ (wm_M_in l D ad cI cZ cJ cG _ a3 0 10000 σ12 _ hq) (wx_cwS 3 hts wt_728 wt_727 wt_7 wt_726 wh_M_in rfl rfl ⟨Nat.le_of_ble_eq_true rfl, Nat.le_of_ble_eq_true rfl⟩) (wx_preS hK hP hD hS hA hC) rfl rfl hl.1 rfl (lv_room (Nat.le_of_ble_eq_true rfl)) wd_M_rules_27 ⟨Nat.le_of_ble_eq_true rfl, Nat.le_of_ble_eq_true rfl⟩) hD hS hA (fun H locs hP hD hS => ?_)
      refine lv_if_eq (tgt := 49) hx hb wd_M_rules_30 (by decide) (fun c17 => ?_) (fun c17 => ?_)
      · have hf := wc_t c17 hf
        exact J49 a1 a2 a3 a4 σ15 hf _ _ _ hP hD hS (lv_sub hl [0, 1, 2, 3, 4] rfl)
      · have hf := wc_f c17 hf
        refine lv_iload hx hb wd_M_rules_33 (lv_at hl 4 rfl) ?_
        refine lv_iconst (v := 0) hx hb wd_M_rules_35 (by decide) ?_
        refine lv_sipush (v := 10000) hx hb wd_M_rules_36 (by decide) ?_
        obtain ⟨r19, σ18, hq, hf⟩ := wc_b2_e hf
        refine wx_calli (va_runS (As := [.int a4, .int 0, .int 10000]) (rest := [.ref (ad 71)]) ⟨hx, hb, hml, hown, hts⟩ (wm_M_in l D ad cI cZ cJ cG _ a4 0 10000 σ15 _ hq) (wx_cwS 3 hts wt_728 wt_727 wt_7 wt_726 wh_M_in rfl rfl ⟨Nat.le_of_ble_eq_true rfl, Nat.le_of_ble_eq_true rfl⟩) (wx_preS hK hP hD hS hA hC) rfl rfl hl.1 rfl (lv_room (Nat.le_of_ble_eq_true rfl)) wd_M_rules_39 ⟨Nat.le_of_ble_eq_true rfl, Nat.le_of_ble_eq_true rfl⟩) hD hS hA (fun H locs hP hD hS => ?_)
        refine lv_if_eq (tgt := 49) hx hb wd_M_rules_42 (by decide) (fun c20 => ?_) (fun c20 => ?_)
        · have hf := wc_t c20 hf
          exact J49 a1 a2 a3 a4 σ18 hf _ _ _ hP hD hS (lv_sub hl [0, 1, 2, 3, 4] rfl)
        · have hf := wc_f c20 hf
          refine lv_iconst (v := 1) hx hb wd_M_rules_45 (by decide) ?_
          refine lv_goto (tgt := 50) hx hb wd_M_rules_46 (by decide) ?_
          exact J50 a1 a2 a3 a4 1 σ18 hf _ _ _ hP hD hS (lv_sub hl [0, 1, 2, 3, 4] rfl)
set_option maxHeartbeats 4000000 in
set_option maxRecDepth 100000 in
theorem wm_M_costOf (l : Launch) (D : va_G) (ad : Nat → Nat) (cI cZ cJ cG : ClassId) (sz : Nat) (a1 : Int32) (a2 : Int32) (σ : wc_S) (res : Int32 × wc_S) (hf : wf_M_costOf a1 a2 σ = some res) : Met l wy_M_costOf (wx_ws_M_costOf) ({ frames := 0, cells := 0, slots := 0, locals := 0 }) (va_Pc [.ref (ad 71), .int a1, .int a2] (wx_pre D ad cI cZ cJ cG σ sz)) (wx_Qi D ad cI cZ cJ cG res (va_A (wx_W ad cI cZ cJ cG σ) sz)) 0 0 (va_A (wx_W ad cI cZ cJ cG σ) sz) := by
  refine wx_ofW (cc := prog_8_method_13_code) (maxL := 5) (ret := (some .int)) (Qc := fun A => wx_Qi D ad cI cZ cJ cG res A) [.ref (ad 71), .int a1, .int a2] (by decide) rfl (Nat.le_of_ble_eq_true rfl) ?_
  intro p e s m args below meth c A ls hin hl
  obtain ⟨hx, hb, hr, hts, hown, hlocks, hml, hA, hP, hK, hD, hC, hN, hS⟩ := hin
  have hl : lv_has ls 5 [(0, .ref (ad 71)), (1, .int a1), (2, .int a2)] := hl
  have J63 : ∀ (k17 : Int32 → Int32 → Int32 → wc_S → Option (Int32 × wc_S)) (hk17 : (∀ (x1 : Int32) (x3 : Int32) (x4 : Int32) (σ : wc_S), k17 x1 x3 x4 σ = some res → wx_Arr p l e ({ frames := 0, cells := 0, slots := 0, locals := 0 }) s m args below meth c D ad cI cZ cJ cG A (MQ below (wx_Qi D ad cI cZ cJ cG res A) args s 0 0 A) 5 0 0 17 [(0, .ref (ad 71)), (1, .int x1), (3, .int x3), (4, .int x4)] [] σ)) (x1 : Int32) (x3 : Int32) (x4 : Int32) (σ : wc_S), wf_M_costOf_63 k17 x1 x3 x4 σ = some res → wx_Arr p l e ({ frames := 0, cells := 0, slots := 0, locals := 0 }) s m args below meth c D ad cI cZ cJ cG A (MQ below (wx_Qi D ad cI cZ cJ cG res A) args s 0 0 A) 5 0 0 63 [(0, .ref (ad 71)), (1, .int x1), (3, .int x3), (4, .int x4)] [] σ := by
    intro k17 hk17 x1 x3 x4 σ hf H locs ls hP hD hS hl
    unfold wf_M_costOf_63 at hf
    obtain ⟨v14, ev14⟩ : ∃ y : Int32, y = x4 + 1 := ⟨_, rfl⟩
    have hf := wc_st_e ev14 hf
    refine lv_iinc (v := v14) (lv' := [(4, .int v14), (0, .ref (ad 71)), (1, .int x1), (3, .int x3)]) hx hb wd_M_costOf_63 hl (k := 3) rfl (by rw [ev14]; rfl) (by decide) rfl (fun ls hl => ?_)
    refine lv_goto (tgt := 17) hx hb wd_M_costOf_66 (by decide) ?_
    exact hk17 x1 x3 v14 σ hf _ _ _ hP hD hS (lv_sub hl [1, 2, 3, 0] rfl)
  have J17 : ∀ (n : Nat) (x1 : Int32) (x3 : Int32) (x4 : Int32) (σ : wc_S), wf_M_costOf_17 n x1 x3 x4 σ = some res → wx_Arr p l e ({ frames := 0, cells := 0, slots := 0, locals := 0 }) s m args below meth c D ad cI cZ cJ cG A (MQ below (wx_Qi D ad cI cZ cJ cG res A) args s 0 0 A) 5 0 0 17 [(0, .ref (ad 71)), (1, .int x1), (3, .int x3), (4, .int x4)] [] σ := by
    intro  n
    induction n with
    | zero => intro x1 x3 x4 σ hf; exact absurd hf (by intro h9; cases h9)
    | succ n hk17 =>
      intro x1 x3 x4 σ hf H locs ls hP hD hS hl
      have hf : wf_M_costOf_17_b (wf_M_costOf_17 n) x1 x3 x4 σ = some res := hf
      unfold wf_M_costOf_17_b at hf
      refine lv_iload hx hb wd_M_costOf_17 (lv_at hl 3 rfl) ?_
      refine lv_bipush (v := 8) hx hb wd_M_costOf_19 (by decide) ?_
      refine lv_iload_n hx hb wd_M_costOf_21 rfl (lv_at hl 1 rfl) ?_
      refine lv_imul hx hb wd_M_costOf_22 ?_
      refine lv_topi (fun v3 ev3 => ?_)
      have hf := wc_st_e ev3 hf
      refine lv_aload_n hx hb wd_M_costOf_23 rfl (lv_at hl 0 rfl) ?_
      refine wx_get (v := .ref (ad 78)) (C := "WidthCampaignsModel") (T := wx_TM) (N' := 29) hx hb hts wi_M hown hK hP 71 (by decide) rfl rfl 8 (by decide) wt_638 (fun _ h9 => h9) rfl wd_M_costOf_24 ?_
      refine lv_iload_n hx hb wd_M_costOf_27 rfl (lv_at hl 1 rfl) ?_
      obtain ⟨h4, hf⟩ := wc_gd_e hf
      refine wx_iald hx hb hK hP 78 (n := 2) (by decide) rfl (wc_in_e h4) wd_M_costOf_28 ?_
      refine lv_topi (fun v5 ev5 => ?_)
      have hf := wc_st_e ev5 hf
      refine lv_iadd hx hb wd_M_costOf_29 ?_
      refine lv_topi (fun v6 ev6 => ?_)
      have hf := wc_st_e ev6 hf
      refine lv_icmp_ge (tgt := 69) hx hb wd_M_costOf_30 (by decide) (fun c7 => ?_) (fun c7 => ?_)
      · have hf := wc_t c7 hf
        refine lv_aload_n hx hb wd_M_costOf_69 rfl (lv_at hl 0 rfl) ?_
        refine wx_get (v := .ref (ad 78)) (C := "WidthCampaignsModel") (T := wx_TM) (N' := 29) hx hb hts wi_M hown hK hP 71 (by decide) rfl rfl 8 (by decide) wt_638 (fun _ h9 => h9) rfl wd_M_costOf_70 ?_
        refine lv_iload_n hx hb wd_M_costOf_73 rfl (lv_at hl 1 rfl) ?_
        obtain ⟨h8, hf⟩ := wc_gd_e hf
        refine wx_iald hx hb hK hP 78 (n := 2) (by decide) rfl (wc_in_e h8) wd_M_costOf_74 ?_
        refine lv_topi (fun v9 ev9 => ?_)
        have hf := wc_st_e ev9 hf
        refine lv_if_ne (tgt := 82) hx hb wd_M_costOf_75 (by decide) (fun c10 => ?_) (fun c10 => ?_)
        · have hf := wc_f c10 hf
          refine lv_iconst (v := (-1)) hx hb wd_M_costOf_82 (by decide) ?_
          exact wx_iret hx hb hr hlocks hf hP hS wd_M_costOf_83
        · have hf := wc_t c10 hf
          refine lv_iconst (v := 0) hx hb wd_M_costOf_78 (by decide) ?_
          refine lv_goto (tgt := 83) hx hb wd_M_costOf_79 (by decide) ?_
          exact wx_iret hx hb hr hlocks hf hP hS wd_M_costOf_83
      · have hf := wc_f c7 hf
        refine lv_iload_n hx hb wd_M_costOf_33 rfl (lv_at hl 2 rfl) ?_
        refine lv_aload_n hx hb wd_M_costOf_34 rfl (lv_at hl 0 rfl) ?_
        refine wx_get (v := .ref (ad 79)) (C := "WidthCampaignsModel") (T := wx_TM) (N' := 29) hx hb hts wi_M hown hK hP 71 (by decide) rfl rfl 9 (by decide) wt_639 (fun _ h9 => h9) rfl wd_M_costOf_35 ?_
        refine lv_iload hx hb wd_M_costOf_38 (lv_at hl 3 rfl) ?_
        obtain ⟨h11, hf⟩ := wc_gd_e hf
        refine wx_iald hx hb hK hP 79 (n := 16) (by decide) rfl (wc_in_e h11) wd_M_costOf_40 ?_
        refine lv_topi (fun v12 ev12 => ?_)
        have hf := wc_st_e ev12 hf
        refine lv_icmp_lt (tgt := 63) hx hb wd_M_costOf_41 (by decide) (fun c13 => ?_) (fun c13 => ?_)
        · have hf := wc_t c13 hf
          exact J63 (wf_M_costOf_17 n) hk17 x1 x3 x4 σ hf _ _ _ hP hD hS (lv_sub hl [0, 1, 2, 3] rfl)
        · have hf := wc_f c13 hf
          refine lv_iload_n hx hb wd_M_costOf_44 rfl (lv_at hl 2 rfl) ?_
          refine lv_aload_n hx hb wd_M_costOf_45 rfl (lv_at hl 0 rfl) ?_
          refine wx_get (v := .ref (ad 80)) (C := "WidthCampaignsModel") (T := wx_TM) (N' := 29) hx hb hts wi_M hown hK hP 71 (by decide) rfl rfl 10 (by decide) wt_640 (fun _ h9 => h9) rfl wd_M_costOf_46 ?_
          refine lv_iload hx hb wd_M_costOf_49 (lv_at hl 3 rfl) ?_
          obtain ⟨h15, hf⟩ := wc_gd_e hf
          refine wx_iald hx hb hK hP 80 (n := 16) (by decide) rfl (wc_in_e h15) wd_M_costOf_51 ?_
          refine lv_topi (fun v16 ev16 => ?_)
          have hf := wc_st_e ev16 hf
          refine lv_icmp_gt (tgt := 63) hx hb wd_M_costOf_52 (by decide) (fun c17 => ?_) (fun c17 => ?_)
          · have hf := wc_t c17 hf
            exact J63 (wf_M_costOf_17 n) hk17 x1 x3 x4 σ hf _ _ _ hP hD hS (lv_sub hl [0, 1, 2, 3] rfl)
          · have hf := wc_f c17 hf
            refine lv_aload_n hx hb wd_M_costOf_55 rfl (lv_at hl 0 rfl) ?_
            refine wx_get (v := .ref (ad 81)) (C := "WidthCampaignsModel") (T := wx_TM) (N' := 29) hx hb hts wi_M hown hK hP 71 (by decide) rfl rfl 11 (by decide) wt_641 (fun _ h9 => h9) rfl wd_M_costOf_56 ?_
            refine lv_iload hx hb wd_M_costOf_59 (lv_at hl 3 rfl) ?_
            obtain ⟨h18, hf⟩ := wc_gd_e hf
            refine wx_iald hx hb hK hP 81 (n := 16) (by decide) rfl (wc_in_e h18) wd_M_costOf_61 ?_
            refine lv_topi (fun v19 ev19 => ?_)
            have hf := wc_st_e ev19 hf
            exact wx_iret hx hb hr hlocks hf hP hS wd_M_costOf_62
  have J10 : ∀ (x1 : Int32) (s0 : Int32) (σ : wc_S), wf_M_costOf_10 x1 s0 σ = some res → wx_Arr p l e ({ frames := 0, cells := 0, slots := 0, locals := 0 }) s m args below meth c D ad cI cZ cJ cG A (MQ below (wx_Qi D ad cI cZ cJ cG res A) args s 0 0 A) 5 0 0 10 [(0, .ref (ad 71)), (1, .int x1)] [.int s0] σ := by
    intro  x1 s0 σ hf H locs ls hP hD hS hl
    unfold wf_M_costOf_10 at hf
    refine lv_istore_n (lv' := [(3, .int s0), (0, .ref (ad 71)), (1, .int x1)]) hx hb wd_M_costOf_10 rfl hl (by decide) rfl (fun ls hl => ?_)
    refine lv_bipush (v := 8) hx hb wd_M_costOf_11 (by decide) ?_
    refine lv_iload_n hx hb wd_M_costOf_13 rfl (lv_at hl 2 rfl) ?_
    refine lv_imul hx hb wd_M_costOf_14 ?_
    refine lv_topi (fun v2 ev2 => ?_)
    have hf := wc_st_e ev2 hf
    refine lv_istore (lv' := [(4, .int v2), (3, .int s0), (0, .ref (ad 71)), (1, .int x1)]) hx hb wd_M_costOf_15 hl (by decide) rfl (fun ls hl => ?_)
    exact J17 16 x1 s0 v2 σ hf _ _ _ hP hD hS (lv_sub hl [2, 3, 1, 0] rfl)
  unfold wf_M_costOf at hf
  refine lv_iload_n hx hb wd_M_costOf_0 rfl (lv_at hl 2 rfl) ?_
  refine lv_if_ge (tgt := 9) hx hb wd_M_costOf_1 (by decide) (fun c1 => ?_) (fun c1 => ?_)
  · have hf := wc_t c1 hf
    refine lv_iload_n hx hb wd_M_costOf_9 rfl (lv_at hl 2 rfl) ?_
    exact J10 a1 a2 σ hf _ _ _ hP hD hS (lv_sub hl [0, 1] rfl)
  · have hf := wc_f c1 hf
    refine lv_iload_n hx hb wd_M_costOf_4 rfl (lv_at hl 2 rfl) ?_
    refine lv_ineg hx hb wd_M_costOf_5 ?_
    refine lv_topi (fun v20 ev20 => ?_)
    have hf := wc_st_e ev20 hf
    refine lv_goto (tgt := 10) hx hb wd_M_costOf_6 (by decide) ?_
    exact J10 a1 v20 σ hf _ _ _ hP hD hS (lv_sub hl [0, 1] rfl)
