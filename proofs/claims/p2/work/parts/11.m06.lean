set_option maxHeartbeats 4000000 in
set_option maxRecDepth 100000 in
theorem wm_M_coil (l : Launch) (D : va_G) (ad : Nat → Nat) (cI cZ cJ cG : ClassId) (sz : Nat) (a1 : Int32) (a2 : Int32) (a3 : Int32) (a4 : Int32) (σ : wc_S) (res : Int32 × wc_S) (hf : wf_M_coil a1 a2 a3 a4 σ = some res) : Met l wy_M_coil (wx_ws_M_coil) ({ frames := 1, cells := 0, slots := 0, locals := 23 }) (va_Pc [.ref (ad 71), .int a1, .int a2, .int a3, .int a4] (wx_pre D ad cI cZ cJ cG σ sz)) (wx_Qi D ad cI cZ cJ cG res (va_A (wx_W ad cI cZ cJ cG σ) sz)) 0 0 (va_A (wx_W ad cI cZ cJ cG σ) sz) := by
  refine wx_ofW (cc := prog_8_method_7_code) (maxL := 5) (ret := (some .int)) (Qc := fun A => wx_Qi D ad cI cZ cJ cG res A) [.ref (ad 71), .int a1, .int a2, .int a3, .int a4] (by decide) rfl (Nat.le_of_ble_eq_true rfl) ?_
  intro p e s m args below meth c A ls hin hl
  obtain ⟨hx, hb, hr, hts, hown, hlocks, hml, hA, hP, hK, hD, hC, hN, hS⟩ := hin
  have hl : lv_has ls 5 [(0, .ref (ad 71)), (1, .int a1), (2, .int a2), (3, .int a3), (4, .int a4)] := hl
  have J63 : ∀ (x1 : Int32) (x2 : Int32) (x3 : Int32) (x4 : Int32) (s1 : Int32) (s2 : Int32) (σ : wc_S), wf_M_coil_63 x1 x2 x3 x4 s1 s2 σ = some res → wx_Arr p l e ({ frames := 1, cells := 0, slots := 0, locals := 23 }) s m args below meth c D ad cI cZ cJ cG A (MQ below (wx_Qi D ad cI cZ cJ cG res A) args s 0 0 A) 5 0 0 63 [(0, .ref (ad 71)), (1, .int x1), (2, .int x2), (3, .int x3), (4, .int x4)] [.int s2, .int s1, .ref (ad 71)] σ := by
    intro  x1 x2 x3 x4 s1 s2 σ hf H locs ls hP hD hS hl
    unfold wf_M_coil_63 at hf
    refine lv_iconst (v := 1) hx hb wd_M_coil_63 (by decide) ?_
    obtain ⟨r7, σ6, hq, hf⟩ := wc_b2_e hf
    refine wx_calli (va_runV (As := [.int s1, .int s2, .int 1]) (rest := []) ⟨hx, hb, hml, hown, hts⟩ (wm_M_goes l D ad cI cZ cJ cG _ s1 s2 1 σ _ hq) (wx_cwV 3 hts wt_732 wt_731 wp_32 wt_7 wt_729 wh_M_goes rfl rfl ⟨Nat.le_of_ble_eq_true rfl, Nat.le_of_ble_eq_true rfl⟩) (wx_preV hK hP hD hS hA hC (by decide) rfl rfl) rfl rfl hl.1 rfl (lv_room (Nat.le_of_ble_eq_true rfl)) wd_M_coil_64 ⟨Nat.le_of_ble_eq_true rfl, Nat.le_of_ble_eq_true rfl⟩) hD hS hA (fun H locs hP hD hS => ?_)
    refine lv_if_ne (tgt := 72) hx hb wd_M_coil_67 (by decide) (fun c8 => ?_) (fun c8 => ?_)
    · have hf := wc_f c8 hf
      refine lv_aload_n hx hb wd_M_coil_72 rfl (lv_at hl 0 rfl) ?_
      refine wx_get (v := .ref (ad 72)) (C := "WidthCampaignsModel") (T := wx_TM) (N' := 29) hx hb hts wi_M hown hK hP 71 (by decide) rfl rfl 2 (by decide) wt_632 (fun _ h9 => h9) rfl wd_M_coil_73 ?_
      refine lv_aload_n hx hb wd_M_coil_76 rfl (lv_at hl 0 rfl) ?_
      refine wx_get (v := .int (σ6 71 1)) (C := "WidthCampaignsModel") (T := wx_TM) (N' := 29) hx hb hts wi_M hown hK hP 71 (by decide) rfl rfl 1 (by decide) wt_631 (fun _ h9 => h9) rfl wd_M_coil_77 ?_
      refine lv_topi (fun v9 ev9 => ?_)
      have hf := wc_st_e ev9 hf
      refine lv_iload_n hx hb wd_M_coil_80 rfl (lv_at hl 1 rfl) ?_
      obtain ⟨h10, hf⟩ := wc_gd_e hf
      refine wx_iast hx hb hK hP hD hS 72 (n := 9) (by decide) (fun _ => rfl) h10 wd_M_coil_81 (fun σ11 H locs eσ11 hP hD hS => ?_)
      have hf := wc_st_e eσ11 hf
      refine lv_aload_n hx hb wd_M_coil_82 rfl (lv_at hl 0 rfl) ?_
      refine wx_get (v := .ref (ad 73)) (C := "WidthCampaignsModel") (T := wx_TM) (N' := 29) hx hb hts wi_M hown hK hP 71 (by decide) rfl rfl 3 (by decide) wt_633 (fun _ h9 => h9) rfl wd_M_coil_83 ?_
      refine lv_aload_n hx hb wd_M_coil_86 rfl (lv_at hl 0 rfl) ?_
      refine wx_get (v := .int (σ11 71 1)) (C := "WidthCampaignsModel") (T := wx_TM) (N' := 29) hx hb hts wi_M hown hK hP 71 (by decide) rfl rfl 1 (by decide) wt_631 (fun _ h9 => h9) rfl wd_M_coil_87 ?_
      refine lv_topi (fun v12 ev12 => ?_)
      have hf := wc_st_e ev12 hf
      refine lv_iload_n hx hb wd_M_coil_90 rfl (lv_at hl 2 rfl) ?_
      obtain ⟨h13, hf⟩ := wc_gd_e hf
      refine wx_iast hx hb hK hP hD hS 73 (n := 9) (by decide) (fun _ => rfl) h13 wd_M_coil_91 (fun σ14 H locs eσ14 hP hD hS => ?_)
      have hf := wc_st_e eσ14 hf
      refine lv_aload_n hx hb wd_M_coil_92 rfl (lv_at hl 0 rfl) ?_
      refine wx_get (v := .ref (ad 74)) (C := "WidthCampaignsModel") (T := wx_TM) (N' := 29) hx hb hts wi_M hown hK hP 71 (by decide) rfl rfl 4 (by decide) wt_634 (fun _ h9 => h9) rfl wd_M_coil_93 ?_
      refine lv_aload_n hx hb wd_M_coil_96 rfl (lv_at hl 0 rfl) ?_
      refine wx_get (v := .int (σ14 71 1)) (C := "WidthCampaignsModel") (T := wx_TM) (N' := 29) hx hb hts wi_M hown hK hP 71 (by decide) rfl rfl 1 (by decide) wt_631 (fun _ h9 => h9) rfl wd_M_coil_97 ?_
      refine lv_topi (fun v15 ev15 => ?_)
      have hf := wc_st_e ev15 hf
      refine lv_iload_n hx hb wd_M_coil_100 rfl (lv_at hl 3 rfl) ?_
      obtain ⟨h16, hf⟩ := wc_gd_e hf
      refine wx_iast hx hb hK hP hD hS 74 (n := 9) (by decide) (fun _ => rfl) h16 wd_M_coil_101 (fun σ17 H locs eσ17 hP hD hS => ?_)
      have hf := wc_st_e eσ17 hf
      refine lv_aload_n hx hb wd_M_coil_102 rfl (lv_at hl 0 rfl) ?_
      refine wx_get (v := .ref (ad 75)) (C := "WidthCampaignsModel") (T := wx_TM) (N' := 29) hx hb hts wi_M hown hK hP 71 (by decide) rfl rfl 5 (by decide) wt_635 (fun _ h9 => h9) rfl wd_M_coil_103 ?_
      refine lv_aload_n hx hb wd_M_coil_106 rfl (lv_at hl 0 rfl) ?_
      refine wx_get (v := .int (σ17 71 1)) (C := "WidthCampaignsModel") (T := wx_TM) (N' := 29) hx hb hts wi_M hown hK hP 71 (by decide) rfl rfl 1 (by decide) wt_631 (fun _ h9 => h9) rfl wd_M_coil_107 ?_
      refine lv_topi (fun v18 ev18 => ?_)
      have hf := wc_st_e ev18 hf
      refine lv_iload hx hb wd_M_coil_110 (lv_at hl 4 rfl) ?_
      obtain ⟨h19, hf⟩ := wc_gd_e hf
      refine wx_iast hx hb hK hP hD hS 75 (n := 9) (by decide) (fun _ => rfl) h19 wd_M_coil_112 (fun σ20 H locs eσ20 hP hD hS => ?_)
      have hf := wc_st_e eσ20 hf
      refine lv_aload_n hx hb wd_M_coil_113 rfl (lv_at hl 0 rfl) ?_
      refine wx_get (v := .ref (ad 76)) (C := "WidthCampaignsModel") (T := wx_TM) (N' := 29) hx hb hts wi_M hown hK hP 71 (by decide) rfl rfl 6 (by decide) wt_636 (fun _ h9 => h9) rfl wd_M_coil_114 ?_
      refine lv_aload_n hx hb wd_M_coil_117 rfl (lv_at hl 0 rfl) ?_
      refine wx_get (v := .int (σ20 71 1)) (C := "WidthCampaignsModel") (T := wx_TM) (N' := 29) hx hb hts wi_M hown hK hP 71 (by decide) rfl rfl 1 (by decide) wt_631 (fun _ h9 => h9) rfl wd_M_coil_118 ?_
      refine lv_topi (fun v21 ev21 => ?_)
      have hf := wc_st_e ev21 hf
      refine lv_bipush (v := 8) hx hb wd_M_coil_121 (by decide) ?_
      obtain ⟨h22, hf⟩ := wc_gd_e hf
      refine wx_iast hx hb hK hP hD hS 76 (n := 9) (by decide) (fun _ => rfl) h22 wd_M_coil_123 (fun σ23 H locs eσ23 hP hD hS => ?_)
      have hf := wc_st_e eσ23 hf
      refine lv_aload_n hx hb wd_M_coil_124 rfl (lv_at hl 0 rfl) ?_
      refine wx_get (v := .ref (ad 77)) (C := "WidthCampaignsModel") (T := wx_TM) (N' := 29) hx hb hts wi_M hown hK hP 71 (by decide) rfl rfl 7 (by decide) wt_637 (fun _ h9 => h9) rfl wd_M_coil_125 ?_
      refine lv_aload_n hx hb wd_M_coil_128 rfl (lv_at hl 0 rfl) ?_
      refine wx_get (v := .int (σ23 71 1)) (C := "WidthCampaignsModel") (T := wx_TM) (N' := 29) hx hb hts wi_M hown hK hP 71 (by decide) rfl rfl 1 (by decide) wt_631 (fun _ h9 => h9) rfl wd_M_coil_129 ?_
      refine lv_topi (fun v24 ev24 => ?_)
      have hf := wc_st_e ev24 hf
      refine lv_iconst (v := (-1)) hx hb wd_M_coil_132 (by decide) ?_
      obtain ⟨h25, hf⟩ := wc_gd_e hf
      refine wx_iast hx hb hK hP hD hS 77 (n := 9) (by decide) (fun _ => rfl) h25 wd_M_coil_133 (fun σ26 H locs eσ26 hP hD hS => ?_)
      have hf := wc_st_e eσ26 hf
      refine lv_aload_n hx hb wd_M_coil_134 rfl (lv_at hl 0 rfl) ?_
      refine lv_dup hx hb wd_M_coil_135 rfl ?_
      refine wx_get (v := .int (σ26 71 1)) (C := "WidthCampaignsModel") (T := wx_TM) (N' := 29) hx hb hts wi_M hown hK hP 71 (by decide) rfl rfl 1 (by decide) wt_631 (fun _ h9 => h9) rfl wd_M_coil_136 ?_
      refine lv_topi (fun v27 ev27 => ?_)
      have hf := wc_st_e ev27 hf
      refine lv_iconst (v := 1) hx hb wd_M_coil_139 (by decide) ?_
      refine lv_iadd hx hb wd_M_coil_140 ?_
      refine lv_topi (fun v28 ev28 => ?_)
      have hf := wc_st_e ev28 hf
      refine wx_put (x := v28) (ty := .int) (C := "WidthCampaignsModel") (T := wx_TM) (N' := 29) hx hb hts wi_M wx_tM wx_toM wx_nM hown hK hP hD hS 71 (by decide) (fun _ => rfl) rfl 1 (by decide) wt_631 (fun _ h9 => h9) rfl (by decide +kernel) rfl rfl (Nat.le_of_ble_eq_true rfl) rfl wd_M_coil_141 (fun σ29 H locs eσ29 hP hD hS => ?_)
      have hf := wc_st_e eσ29 hf
      refine lv_aload_n hx hb wd_M_coil_144 rfl (lv_at hl 0 rfl) ?_
      obtain ⟨σ30, hq, hf⟩ := wc_b1_e hf
      refine wx_callv (va_runV (As := []) (rest := []) ⟨hx, hb, hml, hown, hts⟩ (wm_M_gone l D ad cI cZ cJ cG _ σ29 _ hq) (wx_cwV 0 hts wt_736 wt_735 wp_33 wt_7 wt_733 wh_M_gone rfl rfl ⟨Nat.le_of_ble_eq_true rfl, Nat.le_of_ble_eq_true rfl⟩) (wx_preV hK hP hD hS hA hC (by decide) rfl rfl) rfl rfl hl.1 rfl (lv_room (Nat.le_of_ble_eq_true rfl)) wd_M_coil_145 ⟨Nat.le_of_ble_eq_true rfl, Nat.le_of_ble_eq_true rfl⟩) hD hS hA (fun H locs hP hD hS => ?_)
      refine lv_aload_n hx hb wd_M_coil_148 rfl (lv_at hl 0 rfl) ?_
      refine wx_get (v := .int (σ30 71 1)) (C := "WidthCampaignsModel") (T := wx_TM) (N' := 29) hx hb hts wi_M hown hK hP 71 (by decide) rfl rfl 1 (by decide) wt_631 (fun _ h9 => h9) rfl wd_M_coil_149 ?_
      refine lv_topi (fun v31 ev31 => ?_)
      have hf := wc_st_e ev31 hf
      refine lv_iconst (v := 1) hx hb wd_M_coil_152 (by decide) ?_
      refine lv_isub hx hb wd_M_coil_153 ?_
      refine lv_topi (fun v32 ev32 => ?_)
      have hf := wc_st_e ev32 hf
      exact wx_iret hx hb hr hlocks hf hP hS wd_M_coil_154
    · have hf := wc_t c8 hf
      refine lv_iconst (v := 0) hx hb wd_M_coil_70 (by decide) ?_
      exact wx_iret hx hb hr hlocks hf hP hS wd_M_coil_71
  have J49 : ∀ (x1 : Int32) (x2 : Int32) (x3 : Int32) (x4 : Int32) (s1 : Int32) (σ : wc_S), wf_M_coil_49 x1 x2 x3 x4 s1 σ = some res → wx_Arr p l e ({ frames := 1, cells := 0, slots := 0, locals := 23 }) s m args below meth c D ad cI cZ cJ cG A (MQ below (wx_Qi D ad cI cZ cJ cG res A) args s 0 0 A) 5 0 0 49 [(0, .ref (ad 71)), (1, .int x1), (2, .int x2), (3, .int x3), (4, .int x4)] [.int s1, .ref (ad 71)] σ := by
    intro  x1 x2 x3 x4 s1 σ hf H locs ls hP hD hS hl
    unfold wf_M_coil_49 at hf
    refine lv_aload_n hx hb wd_M_coil_49 rfl (lv_at hl 0 rfl) ?_
    refine wx_get (v := .int (σ 71 1)) (C := "WidthCampaignsModel") (T := wx_TM) (N' := 29) hx hb hts wi_M hown hK hP 71 (by decide) rfl rfl 1 (by decide) wt_631 (fun _ h9 => h9) rfl wd_M_coil_50 ?_
    refine lv_topi (fun v4 ev4 => ?_)
    have hf := wc_st_e ev4 hf
    refine lv_bipush (v := 9) hx hb wd_M_coil_53 (by decide) ?_
    refine lv_icmp_ge (tgt := 62) hx hb wd_M_coil_55 (by decide) (fun c5 => ?_) (fun c5 => ?_)
    · have hf := wc_t c5 hf
      refine lv_iconst (v := 0) hx hb wd_M_coil_62 (by decide) ?_
      exact J63 x1 x2 x3 x4 s1 0 σ hf _ _ _ hP hD hS (lv_sub hl [0, 1, 2, 3, 4] rfl)
    · have hf := wc_f c5 hf
      refine lv_iconst (v := 1) hx hb wd_M_coil_58 (by decide) ?_
      refine lv_goto (tgt := 63) hx hb wd_M_coil_59 (by decide) ?_
      exact J63 x1 x2 x3 x4 s1 1 σ hf _ _ _ hP hD hS (lv_sub hl [0, 1, 2, 3, 4] rfl)
  have J48 : ∀ (x1 : Int32) (x2 : Int32) (x3 : Int32) (x4 : Int32) (σ : wc_S), wf_M_coil_48 x1 x2 x3 x4 σ = some res → wx_Arr p l e ({ frames := 1, cells := 0, slots := 0, locals := 23 }) s m args below meth c D ad cI cZ cJ cG A (MQ below (wx_Qi D ad cI cZ cJ cG res A) args s 0 0 A) 5 0 0 48 [(0, .ref (ad 71)), (1, .int x1), (2, .int x2), (3, .int x3), (4, .int x4)] [.ref (ad 71)] σ := by
    intro  x1 x2 x3 x4 σ hf H locs ls hP hD hS hl
    unfold wf_M_coil_48 at hf
    refine lv_iconst (v := 0) hx hb wd_M_coil_48 (by decide) ?_
    exact J49 x1 x2 x3 x4 0 σ hf _ _ _ hP hD hS (lv_sub hl [0, 1, 2, 3, 4] rfl)
  unfold wf_M_coil at hf
  refine lv_aload_n hx hb wd_M_coil_0 rfl (lv_at hl 0 rfl) ?_
  refine lv_iload_n hx hb wd_M_coil_1 rfl (lv_at hl 1 rfl) ?_
  refine lv_iconst (v := 1) hx hb wd_M_coil_2 (by decide) ?_
  refine lv_sipush (v := 2000) hx hb wd_M_coil_3 (by decide) ?_
  obtain ⟨r2, σ1, hq, hf⟩ := wc_b2_e hf
  refine wx_calli (va_runS (As := [.int a1, .int 1, .int 2000]) (rest := [.ref (ad 71)]) ⟨hx, hb, hml, hown, hts⟩ (wm_M_in l D ad cI cZ cJ cG _ a1 1 2000 σ _ hq) (wx_cwS 3 hts wt_728 wt_727 wt_7 wt_726 wh_M_in rfl rfl ⟨Nat.le_of_ble_eq_true rfl, Nat.le_of_ble_eq_true rfl⟩) (wx_preS hK hP hD hS hA hC) rfl rfl hl.1 rfl (lv_room (Nat.le_of_ble_eq_true rfl)) wd_M_coil_6 ⟨Nat.le_of_ble_eq_true rfl, Nat.le_of_ble_eq_true rfl⟩) hD hS hA (fun H locs hP hD hS => ?_)
  refine lv_if_eq (tgt := 48) hx hb wd_M_coil_9 (by decide) (fun c3 => ?_) (fun c3 => ?_)
  · have hf := wc_t c3 hf
    exact J48 a1 a2 a3 a4 σ1 hf _ _ _ hP hD hS (lv_sub hl [0, 1, 2, 3, 4] rfl)
  · have hf := wc_f c3 hf
    refine lv_iload_n hx hb wd_M_coil_12 rfl (lv_at hl 2 rfl) ?_
    refine lv_iconst (v := 1) hx hb wd_M_coil_13 (by decide) ?_
    refine lv_sipush (v := 1000) hx hb wd_M_coil_14 (by decide) ?_
    obtain ⟨r34, σ33, hq, hf⟩ := wc_b2_e hf
    refine wx_calli (va_runS (As := [.int a2, .int 1, .int 1000]) (rest := [.ref (ad 71)]) ⟨hx, hb, hml, hown, hts⟩ (wm_M_in l D ad cI cZ cJ cG _ a2 1 1000 σ1 _ hq) (wx_cwS 3 hts wt_728 wt_727 wt_7 wt_726 wh_M_in rfl rfl ⟨Nat.le_of_ble_eq_true rfl, Nat.le_of_ble_eq_true rfl⟩) (wx_preS hK hP hD hS hA hC) rfl rfl hl.1 rfl (lv_room (Nat.le_of_ble_eq_true rfl)) wd_M_coil_17 ⟨Nat.le_of_ble_eq_true rfl, Nat.le_of_ble_eq_true rfl⟩) hD hS hA (fun H locs hP hD hS => ?_)
    refine lv_if_eq (tgt := 48) hx hb wd_M_coil_20 (by decide) (fun c35 => ?_) (fun c35 => ?_)
    · have hf := wc_t c35 hf
      exact J48 a1 a2 a3 a4 σ33 hf _ _ _ hP hD hS (lv_sub hl [0, 1, 2, 3, 4] rfl)
    · have hf := wc_f c35 hf
      refine lv_iload_n hx hb wd_M_coil_23 rfl (lv_at hl 3 rfl) ?_
      refine lv_iconst (v := 0) hx hb wd_M_coil_24 (by decide) ?_
      refine lv_bipush (v := 9) hx hb wd_M_coil_25 (by decide) ?_
      obtain ⟨r37, σ36, hq, hf⟩ := wc_b2_e hf
      refine wx_calli (va_runS (As := [.int a3, .int 0, .int 9]) (rest := [.ref (ad 71)]) ⟨hx, hb, hml, hown, hts⟩ (wm_M_in l D ad cI cZ cJ cG _ a3 0 9 σ33 _ hq) (wx_cwS 3 hts wt_728 wt_727 wt_7 wt_726 wh_M_in rfl rfl ⟨Nat.le_of_ble_eq_true rfl, Nat.le_of_ble_eq_true rfl⟩) (wx_preS hK hP hD hS hA hC) rfl rfl hl.1 rfl (lv_room (Nat.le_of_ble_eq_true rfl)) wd_M_coil_27 ⟨Nat.le_of_ble_eq_true rfl, Nat.le_of_ble_eq_true rfl⟩) hD hS hA (fun H locs hP hD hS => ?_)
      refine lv_if_eq (tgt := 48) hx hb wd_M_coil_30 (by decide) (fun c38 => ?_) (fun c38 => ?_)
      · have hf := wc_t c38 hf
        exact J48 a1 a2 a3 a4 σ36 hf _ _ _ hP hD hS (lv_sub hl [0, 1, 2, 3, 4] rfl)
      · have hf := wc_f c38 hf
        refine lv_iload hx hb wd_M_coil_33 (lv_at hl 4 rfl) ?_
        refine lv_iconst (v := 1) hx hb wd_M_coil_35 (by decide) ?_
        refine lv_bipush (v := 100) hx hb wd_M_coil_36 (by decide) ?_
        obtain ⟨r40, σ39, hq, hf⟩ := wc_b2_e hf
        refine wx_calli (va_runS (As := [.int a4, .int 1, .int 100]) (rest := [.ref (ad 71)]) ⟨hx, hb, hml, hown, hts⟩ (wm_M_in l D ad cI cZ cJ cG _ a4 1 100 σ36 _ hq) (wx_cwS 3 hts wt_728 wt_727 wt_7 wt_726 wh_M_in rfl rfl ⟨Nat.le_of_ble_eq_true rfl, Nat.le_of_ble_eq_true rfl⟩) (wx_preS hK hP hD hS hA hC) rfl rfl hl.1 rfl (lv_room (Nat.le_of_ble_eq_true rfl)) wd_M_coil_38 ⟨Nat.le_of_ble_eq_true rfl, Nat.le_of_ble_eq_true rfl⟩) hD hS hA (fun H locs hP hD hS => ?_)
        refine lv_if_eq (tgt := 48) hx hb wd_M_coil_41 (by decide) (fun c41 => ?_) (fun c41 => ?_)
        · have hf := wc_t c41 hf
          exact J48 a1 a2 a3 a4 σ39 hf _ _ _ hP hD hS (lv_sub hl [0, 1, 2, 3, 4] rfl)
        · have hf := wc_f c41 hf
          refine lv_iconst (v := 1) hx hb wd_M_coil_44 (by decide) ?_
          refine lv_goto (tgt := 49) hx hb wd_M_coil_45 (by decide) ?_
          exact J49 a1 a2 a3 a4 1 σ39 hf _ _ _ hP hD hS (lv_sub hl [0, 1, 2, 3, 4] rfl)
set_option maxHeartbeats 4000000 in
set_option maxRecDepth 100000 in
theorem wm_M_table (l : Launch) (D : va_G) (ad : Nat → Nat) (cI cZ cJ cG : ClassId) (sz : Nat) (a1 : Int32) (a2 : Int32) (a3 : Int32) (a4 : Int32) (σ : wc_S) (res : Int32 × wc_S) (hf : wf_M_table a1 a2 a3 a4 σ = some res) : Met l wy_M_table (wx_ws_M_table) ({ frames := 1, cells := 0, slots := 0, locals := 23 }) (va_Pc [.ref (ad 71), .int a1, .int a2, .int a3, .int a4] (wx_pre D ad cI cZ cJ cG σ sz)) (wx_Qi D ad cI cZ cJ cG res (va_A (wx_W ad cI cZ cJ cG σ) sz)) 0 0 (va_A (wx_W ad cI cZ cJ cG σ) sz) := by
  refine wx_ofW (cc := prog_8_method_8_code) (maxL := 7) (ret := (some .int)) (Qc := fun A => wx_Qi D ad cI cZ cJ cG res A) [.ref (ad 71), .int a1, .int a2, .int a3, .int a4] (by decide) rfl (Nat.le_of_ble_eq_true rfl) ?_
  intro p e s m args below meth c A ls hin hl
  obtain ⟨hx, hb, hr, hts, hown, hlocks, hml, hA, hP, hK, hD, hC, hN, hS⟩ := hin
  have hl : lv_has ls 7 [(0, .ref (ad 71)), (1, .int a1), (2, .int a2), (3, .int a3), (4, .int a4)] := hl
  have J71 : ∀ (x1 : Int32) (x2 : Int32) (x3 : Int32) (x4 : Int32) (s1 : Int32) (s2 : Int32) (s3 : Int32) (σ : wc_S), wf_M_table_71 x1 x2 x3 x4 s1 s2 s3 σ = some res → wx_Arr p l e ({ frames := 1, cells := 0, slots := 0, locals := 23 }) s m args below meth c D ad cI cZ cJ cG A (MQ below (wx_Qi D ad cI cZ cJ cG res A) args s 0 0 A) 7 0 0 71 [(0, .ref (ad 71)), (1, .int x1), (2, .int x2), (3, .int x3), (4, .int x4)] [.int s3, .int s2, .int s1, .ref (ad 71)] σ := by
    intro  x1 x2 x3 x4 s1 s2 s3 σ hf H locs ls hP hD hS hl
    unfold wf_M_table_71 at hf
    obtain ⟨r8, σ7, hq, hf⟩ := wc_b2_e hf
    refine wx_calli (va_runV (As := [.int s1, .int s2, .int s3]) (rest := []) ⟨hx, hb, hml, hown, hts⟩ (wm_M_goes l D ad cI cZ cJ cG _ s1 s2 s3 σ _ hq) (wx_cwV 3 hts wt_732 wt_731 wp_32 wt_7 wt_729 wh_M_goes rfl rfl ⟨Nat.le_of_ble_eq_true rfl, Nat.le_of_ble_eq_true rfl⟩) (wx_preV hK hP hD hS hA hC (by decide) rfl rfl) rfl rfl hl.1 rfl (lv_room (Nat.le_of_ble_eq_true rfl)) wd_M_table_71 ⟨Nat.le_of_ble_eq_true rfl, Nat.le_of_ble_eq_true rfl⟩) hD hS hA (fun H locs hP hD hS => ?_)
    refine lv_if_ne (tgt := 79) hx hb wd_M_table_74 (by decide) (fun c9 => ?_) (fun c9 => ?_)
    · have hf := wc_f c9 hf
      refine lv_bipush (v := 8) hx hb wd_M_table_79 (by decide) ?_
      refine lv_iload_n hx hb wd_M_table_81 rfl (lv_at hl 1 rfl) ?_
      refine lv_imul hx hb wd_M_table_82 ?_
      refine lv_topi (fun v10 ev10 => ?_)
      have hf := wc_st_e ev10 hf
      refine lv_aload_n hx hb wd_M_table_83 rfl (lv_at hl 0 rfl) ?_
      refine wx_get (v := .ref (ad 78)) (C := "WidthCampaignsModel") (T := wx_TM) (N' := 29) hx hb hts wi_M hown hK hP 71 (by decide) rfl rfl 8 (by decide) wt_638 (fun _ h9 => h9) rfl wd_M_table_84 ?_
      refine lv_iload_n hx hb wd_M_table_87 rfl (lv_at hl 1 rfl) ?_
      obtain ⟨h11, hf⟩ := wc_gd_e hf
      refine wx_iald hx hb hK hP 78 (n := 2) (by decide) rfl (wc_in_e h11) wd_M_table_88 ?_
      refine lv_topi (fun v12 ev12 => ?_)
      have hf := wc_st_e ev12 hf
      refine lv_iadd hx hb wd_M_table_89 ?_
      refine lv_topi (fun v13 ev13 => ?_)
      have hf := wc_st_e ev13 hf
      refine lv_istore (lv' := [(6, .int v13), (0, .ref (ad 71)), (1, .int x1), (2, .int x2), (3, .int x3), (4, .int x4)]) hx hb wd_M_table_90 hl (by decide) rfl (fun ls hl => ?_)
      refine lv_aload_n hx hb wd_M_table_92 rfl (lv_at hl 1 rfl) ?_
      refine wx_get (v := .ref (ad 79)) (C := "WidthCampaignsModel") (T := wx_TM) (N' := 29) hx hb hts wi_M hown hK hP 71 (by decide) rfl rfl 9 (by decide) wt_639 (fun _ h9 => h9) rfl wd_M_table_93 ?_
      refine lv_iload hx hb wd_M_table_96 (lv_at hl 0 rfl) ?_
      refine lv_iload_n hx hb wd_M_table_98 rfl (lv_at hl 3 rfl) ?_
      obtain ⟨h14, hf⟩ := wc_gd_e hf
      refine wx_iast hx hb hK hP hD hS 79 (n := 16) (by decide) (fun _ => rfl) h14 wd_M_table_99 (fun σ15 H locs eσ15 hP hD hS => ?_)
      have hf := wc_st_e eσ15 hf
      refine lv_aload_n hx hb wd_M_table_100 rfl (lv_at hl 1 rfl) ?_
      refine wx_get (v := .ref (ad 80)) (C := "WidthCampaignsModel") (T := wx_TM) (N' := 29) hx hb hts wi_M hown hK hP 71 (by decide) rfl rfl 10 (by decide) wt_640 (fun _ h9 => h9) rfl wd_M_table_101 ?_
      refine lv_iload hx hb wd_M_table_104 (lv_at hl 0 rfl) ?_
      refine lv_iload_n hx hb wd_M_table_106 rfl (lv_at hl 4 rfl) ?_
      obtain ⟨h16, hf⟩ := wc_gd_e hf
      refine wx_iast hx hb hK hP hD hS 80 (n := 16) (by decide) (fun _ => rfl) h16 wd_M_table_107 (fun σ17 H locs eσ17 hP hD hS => ?_)
      have hf := wc_st_e eσ17 hf
      refine lv_aload_n hx hb wd_M_table_108 rfl (lv_at hl 1 rfl) ?_
      refine wx_get (v := .ref (ad 81)) (C := "WidthCampaignsModel") (T := wx_TM) (N' := 29) hx hb hts wi_M hown hK hP 71 (by decide) rfl rfl 11 (by decide) wt_641 (fun _ h9 => h9) rfl wd_M_table_109 ?_
      refine lv_iload hx hb wd_M_table_112 (lv_at hl 0 rfl) ?_
      refine lv_iload hx hb wd_M_table_114 (lv_at hl 5 rfl) ?_
      obtain ⟨h18, hf⟩ := wc_gd_e hf
      refine wx_iast hx hb hK hP hD hS 81 (n := 16) (by decide) (fun _ => rfl) h18 wd_M_table_116 (fun σ19 H locs eσ19 hP hD hS => ?_)
      have hf := wc_st_e eσ19 hf
      refine lv_aload_n hx hb wd_M_table_117 rfl (lv_at hl 1 rfl) ?_
      refine wx_get (v := .ref (ad 78)) (C := "WidthCampaignsModel") (T := wx_TM) (N' := 29) hx hb hts wi_M hown hK hP 71 (by decide) rfl rfl 8 (by decide) wt_638 (fun _ h9 => h9) rfl wd_M_table_118 ?_
      refine lv_iload_n hx hb wd_M_table_121 rfl (lv_at hl 2 rfl) ?_
      refine lv_dup2_11 hx hb wd_M_table_122 rfl rfl ?_
      obtain ⟨h20, hf⟩ := wc_gd_e hf
      refine wx_iald hx hb hK hP 78 (n := 2) (by decide) rfl (wc_in_e h20) wd_M_table_123 ?_
      refine lv_topi (fun v21 ev21 => ?_)
      have hf := wc_st_e ev21 hf
      refine lv_iconst (v := 1) hx hb wd_M_table_124 (by decide) ?_
      refine lv_iadd hx hb wd_M_table_125 ?_
      refine lv_topi (fun v22 ev22 => ?_)
      have hf := wc_st_e ev22 hf
      obtain ⟨h23, hf⟩ := wc_gd_e hf
      refine wx_iast hx hb hK hP hD hS 78 (n := 2) (by decide) (fun _ => rfl) h23 wd_M_table_126 (fun σ24 H locs eσ24 hP hD hS => ?_)
      have hf := wc_st_e eσ24 hf
      refine lv_aload_n hx hb wd_M_table_127 rfl (lv_at hl 1 rfl) ?_
      obtain ⟨σ25, hq, hf⟩ := wc_b1_e hf
      refine wx_callv (va_runV (As := []) (rest := []) ⟨hx, hb, hml, hown, hts⟩ (wm_M_gone l D ad cI cZ cJ cG _ σ24 _ hq) (wx_cwV 0 hts wt_736 wt_735 wp_33 wt_7 wt_733 wh_M_gone rfl rfl ⟨Nat.le_of_ble_eq_true rfl, Nat.le_of_ble_eq_true rfl⟩) (wx_preV hK hP hD hS hA hC (by decide) rfl rfl) rfl rfl hl.1 rfl (lv_room (Nat.le_of_ble_eq_true rfl)) wd_M_table_128 ⟨Nat.le_of_ble_eq_true rfl, Nat.le_of_ble_eq_true rfl⟩) hD hS hA (fun H locs hP hD hS => ?_)
      refine lv_aload_n hx hb wd_M_table_131 rfl (lv_at hl 1 rfl) ?_
      refine wx_get (v := .ref (ad 78)) (C := "WidthCampaignsModel") (T := wx_TM) (N' := 29) hx hb hts wi_M hown hK hP 71 (by decide) rfl rfl 8 (by decide) wt_638 (fun _ h9 => h9) rfl wd_M_table_132 ?_
      refine lv_iload_n hx hb wd_M_table_135 rfl (lv_at hl 2 rfl) ?_
      obtain ⟨h26, hf⟩ := wc_gd_e hf
      refine wx_iald hx hb hK hP 78 (n := 2) (by decide) rfl (wc_in_e h26) wd_M_table_136 ?_
      refine lv_topi (fun v27 ev27 => ?_)
      have hf := wc_st_e ev27 hf
      exact wx_iret hx hb hr hlocks hf hP hS wd_M_table_137
    · have hf := wc_t c9 hf
      refine lv_iconst (v := 0) hx hb wd_M_table_77 (by decide) ?_
      exact wx_iret hx hb hr hlocks hf hP hS wd_M_table_78
  have J70 : ∀ (x1 : Int32) (x2 : Int32) (x3 : Int32) (x4 : Int32) (s1 : Int32) (s2 : Int32) (σ : wc_S), wf_M_table_70 x1 x2 x3 x4 s1 s2 σ = some res → wx_Arr p l e ({ frames := 1, cells := 0, slots := 0, locals := 23 }) s m args below meth c D ad cI cZ cJ cG A (MQ below (wx_Qi D ad cI cZ cJ cG res A) args s 0 0 A) 7 0 0 70 [(0, .ref (ad 71)), (1, .int x1), (2, .int x2), (3, .int x3), (4, .int x4)] [.int s2, .int s1, .ref (ad 71)] σ := by
    intro  x1 x2 x3 x4 s1 s2 σ hf H locs ls hP hD hS hl
    unfold wf_M_table_70 at hf
    refine lv_iconst (v := 0) hx hb wd_M_table_70 (by decide) ?_
    exact J71 x1 x2 x3 x4 s1 s2 0 σ hf _ _ _ hP hD hS (lv_sub hl [0, 1, 2, 3, 4] rfl)
  have J50 : ∀ (x1 : Int32) (x2 : Int32) (x3 : Int32) (x4 : Int32) (x5 : Int32) (s1 : Int32) (s2 : Int32) (σ : wc_S), wf_M_table_50 x1 x2 x3 x4 x5 s1 s2 σ = some res → wx_Arr p l e ({ frames := 1, cells := 0, slots := 0, locals := 23 }) s m args below meth c D ad cI cZ cJ cG A (MQ below (wx_Qi D ad cI cZ cJ cG res A) args s 0 0 A) 7 0 0 50 [(0, .ref (ad 71)), (1, .int x1), (2, .int x2), (3, .int x3), (4, .int x4), (5, .int x5)] [.int s2, .int s1, .ref (ad 71)] σ := by
    intro  x1 x2 x3 x4 x5 s1 s2 σ hf H locs ls hP hD hS hl
    unfold wf_M_table_50 at hf
    refine lv_iload hx hb wd_M_table_50 (lv_at hl 5 rfl) ?_
    refine lv_if_eq (tgt := 70) hx hb wd_M_table_52 (by decide) (fun c6 => ?_) (fun c6 => ?_)
    · have hf := wc_t c6 hf
      exact J70 x1 x2 x3 x4 s1 s2 σ hf _ _ _ hP hD hS (lv_sub hl [0, 1, 2, 3, 4] rfl)
    · have hf := wc_f c6 hf
      refine lv_aload_n hx hb wd_M_table_55 rfl (lv_at hl 0 rfl) ?_
      refine wx_get (v := .ref (ad 78)) (C := "WidthCampaignsModel") (T := wx_TM) (N' := 29) hx hb hts wi_M hown hK hP 71 (by decide) rfl rfl 8 (by decide) wt_638 (fun _ h9 => h9) rfl wd_M_table_56 ?_
      refine lv_iload_n hx hb wd_M_table_59 rfl (lv_at hl 1 rfl) ?_
      obtain ⟨h28, hf⟩ := wc_gd_e hf
      refine wx_iald hx hb hK hP 78 (n := 2) (by decide) rfl (wc_in_e h28) wd_M_table_60 ?_
      refine lv_topi (fun v29 ev29 => ?_)
      have hf := wc_st_e ev29 hf
      refine lv_bipush (v := 8) hx hb wd_M_table_61 (by decide) ?_
      refine lv_icmp_ge (tgt := 70) hx hb wd_M_table_63 (by decide) (fun c30 => ?_) (fun c30 => ?_)
      · have hf := wc_t c30 hf
        exact J70 x1 x2 x3 x4 s1 s2 σ hf _ _ _ hP hD hS (lv_sub hl [0, 1, 2, 3, 4] rfl)
      · have hf := wc_f c30 hf
        refine lv_iconst (v := 1) hx hb wd_M_table_66 (by decide) ?_
        refine lv_goto (tgt := 71) hx hb wd_M_table_67 (by decide) ?_
        exact J71 x1 x2 x3 x4 s1 s2 1 σ hf _ _ _ hP hD hS (lv_sub hl [0, 1, 2, 3, 4] rfl)
  have J49 : ∀ (x1 : Int32) (x2 : Int32) (x3 : Int32) (x4 : Int32) (x5 : Int32) (s1 : Int32) (σ : wc_S), wf_M_table_49 x1 x2 x3 x4 x5 s1 σ = some res → wx_Arr p l e ({ frames := 1, cells := 0, slots := 0, locals := 23 }) s m args below meth c D ad cI cZ cJ cG A (MQ below (wx_Qi D ad cI cZ cJ cG res A) args s 0 0 A) 7 0 0 49 [(0, .ref (ad 71)), (1, .int x1), (2, .int x2), (3, .int x3), (4, .int x4), (5, .int x5)] [.int s1, .ref (ad 71)] σ := by
    intro  x1 x2 x3 x4 x5 s1 σ hf H locs ls hP hD hS hl
    unfold wf_M_table_49 at hf
    refine lv_iconst (v := 0) hx hb wd_M_table_49 (by decide) ?_
    exact J50 x1 x2 x3 x4 x5 s1 0 σ hf _ _ _ hP hD hS (lv_sub hl [0, 1, 2, 3, 4, 5] rfl)
  unfold wf_M_table at hf
  refine lv_iload_n hx hb wd_M_table_0 rfl (lv_at hl 1 rfl) ?_
  refine lv_iconst (v := 0) hx hb wd_M_table_1 (by decide) ?_
  refine lv_iconst (v := 1) hx hb wd_M_table_2 (by decide) ?_
  obtain ⟨r2, σ1, hq, hf⟩ := wc_b2_e hf
  refine wx_calli (va_runS (As := [.int a1, .int 0, .int 1]) (rest := []) ⟨hx, hb, hml, hown, hts⟩ (wm_M_in l D ad cI cZ cJ cG _ a1 0 1 σ _ hq) (wx_cwS 3 hts wt_728 wt_727 wt_7 wt_726 wh_M_in rfl rfl ⟨Nat.le_of_ble_eq_true rfl, Nat.le_of_ble_eq_true rfl⟩) (wx_preS hK hP hD hS hA hC) rfl rfl hl.1 rfl (lv_room (Nat.le_of_ble_eq_true rfl)) wd_M_table_3 ⟨Nat.le_of_ble_eq_true rfl, Nat.le_of_ble_eq_true rfl⟩) hD hS hA (fun H locs hP hD hS => ?_)
  refine lv_istore (lv' := [(5, .int r2), (0, .ref (ad 71)), (1, .int a1), (2, .int a2), (3, .int a3), (4, .int a4)]) hx hb wd_M_table_6 hl (by decide) rfl (fun ls hl => ?_)
  refine lv_aload_n hx hb wd_M_table_8 rfl (lv_at hl 1 rfl) ?_
  refine lv_iload hx hb wd_M_table_9 (lv_at hl 0 rfl) ?_
  refine lv_iload_n hx hb wd_M_table_11 rfl (lv_at hl 3 rfl) ?_
  refine lv_iconst (v := 0) hx hb wd_M_table_12 (by decide) ?_
  refine lv_sipush (v := 1000) hx hb wd_M_table_13 (by decide) ?_
  obtain ⟨r4, σ3, hq, hf⟩ := wc_b2_e hf
  refine wx_calli (va_runS (As := [.int a2, .int 0, .int 1000]) (rest := [.int r2, .ref (ad 71)]) ⟨hx, hb, hml, hown, hts⟩ (wm_M_in l D ad cI cZ cJ cG _ a2 0 1000 σ1 _ hq) (wx_cwS 3 hts wt_728 wt_727 wt_7 wt_726 wh_M_in rfl rfl ⟨Nat.le_of_ble_eq_true rfl, Nat.le_of_ble_eq_true rfl⟩) (wx_preS hK hP hD hS hA hC) rfl rfl hl.1 rfl (lv_room (Nat.le_of_ble_eq_true rfl)) wd_M_table_16 ⟨Nat.le_of_ble_eq_true rfl, Nat.le_of_ble_eq_true rfl⟩) hD hS hA (fun H locs hP hD hS => ?_)
  refine lv_if_eq (tgt := 49) hx hb wd_M_table_19 (by decide) (fun c5 => ?_) (fun c5 => ?_)
  · have hf := wc_t c5 hf
    exact J49 a1 a2 a3 a4 r2 r2 σ3 hf _ _ _ hP hD hS (lv_sub hl [1, 2, 3, 4, 5, 0] rfl)
  · have hf := wc_f c5 hf
    refine lv_iload_n hx hb wd_M_table_22 rfl (lv_at hl 4 rfl) ?_
    refine lv_iload_n hx hb wd_M_table_23 rfl (lv_at hl 3 rfl) ?_
    refine lv_sipush (v := 1000) hx hb wd_M_table_24 (by decide) ?_
    obtain ⟨r32, σ31, hq, hf⟩ := wc_b2_e hf
    refine wx_calli (va_runS (As := [.int a3, .int a2, .int 1000]) (rest := [.int r2, .ref (ad 71)]) ⟨hx, hb, hml, hown, hts⟩ (wm_M_in l D ad cI cZ cJ cG _ a3 a2 1000 σ3 _ hq) (wx_cwS 3 hts wt_728 wt_727 wt_7 wt_726 wh_M_in rfl rfl ⟨Nat.le_of_ble_eq_true rfl, Nat.le_of_ble_eq_true rfl⟩) (wx_preS hK hP hD hS hA hC) rfl rfl hl.1 rfl (lv_room (Nat.le_of_ble_eq_true rfl)) wd_M_table_27 ⟨Nat.le_of_ble_eq_true rfl, Nat.le_of_ble_eq_true rfl⟩) hD hS hA (fun H locs hP hD hS => ?_)
    refine lv_if_eq (tgt := 49) hx hb wd_M_table_30 (by decide) (fun c33 => ?_) (fun c33 => ?_)
    · have hf := wc_t c33 hf
      exact J49 a1 a2 a3 a4 r2 r2 σ31 hf _ _ _ hP hD hS (lv_sub hl [1, 2, 3, 4, 5, 0] rfl)
    · have hf := wc_f c33 hf
      refine lv_iload hx hb wd_M_table_33 (lv_at hl 5 rfl) ?_
      refine lv_iconst (v := 0) hx hb wd_M_table_35 (by decide) ?_
      refine lv_sipush (v := 10000) hx hb wd_M_table_36 (by decide) ?_
      obtain ⟨r35, σ34, hq, hf⟩ := wc_b2_e hf
      refine wx_calli (va_runS (As := [.int a4, .int 0, .int 10000]) (rest := [.int r2, .ref (ad 71)]) ⟨hx, hb, hml, hown, hts⟩ (wm_M_in l D ad cI cZ cJ cG _ a4 0 10000 σ31 _ hq) (wx_cwS 3 hts wt_728 wt_727 wt_7 wt_726 wh_M_in rfl rfl ⟨Nat.le_of_ble_eq_true rfl, Nat.le_of_ble_eq_true rfl⟩) (wx_preS hK hP hD hS hA hC) rfl rfl hl.1 rfl (lv_room (Nat.le_of_ble_eq_true rfl)) wd_M_table_39 ⟨Nat.le_of_ble_eq_true rfl, Nat.le_of_ble_eq_true rfl⟩) hD hS hA (fun H locs hP hD hS => ?_)
      refine lv_if_eq (tgt := 49) hx hb wd_M_table_42 (by decide) (fun c36 => ?_) (fun c36 => ?_)
      · have hf := wc_t c36 hf
        exact J49 a1 a2 a3 a4 r2 r2 σ34 hf _ _ _ hP hD hS (lv_sub hl [1, 2, 3, 4, 5, 0] rfl)
      · have hf := wc_f c36 hf
        refine lv_iconst (v := 1) hx hb wd_M_table_45 (by decide) ?_
        refine lv_goto (tgt := 50) hx hb wd_M_table_46 (by decide) ?_
        exact J50 a1 a2 a3 a4 r2 r2 1 σ34 hf _ _ _ hP hD hS (lv_sub hl [1, 2, 3, 4, 5, 0] rfl)
