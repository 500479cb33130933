set_option maxHeartbeats 4000000 in
set_option maxRecDepth 100000 in
theorem wm_M_jumpOf (l : Launch) (D : va_G) (ad : Nat → Nat) (cI cZ cJ cG : ClassId) (sz : Nat) (a1 : Int32) (a2 : Int32) (σ : wc_S) (res : Int32 × wc_S) (hf : wf_M_jumpOf a1 a2 σ = some res) : Met l wy_M_jumpOf (wx_ws_M_jumpOf) ({ frames := 1, cells := 0, slots := 0, locals := 24 }) (va_Pc [.ref (ad 71), .int a1, .int a2] (wx_pre D ad cI cZ cJ cG σ sz)) (wx_Qi D ad cI cZ cJ cG res (va_A (wx_W ad cI cZ cJ cG σ) sz)) 0 0 (va_A (wx_W ad cI cZ cJ cG σ) sz) := by
  refine wx_ofW (cc := prog_8_method_14_code) (maxL := 5) (ret := (some .int)) (Qc := fun A => wx_Qi D ad cI cZ cJ cG res A) [.ref (ad 71), .int a1, .int a2] (by decide) rfl (Nat.le_of_ble_eq_true rfl) ?_
  intro p e s m args below meth c A ls hin hl
  obtain ⟨hx, hb, hr, hts, hown, hlocks, hml, hA, hP, hK, hD, hC, hN, hS⟩ := hin
  have hl : lv_has ls 5 [(0, .ref (ad 71)), (1, .int a1), (2, .int a2)] := hl
  unfold wf_M_jumpOf at hf
  refine lv_aload_n hx hb wd_M_jumpOf_0 rfl (lv_at hl 0 rfl) ?_
  refine lv_iconst (v := 0) hx hb wd_M_jumpOf_1 (by decide) ?_
  refine lv_aload_n hx hb wd_M_jumpOf_2 rfl (lv_at hl 0 rfl) ?_
  refine wx_get (v := .ref (ad 74)) (C := "WidthCampaignsModel") (T := wx_TM) (N' := 29) hx hb hts wi_M hown hK hP 71 (by decide) rfl rfl 4 (by decide) wt_634 (fun _ h9 => h9) rfl wd_M_jumpOf_3 ?_
  refine lv_iload_n hx hb wd_M_jumpOf_6 rfl (lv_at hl 2 rfl) ?_
  obtain ⟨h1, hf⟩ := wc_gd_e hf
  refine wx_iald hx hb hK hP 74 (n := 9) (by decide) rfl (wc_in_e h1) wd_M_jumpOf_7 ?_
  refine lv_topi (fun v2 ev2 => ?_)
  have hf := wc_st_e ev2 hf
  refine lv_aload_n hx hb wd_M_jumpOf_8 rfl (lv_at hl 0 rfl) ?_
  refine wx_get (v := .ref (ad 74)) (C := "WidthCampaignsModel") (T := wx_TM) (N' := 29) hx hb hts wi_M hown hK hP 71 (by decide) rfl rfl 4 (by decide) wt_634 (fun _ h9 => h9) rfl wd_M_jumpOf_9 ?_
  refine lv_iload_n hx hb wd_M_jumpOf_12 rfl (lv_at hl 1 rfl) ?_
  obtain ⟨h3, hf⟩ := wc_gd_e hf
  refine wx_iald hx hb hK hP 74 (n := 9) (by decide) rfl (wc_in_e h3) wd_M_jumpOf_13 ?_
  refine lv_topi (fun v4 ev4 => ?_)
  have hf := wc_st_e ev4 hf
  refine lv_isub hx hb wd_M_jumpOf_14 ?_
  refine lv_topi (fun v5 ev5 => ?_)
  have hf := wc_st_e ev5 hf
  obtain ⟨r7, σ6, hq, hf⟩ := wc_b2_e hf
  refine wx_calli (va_runV (As := [.int 0, .int v5]) (rest := []) ⟨hx, hb, hml, hown, hts⟩ (wm_M_costOf l D ad cI cZ cJ cG _ 0 v5 σ _ hq) (wx_cwV 2 hts wt_781 wt_780 wp_38 wt_7 wt_778 wh_M_costOf rfl rfl ⟨Nat.le_of_ble_eq_true rfl, Nat.le_of_ble_eq_true rfl⟩) (wx_preV hK hP hD hS hA hC (by decide) rfl rfl) rfl rfl hl.1 rfl (lv_room (Nat.le_of_ble_eq_true rfl)) wd_M_jumpOf_15 ⟨Nat.le_of_ble_eq_true rfl, Nat.le_of_ble_eq_true rfl⟩) hD hS hA (fun H locs hP hD hS => ?_)
  refine lv_istore_n (lv' := [(3, .int r7), (0, .ref (ad 71)), (1, .int a1), (2, .int a2)]) hx hb wd_M_jumpOf_18 rfl hl (by decide) rfl (fun ls hl => ?_)
  refine lv_aload_n hx hb wd_M_jumpOf_19 rfl (lv_at hl 1 rfl) ?_
  refine lv_iconst (v := 1) hx hb wd_M_jumpOf_20 (by decide) ?_
  refine lv_aload_n hx hb wd_M_jumpOf_21 rfl (lv_at hl 1 rfl) ?_
  refine wx_get (v := .ref (ad 73)) (C := "WidthCampaignsModel") (T := wx_TM) (N' := 29) hx hb hts wi_M hown hK hP 71 (by decide) rfl rfl 3 (by decide) wt_633 (fun _ h9 => h9) rfl wd_M_jumpOf_22 ?_
  refine lv_iload_n hx hb wd_M_jumpOf_25 rfl (lv_at hl 3 rfl) ?_
  obtain ⟨h8, hf⟩ := wc_gd_e hf
  refine wx_iald hx hb hK hP 73 (n := 9) (by decide) rfl (wc_in_e h8) wd_M_jumpOf_26 ?_
  refine lv_topi (fun v9 ev9 => ?_)
  have hf := wc_st_e ev9 hf
  refine lv_aload_n hx hb wd_M_jumpOf_27 rfl (lv_at hl 1 rfl) ?_
  refine wx_get (v := .ref (ad 73)) (C := "WidthCampaignsModel") (T := wx_TM) (N' := 29) hx hb hts wi_M hown hK hP 71 (by decide) rfl rfl 3 (by decide) wt_633 (fun _ h9 => h9) rfl wd_M_jumpOf_28 ?_
  refine lv_iload_n hx hb wd_M_jumpOf_31 rfl (lv_at hl 2 rfl) ?_
  obtain ⟨h10, hf⟩ := wc_gd_e hf
  refine wx_iald hx hb hK hP 73 (n := 9) (by decide) rfl (wc_in_e h10) wd_M_jumpOf_32 ?_
  refine lv_topi (fun v11 ev11 => ?_)
  have hf := wc_st_e ev11 hf
  refine lv_isub hx hb wd_M_jumpOf_33 ?_
  refine lv_topi (fun v12 ev12 => ?_)
  have hf := wc_st_e ev12 hf
  obtain ⟨r14, σ13, hq, hf⟩ := wc_b2_e hf
  refine wx_calli (va_runV (As := [.int 1, .int v12]) (rest := []) ⟨hx, hb, hml, hown, hts⟩ (wm_M_costOf l D ad cI cZ cJ cG _ 1 v12 σ6 _ hq) (wx_cwV 2 hts wt_781 wt_780 wp_38 wt_7 wt_778 wh_M_costOf rfl rfl ⟨Nat.le_of_ble_eq_true rfl, Nat.le_of_ble_eq_true rfl⟩) (wx_preV hK hP hD hS hA hC (by decide) rfl rfl) rfl rfl hl.1 rfl (lv_room (Nat.le_of_ble_eq_true rfl)) wd_M_jumpOf_34 ⟨Nat.le_of_ble_eq_true rfl, Nat.le_of_ble_eq_true rfl⟩) hD hS hA (fun H locs hP hD hS => ?_)
  refine lv_istore (lv' := [(4, .int r14), (3, .int r7), (0, .ref (ad 71)), (1, .int a1), (2, .int a2)]) hx hb wd_M_jumpOf_37 hl (by decide) rfl (fun ls hl => ?_)
  refine lv_iload_n hx hb wd_M_jumpOf_39 rfl (lv_at hl 1 rfl) ?_
  refine lv_if_lt (tgt := 48) hx hb wd_M_jumpOf_40 (by decide) (fun c15 => ?_) (fun c15 => ?_)
  · have hf := wc_t c15 hf
    refine lv_iconst (v := (-1)) hx hb wd_M_jumpOf_48 (by decide) ?_
    refine lv_goto (tgt := 56) hx hb wd_M_jumpOf_49 (by decide) ?_
    exact wx_iret hx hb hr hlocks hf hP hS wd_M_jumpOf_56
  · have hf := wc_f c15 hf
    refine lv_iload hx hb wd_M_jumpOf_43 (lv_at hl 0 rfl) ?_
    refine lv_if_ge (tgt := 52) hx hb wd_M_jumpOf_45 (by decide) (fun c16 => ?_) (fun c16 => ?_)
    · have hf := wc_t c16 hf
      refine lv_iload_n hx hb wd_M_jumpOf_52 rfl (lv_at hl 1 rfl) ?_
      refine lv_iload hx hb wd_M_jumpOf_53 (lv_at hl 0 rfl) ?_
      refine lv_iadd hx hb wd_M_jumpOf_55 ?_
      refine lv_topi (fun v17 ev17 => ?_)
      have hf := wc_st_e ev17 hf
      exact wx_iret hx hb hr hlocks hf hP hS wd_M_jumpOf_56
    · have hf := wc_f c16 hf
      refine lv_iconst (v := (-1)) hx hb wd_M_jumpOf_48 (by decide) ?_
      refine lv_goto (tgt := 56) hx hb wd_M_jumpOf_49 (by decide) ?_
      exact wx_iret hx hb hr hlocks hf hP hS wd_M_jumpOf_56
set_option maxHeartbeats 4000000 in
set_option maxRecDepth 100000 in
theorem wm_M_mayBe (l : Launch) (D : va_G) (ad : Nat → Nat) (cI cZ cJ cG : ClassId) (sz : Nat) (k1 : Nat) (hk1_ : k1 = 85 ∨ k1 = 86) (a2 : Int32) (σ : wc_S) (res : Int32 × wc_S) (hf : wf_M_mayBe k1 a2 σ = some res) : Met l wy_M_mayBe (wx_ws_M_mayBe) ({ frames := 2, cells := 0, slots := 0, locals := 48 }) (va_Pc [.ref (ad 71), .ref (ad k1), .int a2] (wx_pre D ad cI cZ cJ cG σ sz)) (wx_Qi D ad cI cZ cJ cG res (va_A (wx_W ad cI cZ cJ cG σ) sz)) 0 0 (va_A (wx_W ad cI cZ cJ cG σ) sz) := by
  refine wx_ofW (cc := prog_8_method_15_code) (maxL := 5) (ret := (some .boolean)) (Qc := fun A => wx_Qi D ad cI cZ cJ cG res A) [.ref (ad 71), .ref (ad k1), .int a2] (by decide) rfl (Nat.le_of_ble_eq_true rfl) ?_
  intro p e s m args below meth c A ls hin hl
  obtain ⟨hx, hb, hr, hts, hown, hlocks, hml, hA, hP, hK, hD, hC, hN, hS⟩ := hin
  have hl : lv_has ls 5 [(0, .ref (ad 71)), (1, .ref (ad k1)), (2, .int a2)] := hl
  unfold wf_M_mayBe at hf
  refine lv_aload_n hx hb wd_M_mayBe_0 rfl (lv_at hl 1 rfl) ?_
  refine lv_iload_n hx hb wd_M_mayBe_1 rfl (lv_at hl 2 rfl) ?_
  obtain ⟨h1, hf⟩ := wc_gd_e hf
  refine wx_iald hx hb hK hP k1 (n := 9) (wx_Ml hk1_) (wx_M hk1_ _) (wc_in_e h1) wd_M_mayBe_2 ?_
  refine lv_topi (fun v2 ev2 => ?_)
  have hf := wc_st_e ev2 hf
  refine lv_istore_n (lv' := [(3, .int v2), (0, .ref (ad 71)), (1, .ref (ad k1)), (2, .int a2)]) hx hb wd_M_mayBe_3 rfl hl (by decide) rfl (fun ls hl => ?_)
  refine lv_iload_n hx hb wd_M_mayBe_4 rfl (lv_at hl 3 rfl) ?_
  refine lv_aload_n hx hb wd_M_mayBe_5 rfl (lv_at hl 1 rfl) ?_
  refine wx_get (v := .ref (ad 76)) (C := "WidthCampaignsModel") (T := wx_TM) (N' := 29) hx hb hts wi_M hown hK hP 71 (by decide) rfl rfl 6 (by decide) wt_636 (fun _ h9 => h9) rfl wd_M_mayBe_6 ?_
  refine lv_iload_n hx hb wd_M_mayBe_9 rfl (lv_at hl 0 rfl) ?_
  obtain ⟨h3, hf⟩ := wc_gd_e hf
  refine wx_iald hx hb hK hP 76 (n := 9) (by decide) rfl (wc_in_e h3) wd_M_mayBe_10 ?_
  refine lv_topi (fun v4 ev4 => ?_)
  have hf := wc_st_e ev4 hf
  refine lv_icmp_le (tgt := 16) hx hb wd_M_mayBe_11 (by decide) (fun c5 => ?_) (fun c5 => ?_)
  · have hf := wc_t c5 hf
    refine lv_iload_n hx hb wd_M_mayBe_16 rfl (lv_at hl 3 rfl) ?_
    refine lv_if_ne (tgt := 22) hx hb wd_M_mayBe_17 (by decide) (fun c6 => ?_) (fun c6 => ?_)
    · have hf := wc_f c6 hf
      refine lv_aload_n hx hb wd_M_mayBe_22 rfl (lv_at hl 2 rfl) ?_
      refine lv_iload_n hx hb wd_M_mayBe_23 rfl (lv_at hl 3 rfl) ?_
      refine lv_iconst (v := 1) hx hb wd_M_mayBe_24 (by decide) ?_
      refine lv_isub hx hb wd_M_mayBe_25 ?_
      refine lv_topi (fun v7 ev7 => ?_)
      have hf := wc_st_e ev7 hf
      obtain ⟨h8, hf⟩ := wc_gd_e hf
      refine wx_iald hx hb hK hP k1 (n := 9) (wx_Ml hk1_) (wx_M hk1_ _) (wc_in_e h8) wd_M_mayBe_26 ?_
      refine lv_topi (fun v9 ev9 => ?_)
      have hf := wc_st_e ev9 hf
      refine lv_istore (lv' := [(4, .int v9), (3, .int v2), (0, .ref (ad 71)), (1, .ref (ad k1)), (2, .int a2)]) hx hb wd_M_mayBe_27 hl (by decide) rfl (fun ls hl => ?_)
      refine lv_aload_n hx hb wd_M_mayBe_29 rfl (lv_at hl 2 rfl) ?_
      refine lv_iload hx hb wd_M_mayBe_30 (lv_at hl 0 rfl) ?_
      refine lv_iload_n hx hb wd_M_mayBe_32 rfl (lv_at hl 1 rfl) ?_
      obtain ⟨r11, σ10, hq, hf⟩ := wc_b2_e hf
      refine wx_calli (va_runV (As := [.int v9, .int v2]) (rest := []) ⟨hx, hb, hml, hown, hts⟩ (wm_M_jumpOf l D ad cI cZ cJ cG _ v9 v2 σ _ hq) (wx_cwV 2 hts wt_777 wt_776 wp_37 wt_7 wt_774 wh_M_jumpOf rfl rfl ⟨Nat.le_of_ble_eq_true rfl, Nat.le_of_ble_eq_true rfl⟩) (wx_preV hK hP hD hS hA hC (by decide) rfl rfl) rfl rfl hl.1 rfl (lv_room (Nat.le_of_ble_eq_true rfl)) wd_M_mayBe_33 ⟨Nat.le_of_ble_eq_true rfl, Nat.le_of_ble_eq_true rfl⟩) hD hS hA (fun H locs hP hD hS => ?_)
      refine lv_if_ge (tgt := 41) hx hb wd_M_mayBe_36 (by decide) (fun c12 => ?_) (fun c12 => ?_)
      · have hf := wc_t c12 hf
        refine lv_iload_n hx hb wd_M_mayBe_41 rfl (lv_at hl 4 rfl) ?_
        refine lv_aload_n hx hb wd_M_mayBe_42 rfl (lv_at hl 2 rfl) ?_
        refine wx_get (v := .int (σ10 71 16)) (C := "WidthCampaignsModel") (T := wx_TM) (N' := 29) hx hb hts wi_M hown hK hP 71 (by decide) rfl rfl 16 (by decide) wt_646 (fun _ h9 => h9) rfl wd_M_mayBe_43 ?_
        refine lv_topi (fun v13 ev13 => ?_)
        have hf := wc_st_e ev13 hf
        refine lv_icmp_ge (tgt := 73) hx hb wd_M_mayBe_46 (by decide) (fun c14 => ?_) (fun c14 => ?_)
        · have hf := wc_t c14 hf
          refine lv_aload_n hx hb wd_M_mayBe_73 rfl (lv_at hl 2 rfl) ?_
          refine wx_get (v := .ref (ad 72)) (C := "WidthCampaignsModel") (T := wx_TM) (N' := 29) hx hb hts wi_M hown hK hP 71 (by decide) rfl rfl 2 (by decide) wt_632 (fun _ h9 => h9) rfl wd_M_mayBe_74 ?_
          refine lv_iload_n hx hb wd_M_mayBe_77 rfl (lv_at hl 1 rfl) ?_
          obtain ⟨h15, hf⟩ := wc_gd_e hf
          refine wx_iald hx hb hK hP 72 (n := 9) (by decide) rfl (wc_in_e h15) wd_M_mayBe_78 ?_
          refine lv_topi (fun v16 ev16 => ?_)
          have hf := wc_st_e ev16 hf
          refine lv_aload_n hx hb wd_M_mayBe_79 rfl (lv_at hl 2 rfl) ?_
          refine wx_get (v := .ref (ad 72)) (C := "WidthCampaignsModel") (T := wx_TM) (N' := 29) hx hb hts wi_M hown hK hP 71 (by decide) rfl rfl 2 (by decide) wt_632 (fun _ h9 => h9) rfl wd_M_mayBe_80 ?_
          refine lv_iload hx hb wd_M_mayBe_83 (lv_at hl 0 rfl) ?_
          obtain ⟨h17, hf⟩ := wc_gd_e hf
          refine wx_iald hx hb hK hP 72 (n := 9) (by decide) rfl (wc_in_e h17) wd_M_mayBe_85 ?_
          refine lv_topi (fun v18 ev18 => ?_)
          have hf := wc_st_e ev18 hf
          refine lv_icmp_gt (tgt := 93) hx hb wd_M_mayBe_86 (by decide) (fun c19 => ?_) (fun c19 => ?_)
          · have hf := wc_t c19 hf
            refine lv_iconst (v := 0) hx hb wd_M_mayBe_93 (by decide) ?_
            exact wx_zret hx hb hr narrow_b0 hlocks hf hP hS wd_M_mayBe_94
          · have hf := wc_f c19 hf
            refine lv_iconst (v := 1) hx hb wd_M_mayBe_89 (by decide) ?_
            refine lv_goto (tgt := 94) hx hb wd_M_mayBe_90 (by decide) ?_
            exact wx_zret hx hb hr narrow_b1 hlocks hf hP hS wd_M_mayBe_94
        · have hf := wc_f c14 hf
          refine lv_aload_n hx hb wd_M_mayBe_49 rfl (lv_at hl 2 rfl) ?_
          refine wx_get (v := .ref (ad 72)) (C := "WidthCampaignsModel") (T := wx_TM) (N' := 29) hx hb hts wi_M hown hK hP 71 (by decide) rfl rfl 2 (by decide) wt_632 (fun _ h9 => h9) rfl wd_M_mayBe_50 ?_
          refine lv_iload_n hx hb wd_M_mayBe_53 rfl (lv_at hl 1 rfl) ?_
          obtain ⟨h20, hf⟩ := wc_gd_e hf
          refine wx_iald hx hb hK hP 72 (n := 9) (by decide) rfl (wc_in_e h20) wd_M_mayBe_54 ?_
          refine lv_topi (fun v21 ev21 => ?_)
          have hf := wc_st_e ev21 hf
          refine lv_aload_n hx hb wd_M_mayBe_55 rfl (lv_at hl 2 rfl) ?_
          refine wx_get (v := .ref (ad 72)) (C := "WidthCampaignsModel") (T := wx_TM) (N' := 29) hx hb hts wi_M hown hK hP 71 (by decide) rfl rfl 2 (by decide) wt_632 (fun _ h9 => h9) rfl wd_M_mayBe_56 ?_
          refine lv_iload hx hb wd_M_mayBe_59 (lv_at hl 0 rfl) ?_
          obtain ⟨h22, hf⟩ := wc_gd_e hf
          refine wx_iald hx hb hK hP 72 (n := 9) (by decide) rfl (wc_in_e h22) wd_M_mayBe_61 ?_
          refine lv_topi (fun v23 ev23 => ?_)
          have hf := wc_st_e ev23 hf
          refine lv_icmp_lt (tgt := 69) hx hb wd_M_mayBe_62 (by decide) (fun c24 => ?_) (fun c24 => ?_)
          · have hf := wc_t c24 hf
            refine lv_iconst (v := 0) hx hb wd_M_mayBe_69 (by decide) ?_
            refine lv_goto (tgt := 94) hx hb wd_M_mayBe_70 (by decide) ?_
            exact wx_zret hx hb hr narrow_b0 hlocks hf hP hS wd_M_mayBe_94
          · have hf := wc_f c24 hf
            refine lv_iconst (v := 1) hx hb wd_M_mayBe_65 (by decide) ?_
            refine lv_goto (tgt := 94) hx hb wd_M_mayBe_66 (by decide) ?_
            exact wx_zret hx hb hr narrow_b1 hlocks hf hP hS wd_M_mayBe_94
      · have hf := wc_f c12 hf
        refine lv_iconst (v := 0) hx hb wd_M_mayBe_39 (by decide) ?_
        exact wx_zret hx hb hr narrow_b0 hlocks hf hP hS wd_M_mayBe_40
    · have hf := wc_t c6 hf
      refine lv_iconst (v := 1) hx hb wd_M_mayBe_20 (by decide) ?_
      exact wx_zret hx hb hr narrow_b1 hlocks hf hP hS wd_M_mayBe_21
  · have hf := wc_f c5 hf
    refine lv_iconst (v := 0) hx hb wd_M_mayBe_14 (by decide) ?_
    exact wx_zret hx hb hr narrow_b0 hlocks hf hP hS wd_M_mayBe_15
