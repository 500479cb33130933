set_option maxHeartbeats 4000000 in
set_option maxRecDepth 100000 in
theorem wm_L_countCosts (l : Launch) (D : va_G) (ad : Nat → Nat) (cI cZ cJ cG : ClassId) (sz : Nat) (b : Nat) (hb_ : b = 30 ∨ b = 49) (a1 : Int32) (a2 : Int32) (σ : wc_S) (res : wc_S) (hf : wf_L_countCosts b a1 a2 σ = some res) : Met l wy_L_countCosts (wx_ws_L_countCosts) ({ frames := 0, cells := 0, slots := 0, locals := 0 }) (va_Pc [.ref (ad b), .int a1, .int a2] (wx_pre D ad cI cZ cJ cG σ sz)) (wx_Qv D ad cI cZ cJ cG res (va_A (wx_W ad cI cZ cJ cG σ) sz)) 0 0 (va_A (wx_W ad cI cZ cJ cG σ) sz) := by
  refine wx_ofW (cc := prog_3_method_13_code) (maxL := 7) (ret := none) (Qc := fun A => wx_Qv D ad cI cZ cJ cG res A) [.ref (ad b), .int a1, .int a2] (by decide) rfl (Nat.le_of_ble_eq_true rfl) ?_
  intro p e s m args below meth c A ls hin hl
  obtain ⟨hx, hb, hr, hts, hown, hlocks, hml, hA, hP, hK, hD, hC, hN, hS⟩ := hin
  have hl : lv_has ls 7 [(0, .ref (ad b)), (1, .int a1), (2, .int a2)] := hl
  have J157 : ∀ (x5 : Int32) (s1 : Int32) (s2 : Int32) (s3 : Int32) (σ : wc_S), wf_L_countCosts_157 b x5 s1 s2 s3 σ = some res → wx_Arr p l e ({ frames := 0, cells := 0, slots := 0, locals := 0 }) s m args below meth c D ad cI cZ cJ cG A (MQ below (wx_Qv D ad cI cZ cJ cG res A) args s 0 0 A) 7 0 0 157 [(0, .ref (ad b)), (5, .int x5)] [.int s3, .int s2, .int s1, .ref (ad (b + 4))] σ := by
    intro  x5 s1 s2 s3 σ hf H locs ls hP hD hS hl
    unfold wf_L_countCosts_157 at hf
    refine lv_iadd hx hb wd_L_countCosts_157 ?_
    refine lv_topi (fun v27 ev27 => ?_)
    have hf := wc_st_e ev27 hf
    refine lv_iload hx hb wd_L_countCosts_158 (lv_at hl 1 rfl) ?_
    refine lv_if_eq (tgt := 173) hx hb wd_L_countCosts_160 (by decide) (fun c28 => ?_) (fun c28 => ?_)
    · have hf := wc_t c28 hf
      refine lv_iconst (v := 0) hx hb wd_L_countCosts_173 (by decide) ?_
      refine lv_iadd hx hb wd_L_countCosts_174 ?_
      refine lv_topi (fun v29 ev29 => ?_)
      have hf := wc_st_e ev29 hf
      obtain ⟨h30, hf⟩ := wc_gd_e hf
      refine wx_iast hx hb hK hP hD hS (b + 4) (n := 10) (wx_Ll4 hb_) (fun _ => (wx_L4 hb_ _)) h30 wd_L_countCosts_175 (fun σ31 H locs eσ31 hP hD hS => ?_)
      have hf := wc_st_e eσ31 hf
      exact wx_vret hx hb hr hlocks hf hP hS wd_L_countCosts_176
    · have hf := wc_f c28 hf
      refine lv_aload_n hx hb wd_L_countCosts_163 rfl (lv_at hl 0 rfl) ?_
      refine wx_get (v := .ref (ad 1)) (C := "WidthCampaigns$Line") (T := wx_TL) (N' := 10) hx hb hts wi_L hown hK hP b (wx_Ll0 hb_) (wx_L0 hb_ _) rfl 0 (by decide) wt_153 (fun _ h9 => h9) rfl wd_L_countCosts_164 ?_
      refine wx_getN (v := .int (σ 1 14)) (C := "WidthCampaigns$Plant") (T := wx_TP) (N' := 15) hx hb hts wi_P hown hK hP 1 (by decide) rfl rfl 14 (by decide) (hN.1 _ (List.mem_of_getElem? (i := 14) rfl) #[]) (fun _ h9 => h9) rfl wd_L_countCosts_167 ?_
      refine lv_topi (fun v32 ev32 => ?_)
      have hf := wc_st_e ev32 hf
      refine lv_goto (tgt := 174) hx hb wd_L_countCosts_170 (by decide) ?_
      refine lv_iadd hx hb wd_L_countCosts_174 ?_
      refine lv_topi (fun v33 ev33 => ?_)
      have hf := wc_st_e ev33 hf
      obtain ⟨h34, hf⟩ := wc_gd_e hf
      refine wx_iast hx hb hK hP hD hS (b + 4) (n := 10) (wx_Ll4 hb_) (fun _ => (wx_L4 hb_ _)) h34 wd_L_countCosts_175 (fun σ35 H locs eσ35 hP hD hS => ?_)
      have hf := wc_st_e eσ35 hf
      exact wx_vret hx hb hr hlocks hf hP hS wd_L_countCosts_176
  have J123 : ∀ (x2 : Int32) (x3 : Int32) (x5 : Int32) (x6 : Int32) (s1 : Int32) (s2 : Int32) (s3 : Int32) (σ : wc_S), wf_L_countCosts_123 b x2 x3 x5 x6 s1 s2 s3 σ = some res → wx_Arr p l e ({ frames := 0, cells := 0, slots := 0, locals := 0 }) s m args below meth c D ad cI cZ cJ cG A (MQ below (wx_Qv D ad cI cZ cJ cG res A) args s 0 0 A) 7 0 0 123 [(0, .ref (ad b)), (2, .int x2), (3, .int x3), (5, .int x5), (6, .int x6)] [.int s3, .int s2, .int s1, .ref (ad (b + 6))] σ := by
    intro  x2 x3 x5 x6 s1 s2 s3 σ hf H locs ls hP hD hS hl
    unfold wf_L_countCosts_123 at hf
    refine lv_iadd hx hb wd_L_countCosts_123 ?_
    refine lv_topi (fun v19 ev19 => ?_)
    have hf := wc_st_e ev19 hf
    obtain ⟨h20, hf⟩ := wc_gd_e hf
    refine wx_iast hx hb hK hP hD hS (b + 6) (n := 10) (wx_Ll6 hb_) (fun _ => (wx_L6 hb_ _)) h20 wd_L_countCosts_124 (fun σ21 H locs eσ21 hP hD hS => ?_)
    have hf := wc_st_e eσ21 hf
    refine lv_aload_n hx hb wd_L_countCosts_125 rfl (lv_at hl 0 rfl) ?_
    refine wx_get (v := .ref (ad (b + 4))) (C := "WidthCampaigns$Line") (T := wx_TL) (N' := 10) hx hb hts wi_L hown hK hP b (wx_Ll0 hb_) (wx_L0 hb_ _) rfl 4 (by decide) wt_160 (fun _ h9 => h9) rfl wd_L_countCosts_126 ?_
    refine lv_iload_n hx hb wd_L_countCosts_129 rfl (lv_at hl 2 rfl) ?_
    refine lv_aload_n hx hb wd_L_countCosts_130 rfl (lv_at hl 0 rfl) ?_
    refine wx_get (v := .ref (ad (b + 4))) (C := "WidthCampaigns$Line") (T := wx_TL) (N' := 10) hx hb hts wi_L hown hK hP b (wx_Ll0 hb_) (wx_L0 hb_ _) rfl 4 (by decide) wt_160 (fun _ h9 => h9) rfl wd_L_countCosts_131 ?_
    refine lv_aload_n hx hb wd_L_countCosts_134 rfl (lv_at hl 0 rfl) ?_
    refine wx_get (v := .int (σ21 b 9)) (C := "WidthCampaigns$Line") (T := wx_TL) (N' := 10) hx hb hts wi_L hown hK hP b (wx_Ll0 hb_) (wx_L0 hb_ _) rfl 9 (by decide) wt_165 (fun _ h9 => h9) rfl wd_L_countCosts_135 ?_
    refine lv_topi (fun v22 ev22 => ?_)
    have hf := wc_st_e ev22 hf
    obtain ⟨h23, hf⟩ := wc_gd_e hf
    refine wx_iald hx hb hK hP (b + 4) (n := 10) (wx_Ll4 hb_) (wx_L4 hb_ _) (wc_in_e h23) wd_L_countCosts_138 ?_
    refine lv_topi (fun v24 ev24 => ?_)
    have hf := wc_st_e ev24 hf
    refine lv_iload hx hb wd_L_countCosts_139 (lv_at hl 4 rfl) ?_
    refine lv_iadd hx hb wd_L_countCosts_141 ?_
    refine lv_topi (fun v25 ev25 => ?_)
    have hf := wc_st_e ev25 hf
    refine lv_iload_n hx hb wd_L_countCosts_142 rfl (lv_at hl 1 rfl) ?_
    refine lv_if_eq (tgt := 156) hx hb wd_L_countCosts_143 (by decide) (fun c26 => ?_) (fun c26 => ?_)
    · have hf := wc_t c26 hf
      refine lv_iconst (v := 0) hx hb wd_L_countCosts_156 (by decide) ?_
      exact J157 x5 x3 v25 0 σ21 hf _ _ _ hP hD hS (lv_sub hl [0, 3] rfl)
    · have hf := wc_f c26 hf
      refine lv_aload_n hx hb wd_L_countCosts_146 rfl (lv_at hl 0 rfl) ?_
      refine wx_get (v := .ref (ad 1)) (C := "WidthCampaigns$Line") (T := wx_TL) (N' := 10) hx hb hts wi_L hown hK hP b (wx_Ll0 hb_) (wx_L0 hb_ _) rfl 0 (by decide) wt_153 (fun _ h9 => h9) rfl wd_L_countCosts_147 ?_
      refine wx_getN (v := .int (σ21 1 13)) (C := "WidthCampaigns$Plant") (T := wx_TP) (N' := 15) hx hb hts wi_P hown hK hP 1 (by decide) rfl rfl 13 (by decide) (hN.1 _ (List.mem_of_getElem? (i := 15) rfl) #[]) (fun _ h9 => h9) rfl wd_L_countCosts_150 ?_
      refine lv_topi (fun v36 ev36 => ?_)
      have hf := wc_st_e ev36 hf
      refine lv_goto (tgt := 157) hx hb wd_L_countCosts_153 (by decide) ?_
      exact J157 x5 x3 v25 v36 σ21 hf _ _ _ hP hD hS (lv_sub hl [0, 3] rfl)
  have J97 : ∀ (x2 : Int32) (x3 : Int32) (x5 : Int32) (x6 : Int32) (s1 : Int32) (s2 : Int32) (s3 : Int32) (σ : wc_S), wf_L_countCosts_97 b x2 x3 x5 x6 s1 s2 s3 σ = some res → wx_Arr p l e ({ frames := 0, cells := 0, slots := 0, locals := 0 }) s m args below meth c D ad cI cZ cJ cG A (MQ below (wx_Qv D ad cI cZ cJ cG res A) args s 0 0 A) 7 0 0 97 [(0, .ref (ad b)), (2, .int x2), (3, .int x3), (5, .int x5), (6, .int x6)] [.int s3, .int s2, .int s1, .ref (ad (b + 5))] σ := by
    intro  x2 x3 x5 x6 s1 s2 s3 σ hf H locs ls hP hD hS hl
    unfold wf_L_countCosts_97 at hf
    refine lv_iadd hx hb wd_L_countCosts_97 ?_
    refine lv_topi (fun v12 ev12 => ?_)
    have hf := wc_st_e ev12 hf
    obtain ⟨h13, hf⟩ := wc_gd_e hf
    refine wx_iast hx hb hK hP hD hS (b + 5) (n := 10) (wx_Ll5 hb_) (fun _ => (wx_L5 hb_ _)) h13 wd_L_countCosts_98 (fun σ14 H locs eσ14 hP hD hS => ?_)
    have hf := wc_st_e eσ14 hf
    refine lv_aload_n hx hb wd_L_countCosts_99 rfl (lv_at hl 0 rfl) ?_
    refine wx_get (v := .ref (ad (b + 6))) (C := "WidthCampaigns$Line") (T := wx_TL) (N' := 10) hx hb hts wi_L hown hK hP b (wx_Ll0 hb_) (wx_L0 hb_ _) rfl 6 (by decide) wt_162 (fun _ h9 => h9) rfl wd_L_countCosts_100 ?_
    refine lv_iload_n hx hb wd_L_countCosts_103 rfl (lv_at hl 2 rfl) ?_
    refine lv_aload_n hx hb wd_L_countCosts_104 rfl (lv_at hl 0 rfl) ?_
    refine wx_get (v := .ref (ad (b + 6))) (C := "WidthCampaigns$Line") (T := wx_TL) (N' := 10) hx hb hts wi_L hown hK hP b (wx_Ll0 hb_) (wx_L0 hb_ _) rfl 6 (by decide) wt_162 (fun _ h9 => h9) rfl wd_L_countCosts_105 ?_
    refine lv_aload_n hx hb wd_L_countCosts_108 rfl (lv_at hl 0 rfl) ?_
    refine wx_get (v := .int (σ14 b 9)) (C := "WidthCampaigns$Line") (T := wx_TL) (N' := 10) hx hb hts wi_L hown hK hP b (wx_Ll0 hb_) (wx_L0 hb_ _) rfl 9 (by decide) wt_165 (fun _ h9 => h9) rfl wd_L_countCosts_109 ?_
    refine lv_topi (fun v15 ev15 => ?_)
    have hf := wc_st_e ev15 hf
    obtain ⟨h16, hf⟩ := wc_gd_e hf
    refine wx_iald hx hb hK hP (b + 6) (n := 10) (wx_Ll6 hb_) (wx_L6 hb_ _) (wc_in_e h16) wd_L_countCosts_112 ?_
    refine lv_topi (fun v17 ev17 => ?_)
    have hf := wc_st_e ev17 hf
    refine lv_iload hx hb wd_L_countCosts_113 (lv_at hl 3 rfl) ?_
    refine lv_if_eq (tgt := 122) hx hb wd_L_countCosts_115 (by decide) (fun c18 => ?_) (fun c18 => ?_)
    · have hf := wc_t c18 hf
      refine lv_iconst (v := 0) hx hb wd_L_countCosts_122 (by decide) ?_
      exact J123 x2 x3 x5 x6 x3 v17 0 σ14 hf _ _ _ hP hD hS (lv_sub hl [0, 1, 2, 3, 4] rfl)
    · have hf := wc_f c18 hf
      refine lv_iconst (v := 1) hx hb wd_L_countCosts_118 (by decide) ?_
      refine lv_goto (tgt := 123) hx hb wd_L_countCosts_119 (by decide) ?_
      exact J123 x2 x3 x5 x6 x3 v17 1 σ14 hf _ _ _ hP hD hS (lv_sub hl [0, 1, 2, 3, 4] rfl)
  have J72 : ∀ (x2 : Int32) (x3 : Int32) (x5 : Int32) (s0 : Int32) (σ : wc_S), wf_L_countCosts_72 b x2 x3 x5 s0 σ = some res → wx_Arr p l e ({ frames := 0, cells := 0, slots := 0, locals := 0 }) s m args below meth c D ad cI cZ cJ cG A (MQ below (wx_Qv D ad cI cZ cJ cG res A) args s 0 0 A) 7 0 0 72 [(0, .ref (ad b)), (2, .int x2), (3, .int x3), (5, .int x5)] [.int s0] σ := by
    intro  x2 x3 x5 s0 σ hf H locs ls hP hD hS hl
    unfold wf_L_countCosts_72 at hf
    refine lv_istore (lv' := [(6, .int s0), (0, .ref (ad b)), (2, .int x2), (3, .int x3), (5, .int x5)]) hx hb wd_L_countCosts_72 hl (by decide) rfl (fun ls hl => ?_)
    refine lv_aload_n hx hb wd_L_countCosts_74 rfl (lv_at hl 1 rfl) ?_
    refine wx_get (v := .ref (ad (b + 5))) (C := "WidthCampaigns$Line") (T := wx_TL) (N' := 10) hx hb hts wi_L hown hK hP b (wx_Ll0 hb_) (wx_L0 hb_ _) rfl 5 (by decide) wt_161 (fun _ h9 => h9) rfl wd_L_countCosts_75 ?_
    refine lv_iload_n hx hb wd_L_countCosts_78 rfl (lv_at hl 3 rfl) ?_
    refine lv_aload_n hx hb wd_L_countCosts_79 rfl (lv_at hl 1 rfl) ?_
    refine wx_get (v := .ref (ad (b + 5))) (C := "WidthCampaigns$Line") (T := wx_TL) (N' := 10) hx hb hts wi_L hown hK hP b (wx_Ll0 hb_) (wx_L0 hb_ _) rfl 5 (by decide) wt_161 (fun _ h9 => h9) rfl wd_L_countCosts_80 ?_
    refine lv_aload_n hx hb wd_L_countCosts_83 rfl (lv_at hl 1 rfl) ?_
    refine wx_get (v := .int (σ b 9)) (C := "WidthCampaigns$Line") (T := wx_TL) (N' := 10) hx hb hts wi_L hown hK hP b (wx_Ll0 hb_) (wx_L0 hb_ _) rfl 9 (by decide) wt_165 (fun _ h9 => h9) rfl wd_L_countCosts_84 ?_
    refine lv_topi (fun v8 ev8 => ?_)
    have hf := wc_st_e ev8 hf
    obtain ⟨h9, hf⟩ := wc_gd_e hf
    refine wx_iald hx hb hK hP (b + 5) (n := 10) (wx_Ll5 hb_) (wx_L5 hb_ _) (wc_in_e h9) wd_L_countCosts_87 ?_
    refine lv_topi (fun v10 ev10 => ?_)
    have hf := wc_st_e ev10 hf
    refine lv_iload_n hx hb wd_L_countCosts_88 rfl (lv_at hl 2 rfl) ?_
    refine lv_if_eq (tgt := 96) hx hb wd_L_countCosts_89 (by decide) (fun c11 => ?_) (fun c11 => ?_)
    · have hf := wc_t c11 hf
      refine lv_iconst (v := 0) hx hb wd_L_countCosts_96 (by decide) ?_
      exact J97 x2 x3 x5 s0 x3 v10 0 σ hf _ _ _ hP hD hS (lv_sub hl [1, 2, 3, 4, 0] rfl)
    · have hf := wc_f c11 hf
      refine lv_iconst (v := 1) hx hb wd_L_countCosts_92 (by decide) ?_
      refine lv_goto (tgt := 97) hx hb wd_L_countCosts_93 (by decide) ?_
      exact J97 x2 x3 x5 s0 x3 v10 1 σ hf _ _ _ hP hD hS (lv_sub hl [1, 2, 3, 4, 0] rfl)
  have J38 : ∀ (x1 : Int32) (x2 : Int32) (x3 : Int32) (s0 : Int32) (σ : wc_S), wf_L_countCosts_38 b x1 x2 x3 s0 σ = some res → wx_Arr p l e ({ frames := 0, cells := 0, slots := 0, locals := 0 }) s m args below meth c D ad cI cZ cJ cG A (MQ below (wx_Qv D ad cI cZ cJ cG res A) args s 0 0 A) 7 0 0 38 [(0, .ref (ad b)), (1, .int x1), (2, .int x2), (3, .int x3)] [.int s0] σ := by
    intro  x1 x2 x3 s0 σ hf H locs ls hP hD hS hl
    unfold wf_L_countCosts_38 at hf
    refine lv_istore (lv' := [(5, .int s0), (0, .ref (ad b)), (1, .int x1), (2, .int x2), (3, .int x3)]) hx hb wd_L_countCosts_38 hl (by decide) rfl (fun ls hl => ?_)
    refine lv_aload_n hx hb wd_L_countCosts_40 rfl (lv_at hl 1 rfl) ?_
    refine wx_get (v := .int (σ b 9)) (C := "WidthCampaigns$Line") (T := wx_TL) (N' := 10) hx hb hts wi_L hown hK hP b (wx_Ll0 hb_) (wx_L0 hb_ _) rfl 9 (by decide) wt_165 (fun _ h9 => h9) rfl wd_L_countCosts_41 ?_
    refine lv_topi (fun v6 ev6 => ?_)
    have hf := wc_st_e ev6 hf
    refine lv_if_le (tgt := 71) hx hb wd_L_countCosts_44 (by decide) (fun c7 => ?_) (fun c7 => ?_)
    · have hf := wc_t c7 hf
      refine lv_iconst (v := 0) hx hb wd_L_countCosts_71 (by decide) ?_
      exact J72 x2 x3 s0 0 σ hf _ _ _ hP hD hS (lv_sub hl [1, 3, 4, 0] rfl)
    · have hf := wc_f c7 hf
      refine lv_aload_n hx hb wd_L_countCosts_47 rfl (lv_at hl 1 rfl) ?_
      refine wx_get (v := .ref (ad 1)) (C := "WidthCampaigns$Line") (T := wx_TL) (N' := 10) hx hb hts wi_L hown hK hP b (wx_Ll0 hb_) (wx_L0 hb_ _) rfl 0 (by decide) wt_153 (fun _ h9 => h9) rfl wd_L_countCosts_48 ?_
      refine wx_getN (v := .ref (ad 8)) (C := "WidthCampaigns$Plant") (T := wx_TP) (N' := 15) hx hb hts wi_P hown hK hP 1 (by decide) rfl rfl 6 (by decide) (hN.1 _ (List.mem_of_getElem? (i := 3) rfl) #[]) (fun _ h9 => h9) rfl wd_L_countCosts_51 ?_
      refine lv_aload_n hx hb wd_L_countCosts_54 rfl (lv_at hl 1 rfl) ?_
      refine wx_get (v := .ref (ad (b + 1))) (C := "WidthCampaigns$Line") (T := wx_TL) (N' := 10) hx hb hts wi_L hown hK hP b (wx_Ll0 hb_) (wx_L0 hb_ _) rfl 1 (by decide) wt_154 (fun _ h9 => h9) rfl wd_L_countCosts_55 ?_
      refine lv_aload_n hx hb wd_L_countCosts_58 rfl (lv_at hl 1 rfl) ?_
      refine wx_get (v := .int (σ b 9)) (C := "WidthCampaigns$Line") (T := wx_TL) (N' := 10) hx hb hts wi_L hown hK hP b (wx_Ll0 hb_) (wx_L0 hb_ _) rfl 9 (by decide) wt_165 (fun _ h9 => h9) rfl wd_L_countCosts_59 ?_
      refine lv_topi (fun v37 ev37 => ?_)
      have hf := wc_st_e ev37 hf
      refine lv_iconst (v := 1) hx hb wd_L_countCosts_62 (by decide) ?_
      refine lv_isub hx hb wd_L_countCosts_63 ?_
      refine lv_topi (fun v38 ev38 => ?_)
      have hf := wc_st_e ev38 hf
      obtain ⟨h39, hf⟩ := wc_gd_e hf
      refine wx_iald hx hb hK hP (b + 1) (n := 9) (wx_Ll1 hb_) (wx_L1 hb_ _) (wc_in_e h39) wd_L_countCosts_64 ?_
      refine lv_topi (fun v40 ev40 => ?_)
      have hf := wc_st_e ev40 hf
      obtain ⟨h41, hf⟩ := wc_gd_e hf
      refine wx_aald (bs := 9) hx hb hK hP 8 (n := 9) (by decide) rfl h41 wd_L_countCosts_65 ?_
      refine lv_iload_n hx hb wd_L_countCosts_66 rfl (lv_at hl 2 rfl) ?_
      obtain ⟨h42, hf⟩ := wc_gd_e hf
      refine wx_iald hx hb hK hP (9 + v40.toNatClampNeg) (n := 9) (wx_g8l h41) (wx_g8 h41 _) (wc_in_e h42) wd_L_countCosts_67 ?_
      refine lv_topi (fun v43 ev43 => ?_)
      have hf := wc_st_e ev43 hf
      refine lv_goto (tgt := 72) hx hb wd_L_countCosts_68 (by decide) ?_
      exact J72 x2 x3 s0 v43 σ hf _ _ _ hP hD hS (lv_sub hl [1, 3, 4, 0] rfl)
  have J37 : ∀ (x1 : Int32) (x2 : Int32) (x3 : Int32) (σ : wc_S), wf_L_countCosts_37 b x1 x2 x3 σ = some res → wx_Arr p l e ({ frames := 0, cells := 0, slots := 0, locals := 0 }) s m args below meth c D ad cI cZ cJ cG A (MQ below (wx_Qv D ad cI cZ cJ cG res A) args s 0 0 A) 7 0 0 37 [(0, .ref (ad b)), (1, .int x1), (2, .int x2), (3, .int x3)] [] σ := by
    intro  x1 x2 x3 σ hf H locs ls hP hD hS hl
    unfold wf_L_countCosts_37 at hf
    refine lv_iconst (v := 0) hx hb wd_L_countCosts_37 (by decide) ?_
    exact J38 x1 x2 x3 0 σ hf _ _ _ hP hD hS (lv_sub hl [0, 1, 2, 3] rfl)
  unfold wf_L_countCosts at hf
  refine lv_aload_n hx hb wd_L_countCosts_0 rfl (lv_at hl 0 rfl) ?_
  refine wx_get (v := .int (σ b 9)) (C := "WidthCampaigns$Line") (T := wx_TL) (N' := 10) hx hb hts wi_L hown hK hP b (wx_Ll0 hb_) (wx_L0 hb_ _) rfl 9 (by decide) wt_165 (fun _ h9 => h9) rfl wd_L_countCosts_1 ?_
  refine lv_topi (fun v1 ev1 => ?_)
  have hf := wc_st_e ev1 hf
  refine lv_iconst (v := 1) hx hb wd_L_countCosts_4 (by decide) ?_
  refine lv_iadd hx hb wd_L_countCosts_5 ?_
  refine lv_topi (fun v2 ev2 => ?_)
  have hf := wc_st_e ev2 hf
  refine lv_istore_n (lv' := [(3, .int v2), (0, .ref (ad b)), (1, .int a1), (2, .int a2)]) hx hb wd_L_countCosts_6 rfl hl (by decide) rfl (fun ls hl => ?_)
  refine lv_aload_n hx hb wd_L_countCosts_7 rfl (lv_at hl 1 rfl) ?_
  refine wx_get (v := .ref (ad 1)) (C := "WidthCampaigns$Line") (T := wx_TL) (N' := 10) hx hb hts wi_L hown hK hP b (wx_Ll0 hb_) (wx_L0 hb_ _) rfl 0 (by decide) wt_153 (fun _ h9 => h9) rfl wd_L_countCosts_8 ?_
  refine wx_getN (v := .ref (ad 7)) (C := "WidthCampaigns$Plant") (T := wx_TP) (N' := 15) hx hb hts wi_P hown hK hP 1 (by decide) rfl rfl 5 (by decide) (hN.1 _ (List.mem_of_getElem? (i := 13) rfl) #[]) (fun _ h9 => h9) rfl wd_L_countCosts_11 ?_
  refine lv_iload_n hx hb wd_L_countCosts_14 rfl (lv_at hl 2 rfl) ?_
  obtain ⟨h3, hf⟩ := wc_gd_e hf
  refine wx_iald hx hb hK hP 7 (n := 9) (by decide) rfl (wc_in_e h3) wd_L_countCosts_15 ?_
  refine lv_topi (fun v4 ev4 => ?_)
  have hf := wc_st_e ev4 hf
  refine lv_istore (lv' := [(4, .int v4), (3, .int v2), (0, .ref (ad b)), (1, .int a1), (2, .int a2)]) hx hb wd_L_countCosts_16 hl (by decide) rfl (fun ls hl => ?_)
  refine lv_iload hx hb wd_L_countCosts_18 (lv_at hl 0 rfl) ?_
  refine lv_iconst (v := (-1)) hx hb wd_L_countCosts_20 (by decide) ?_
  refine lv_icmp_eq (tgt := 37) hx hb wd_L_countCosts_21 (by decide) (fun c5 => ?_) (fun c5 => ?_)
  · have hf := wc_t c5 hf
    exact J37 a1 a2 v2 σ hf _ _ _ hP hD hS (lv_sub hl [2, 3, 4, 1] rfl)
  · have hf := wc_f c5 hf
    refine lv_iload hx hb wd_L_countCosts_24 (lv_at hl 0 rfl) ?_
    refine lv_aload_n hx hb wd_L_countCosts_26 rfl (lv_at hl 2 rfl) ?_
    refine wx_get (v := .int (σ b 9)) (C := "WidthCampaigns$Line") (T := wx_TL) (N' := 10) hx hb hts wi_L hown hK hP b (wx_Ll0 hb_) (wx_L0 hb_ _) rfl 9 (by decide) wt_165 (fun _ h9 => h9) rfl wd_L_countCosts_27 ?_
    refine lv_topi (fun v44 ev44 => ?_)
    have hf := wc_st_e ev44 hf
    refine lv_icmp_eq (tgt := 37) hx hb wd_L_countCosts_30 (by decide) (fun c45 => ?_) (fun c45 => ?_)
    · have hf := wc_t c45 hf
      exact J37 a1 a2 v2 σ hf _ _ _ hP hD hS (lv_sub hl [2, 3, 4, 1] rfl)
    · have hf := wc_f c45 hf
      refine lv_iconst (v := 1) hx hb wd_L_countCosts_33 (by decide) ?_
      refine lv_goto (tgt := 38) hx hb wd_L_countCosts_34 (by decide) ?_
      exact J38 a1 a2 v2 1 σ hf _ _ _ hP hD hS (lv_sub hl [2, 3, 4, 1] rfl)
set_option maxHeartbeats 4000000 in
set_option maxRecDepth 100000 in
theorem wm_L_put (l : Launch) (D : va_G) (ad : Nat → Nat) (cI cZ cJ cG : ClassId) (sz : Nat) (b : Nat) (hb_ : b = 30 ∨ b = 49) (a1 : Int32) (σ : wc_S) (res : wc_S) (hf : wf_L_put b a1 σ = some res) : Met l wy_L_put (wx_ws_L_put) ({ frames := 2, cells := 0, slots := 0, locals := 48 }) (va_Pc [.ref (ad b), .int a1] (wx_pre D ad cI cZ cJ cG σ sz)) (wx_Qv D ad cI cZ cJ cG res (va_A (wx_W ad cI cZ cJ cG σ) sz)) 0 0 (va_A (wx_W ad cI cZ cJ cG σ) sz) := by
  refine wx_ofW (cc := prog_3_method_9_code) (maxL := 3) (ret := none) (Qc := fun A => wx_Qv D ad cI cZ cJ cG res A) [.ref (ad b), .int a1] (by decide) rfl (Nat.le_of_ble_eq_true rfl) ?_
  intro p e s m args below meth c A ls hin hl
  obtain ⟨hx, hb, hr, hts, hown, hlocks, hml, hA, hP, hK, hD, hC, hN, hS⟩ := hin
  have hl : lv_has ls 3 [(0, .ref (ad b)), (1, .int a1)] := hl
  have J20 : ∀ (x1 : Int32) (s0 : Int32) (σ : wc_S), wf_L_put_20 b x1 s0 σ = some res → wx_Arr p l e ({ frames := 2, cells := 0, slots := 0, locals := 48 }) s m args below meth c D ad cI cZ cJ cG A (MQ below (wx_Qv D ad cI cZ cJ cG res A) args s 0 0 A) 3 0 0 20 [(0, .ref (ad b)), (1, .int x1)] [.int s0] σ := by
    intro  x1 s0 σ hf H locs ls hP hD hS hl
    unfold wf_L_put_20 at hf
    refine lv_istore_n (lv' := [(2, .int s0), (0, .ref (ad b)), (1, .int x1)]) hx hb wd_L_put_20 rfl hl (by decide) rfl (fun ls hl => ?_)
    refine lv_aload_n hx hb wd_L_put_21 rfl (lv_at hl 1 rfl) ?_
    refine wx_get (v := .ref (ad (b + 3))) (C := "WidthCampaigns$Line") (T := wx_TL) (N' := 10) hx hb hts wi_L hown hK hP b (wx_Ll0 hb_) (wx_L0 hb_ _) rfl 3 (by decide) wt_158 (fun _ h9 => h9) rfl wd_L_put_22 ?_
    refine lv_aload_n hx hb wd_L_put_25 rfl (lv_at hl 1 rfl) ?_
    refine wx_get (v := .int (σ b 9)) (C := "WidthCampaigns$Line") (T := wx_TL) (N' := 10) hx hb hts wi_L hown hK hP b (wx_Ll0 hb_) (wx_L0 hb_ _) rfl 9 (by decide) wt_165 (fun _ h9 => h9) rfl wd_L_put_26 ?_
    refine lv_topi (fun v3 ev3 => ?_)
    have hf := wc_st_e ev3 hf
    refine lv_iload_n hx hb wd_L_put_29 rfl (lv_at hl 0 rfl) ?_
    obtain ⟨h4, hf⟩ := wc_gd_e hf
    refine wx_zast hx hb hK hP hD hS (b + 3) (n := 9) (wx_Ll3 hb_) (fun _ => (wx_L3 hb_ _)) h4 wd_L_put_30 (fun σ5 H locs eσ5 hP hD hS => ?_)
    have hf := wc_st_e eσ5 hf
    refine lv_aload_n hx hb wd_L_put_31 rfl (lv_at hl 1 rfl) ?_
    refine lv_iload_n hx hb wd_L_put_32 rfl (lv_at hl 2 rfl) ?_
    refine lv_iload_n hx hb wd_L_put_33 rfl (lv_at hl 0 rfl) ?_
    obtain ⟨σ6, hq, hf⟩ := wc_b1_e hf
    refine wx_callv (va_runV (As := [.int x1, .int s0]) (rest := []) ⟨hx, hb, hml, hown, hts⟩ (wm_L_countKilometres l D ad cI cZ cJ cG _ b hb_ x1 s0 σ5 _ hq) (wx_cwV 2 hts wt_505 wt_504 wp_21 wt_5 wt_502 wh_L_countKilometres rfl rfl ⟨Nat.le_of_ble_eq_true rfl, Nat.le_of_ble_eq_true rfl⟩) (wx_preV hK hP hD hS hA hC (wx_Ll0 hb_) (wx_L0 hb_ _) rfl) rfl rfl hl.1 rfl (lv_room (Nat.le_of_ble_eq_true rfl)) wd_L_put_34 ⟨Nat.le_of_ble_eq_true rfl, Nat.le_of_ble_eq_true rfl⟩) hD hS hA (fun H locs hP hD hS => ?_)
    refine lv_aload_n hx hb wd_L_put_37 rfl (lv_at hl 1 rfl) ?_
    refine lv_iload_n hx hb wd_L_put_38 rfl (lv_at hl 2 rfl) ?_
    refine lv_iload_n hx hb wd_L_put_39 rfl (lv_at hl 0 rfl) ?_
    obtain ⟨σ7, hq, hf⟩ := wc_b1_e hf
    refine wx_callv (va_runV (As := [.int x1, .int s0]) (rest := []) ⟨hx, hb, hml, hown, hts⟩ (wm_L_countCosts l D ad cI cZ cJ cG _ b hb_ x1 s0 σ6 _ hq) (wx_cwV 2 hts wt_509 wt_508 wp_22 wt_5 wt_506 wh_L_countCosts rfl rfl ⟨Nat.le_of_ble_eq_true rfl, Nat.le_of_ble_eq_true rfl⟩) (wx_preV hK hP hD hS hA hC (wx_Ll0 hb_) (wx_L0 hb_ _) rfl) rfl rfl hl.1 rfl (lv_room (Nat.le_of_ble_eq_true rfl)) wd_L_put_40 ⟨Nat.le_of_ble_eq_true rfl, Nat.le_of_ble_eq_true rfl⟩) hD hS hA (fun H locs hP hD hS => ?_)
    refine lv_aload_n hx hb wd_L_put_43 rfl (lv_at hl 1 rfl) ?_
    refine wx_get (v := .ref (ad (b + 1))) (C := "WidthCampaigns$Line") (T := wx_TL) (N' := 10) hx hb hts wi_L hown hK hP b (wx_Ll0 hb_) (wx_L0 hb_ _) rfl 1 (by decide) wt_154 (fun _ h9 => h9) rfl wd_L_put_44 ?_
    refine lv_aload_n hx hb wd_L_put_47 rfl (lv_at hl 1 rfl) ?_
    refine wx_get (v := .int (σ7 b 9)) (C := "WidthCampaigns$Line") (T := wx_TL) (N' := 10) hx hb hts wi_L hown hK hP b (wx_Ll0 hb_) (wx_L0 hb_ _) rfl 9 (by decide) wt_165 (fun _ h9 => h9) rfl wd_L_put_48 ?_
    refine lv_topi (fun v8 ev8 => ?_)
    have hf := wc_st_e ev8 hf
    refine lv_iload_n hx hb wd_L_put_51 rfl (lv_at hl 2 rfl) ?_
    obtain ⟨h9, hf⟩ := wc_gd_e hf
    refine wx_iast hx hb hK hP hD hS (b + 1) (n := 9) (wx_Ll1 hb_) (fun _ => (wx_L1 hb_ _)) h9 wd_L_put_52 (fun σ10 H locs eσ10 hP hD hS => ?_)
    have hf := wc_st_e eσ10 hf
    refine lv_aload_n hx hb wd_L_put_53 rfl (lv_at hl 1 rfl) ?_
    refine wx_get (v := .ref (ad (b + 2))) (C := "WidthCampaigns$Line") (T := wx_TL) (N' := 10) hx hb hts wi_L hown hK hP b (wx_Ll0 hb_) (wx_L0 hb_ _) rfl 2 (by decide) wt_157 (fun _ h9 => h9) rfl wd_L_put_54 ?_
    refine lv_iload_n hx hb wd_L_put_57 rfl (lv_at hl 2 rfl) ?_
    refine lv_iconst (v := 1) hx hb wd_L_put_58 (by decide) ?_
    obtain ⟨h11, hf⟩ := wc_gd_e hf
    refine wx_zast hx hb hK hP hD hS (b + 2) (n := 9) (wx_Ll2 hb_) (fun _ => (wx_L2 hb_ _)) h11 wd_L_put_59 (fun σ12 H locs eσ12 hP hD hS => ?_)
    have hf := wc_st_e eσ12 hf
    refine lv_aload_n hx hb wd_L_put_60 rfl (lv_at hl 1 rfl) ?_
    refine lv_dup hx hb wd_L_put_61 rfl ?_
    refine wx_get (v := .int (σ12 b 9)) (C := "WidthCampaigns$Line") (T := wx_TL) (N' := 10) hx hb hts wi_L hown hK hP b (wx_Ll0 hb_) (wx_L0 hb_ _) rfl 9 (by decide) wt_165 (fun _ h9 => h9) rfl wd_L_put_62 ?_
    refine lv_topi (fun v13 ev13 => ?_)
    have hf := wc_st_e ev13 hf
    refine lv_iconst (v := 1) hx hb wd_L_put_65 (by decide) ?_
    refine lv_iadd hx hb wd_L_put_66 ?_
    refine lv_topi (fun v14 ev14 => ?_)
    have hf := wc_st_e ev14 hf
    refine wx_put (x := v14) (ty := .int) (C := "WidthCampaigns$Line") (T := wx_TL) (N' := 10) hx hb hts wi_L wx_tL wx_toL wx_nL hown hK hP hD hS b (wx_Ll0 hb_) (fun _ => (wx_L0 hb_ _)) rfl 9 (by decide) wt_165 (fun _ h9 => h9) rfl (by decide +kernel) rfl rfl (Nat.le_of_ble_eq_true rfl) rfl wd_L_put_67 (fun σ15 H locs eσ15 hP hD hS => ?_)
    have hf := wc_st_e eσ15 hf
    exact wx_vret hx hb hr hlocks hf hP hS wd_L_put_70
  have J19 : ∀ (x1 : Int32) (σ : wc_S), wf_L_put_19 b x1 σ = some res → wx_Arr p l e ({ frames := 2, cells := 0, slots := 0, locals := 48 }) s m args below meth c D ad cI cZ cJ cG A (MQ below (wx_Qv D ad cI cZ cJ cG res A) args s 0 0 A) 3 0 0 19 [(0, .ref (ad b)), (1, .int x1)] [] σ := by
    intro  x1 σ hf H locs ls hP hD hS hl
    unfold wf_L_put_19 at hf
    refine lv_iconst (v := 0) hx hb wd_L_put_19 (by decide) ?_
    exact J20 x1 0 σ hf _ _ _ hP hD hS (lv_sub hl [0, 1] rfl)
  unfold wf_L_put at hf
  refine lv_aload_n hx hb wd_L_put_0 rfl (lv_at hl 0 rfl) ?_
  refine wx_get (v := .int (σ b 9)) (C := "WidthCampaigns$Line") (T := wx_TL) (N' := 10) hx hb hts wi_L hown hK hP b (wx_Ll0 hb_) (wx_L0 hb_ _) rfl 9 (by decide) wt_165 (fun _ h9 => h9) rfl wd_L_put_1 ?_
  refine lv_topi (fun v1 ev1 => ?_)
  have hf := wc_st_e ev1 hf
  refine lv_if_le (tgt := 19) hx hb wd_L_put_4 (by decide) (fun c2 => ?_) (fun c2 => ?_)
  · have hf := wc_t c2 hf
    exact J19 a1 σ hf _ _ _ hP hD hS (lv_sub hl [0, 1] rfl)
  · have hf := wc_f c2 hf
    refine lv_aload_n hx hb wd_L_put_7 rfl (lv_at hl 0 rfl) ?_
    refine lv_iload_n hx hb wd_L_put_8 rfl (lv_at hl 1 rfl) ?_
    obtain ⟨r17, σ16, hq, hf⟩ := wc_b2_e hf
    refine wx_calli (va_runV (As := [.int a1]) (rest := []) ⟨hx, hb, hml, hown, hts⟩ (wm_L_isWornWith l D ad cI cZ cJ cG _ b hb_ a1 σ _ hq) (wx_cwV 1 hts wt_497 wt_496 wp_19 wt_5 wt_494 wh_L_isWornWith rfl rfl ⟨Nat.le_of_ble_eq_true rfl, Nat.le_of_ble_eq_true rfl⟩) (wx_preV hK hP hD hS hA hC (wx_Ll0 hb_) (wx_L0 hb_ _) rfl) rfl rfl hl.1 rfl (lv_room (Nat.le_of_ble_eq_true rfl)) wd_L_put_9 ⟨Nat.le_of_ble_eq_true rfl, Nat.le_of_ble_eq_true rfl⟩) hD hS hA (fun H locs hP hD hS => ?_)
    refine lv_if_eq (tgt := 19) hx hb wd_L_put_12 (by decide) (fun c18 => ?_) (fun c18 => ?_)
    · have hf := wc_t c18 hf
      exact J19 a1 σ16 hf _ _ _ hP hD hS (lv_sub hl [0, 1] rfl)
    · have hf := wc_f c18 hf
      refine lv_iconst (v := 1) hx hb wd_L_put_15 (by decide) ?_
      refine lv_goto (tgt := 20) hx hb wd_L_put_16 (by decide) ?_
      exact J20 a1 1 σ16 hf _ _ _ hP hD hS (lv_sub hl [0, 1] rfl)
set_option maxHeartbeats 4000000 in
set_option maxRecDepth 100000 in
theorem wm_L_takeBack (l : Launch) (D : va_G) (ad : Nat → Nat) (cI cZ cJ cG : ClassId) (sz : Nat) (b : Nat) (hb_ : b = 30 ∨ b = 49) (σ : wc_S) (res : wc_S) (hf : wf_L_takeBack b σ = some res) : Met l wy_L_takeBack (wx_ws_L_takeBack) ({ frames := 0, cells := 0, slots := 0, locals := 0 }) (va_Pc [.ref (ad b)] (wx_pre D ad cI cZ cJ cG σ sz)) (wx_Qv D ad cI cZ cJ cG res (va_A (wx_W ad cI cZ cJ cG σ) sz)) 0 0 (va_A (wx_W ad cI cZ cJ cG σ) sz) := by
  refine wx_ofW (cc := prog_3_method_10_code) (maxL := 1) (ret := none) (Qc := fun A => wx_Qv D ad cI cZ cJ cG res A) [.ref (ad b)] (by decide) rfl (Nat.le_of_ble_eq_true rfl) ?_
  intro p e s m args below meth c A ls hin hl
  obtain ⟨hx, hb, hr, hts, hown, hlocks, hml, hA, hP, hK, hD, hC, hN, hS⟩ := hin
  have hl : lv_has ls 1 [(0, .ref (ad b))] := hl
  unfold wf_L_takeBack at hf
  refine lv_aload_n hx hb wd_L_takeBack_0 rfl (lv_at hl 0 rfl) ?_
  refine wx_get (v := .int (σ b 9)) (C := "WidthCampaigns$Line") (T := wx_TL) (N' := 10) hx hb hts wi_L hown hK hP b (wx_Ll0 hb_) (wx_L0 hb_ _) rfl 9 (by decide) wt_165 (fun _ h9 => h9) rfl wd_L_takeBack_1 ?_
  refine lv_topi (fun v1 ev1 => ?_)
  have hf := wc_st_e ev1 hf
  refine lv_if_le (tgt := 32) hx hb wd_L_takeBack_4 (by decide) (fun c2 => ?_) (fun c2 => ?_)
  · have hf := wc_t c2 hf
    exact wx_vret hx hb hr hlocks hf hP hS wd_L_takeBack_32
  · have hf := wc_f c2 hf
    refine lv_aload_n hx hb wd_L_takeBack_7 rfl (lv_at hl 0 rfl) ?_
    refine lv_dup hx hb wd_L_takeBack_8 rfl ?_
    refine wx_get (v := .int (σ b 9)) (C := "WidthCampaigns$Line") (T := wx_TL) (N' := 10) hx hb hts wi_L hown hK hP b (wx_Ll0 hb_) (wx_L0 hb_ _) rfl 9 (by decide) wt_165 (fun _ h9 => h9) rfl wd_L_takeBack_9 ?_
    refine lv_topi (fun v3 ev3 => ?_)
    have hf := wc_st_e ev3 hf
    refine lv_iconst (v := 1) hx hb wd_L_takeBack_12 (by decide) ?_
    refine lv_isub hx hb wd_L_takeBack_13 ?_
    refine lv_topi (fun v4 ev4 => ?_)
    have hf := wc_st_e ev4 hf
    refine wx_put (x := v4) (ty := .int) (C := "WidthCampaigns$Line") (T := wx_TL) (N' := 10) hx hb hts wi_L wx_tL wx_toL wx_nL hown hK hP hD hS b (wx_Ll0 hb_) (fun _ => (wx_L0 hb_ _)) rfl 9 (by decide) wt_165 (fun _ h9 => h9) rfl (by decide +kernel) rfl rfl (Nat.le_of_ble_eq_true rfl) rfl wd_L_takeBack_14 (fun σ5 H locs eσ5 hP hD hS => ?_)
    have hf := wc_st_e eσ5 hf
    refine lv_aload_n hx hb wd_L_takeBack_17 rfl (lv_at hl 0 rfl) ?_
    refine wx_get (v := .ref (ad (b + 2))) (C := "WidthCampaigns$Line") (T := wx_TL) (N' := 10) hx hb hts wi_L hown hK hP b (wx_Ll0 hb_) (wx_L0 hb_ _) rfl 2 (by decide) wt_157 (fun _ h9 => h9) rfl wd_L_takeBack_18 ?_
    refine lv_aload_n hx hb wd_L_takeBack_21 rfl (lv_at hl 0 rfl) ?_
    refine wx_get (v := .ref (ad (b + 1))) (C := "WidthCampaigns$Line") (T := wx_TL) (N' := 10) hx hb hts wi_L hown hK hP b (wx_Ll0 hb_) (wx_L0 hb_ _) rfl 1 (by decide) wt_154 (fun _ h9 => h9) rfl wd_L_takeBack_22 ?_
    refine lv_aload_n hx hb wd_L_takeBack_25 rfl (lv_at hl 0 rfl) ?_
    refine wx_get (v := .int (σ5 b 9)) (C := "WidthCampaigns$Line") (T := wx_TL) (N' := 10) hx hb hts wi_L hown hK hP b (wx_Ll0 hb_) (wx_L0 hb_ _) rfl 9 (by decide) wt_165 (fun _ h9 => h9) rfl wd_L_takeBack_26 ?_
    refine lv_topi (fun v6 ev6 => ?_)
    have hf := wc_st_e ev6 hf
    obtain ⟨h7, hf⟩ := wc_gd_e hf
    refine wx_iald hx hb hK hP (b + 1) (n := 9) (wx_Ll1 hb_) (wx_L1 hb_ _) (wc_in_e h7) wd_L_takeBack_29 ?_
    refine lv_topi (fun v8 ev8 => ?_)
    have hf := wc_st_e ev8 hf
    refine lv_iconst (v := 0) hx hb wd_L_takeBack_30 (by decide) ?_
    obtain ⟨h9, hf⟩ := wc_gd_e hf
    refine wx_zast hx hb hK hP hD hS (b + 2) (n := 9) (wx_Ll2 hb_) (fun _ => (wx_L2 hb_ _)) h9 wd_L_takeBack_31 (fun σ10 H locs eσ10 hP hD hS => ?_)
    have hf := wc_st_e eσ10 hf
    exact wx_vret hx hb hr hlocks hf hP hS wd_L_takeBack_32
set_option maxHeartbeats 4000000 in
set_option maxRecDepth 100000 in
theorem wm_L_layAll (l : Launch) (D : va_G) (ad : Nat → Nat) (cI cZ cJ cG : ClassId) (sz : Nat) (b : Nat) (hb_ : b = 30 ∨ b = 49) (k1 : Nat) (hk1_ : k1 = 69 ∨ k1 = 70) (σ : wc_S) (res : Int32 × wc_S) (hf : wf_L_layAll b k1 σ = some res) : Met l wy_L_layAll (wx_ws_L_layAll) ({ frames := 3, cells := 0, slots := 0, locals := 70 }) (va_Pc [.ref (ad b), .ref (ad k1)] (wx_pre D ad cI cZ cJ cG σ sz)) (wx_Qi D ad cI cZ cJ cG res (va_A (wx_W ad cI cZ cJ cG σ) sz)) 0 0 (va_A (wx_W ad cI cZ cJ cG σ) sz) := by
  refine wx_ofW (cc := prog_3_method_6_code) (maxL := 3) (ret := (some .boolean)) (Qc := fun A => wx_Qi D ad cI cZ cJ cG res A) [.ref (ad b), .ref (ad k1)] (by decide) rfl (Nat.le_of_ble_eq_true rfl) ?_
  intro p e s m args below meth c A ls hin hl
  obtain ⟨hx, hb, hr, hts, hown, hlocks, hml, hA, hP, hK, hD, hC, hN, hS⟩ := hin
  have hl : lv_has ls 3 [(0, .ref (ad b)), (1, .ref (ad k1))] := hl
  have J6 : ∀ (n : Nat) (x2 : Int32) (σ : wc_S), wf_L_layAll_6 b k1 n x2 σ = some res → wx_Arr p l e ({ frames := 3, cells := 0, slots := 0, locals := 70 }) s m args below meth c D ad cI cZ cJ cG A (MQ below (wx_Qi D ad cI cZ cJ cG res A) args s 0 0 A) 3 0 0 6 [(0, .ref (ad b)), (1, .ref (ad k1)), (2, .int x2)] [] σ := by
    intro  n
    induction n with
    | zero => intro x2 σ hf; exact absurd hf (by intro h9; cases h9)
    | succ n hk6 =>
      intro x2 σ hf H locs ls hP hD hS hl
      have hf : wf_L_layAll_6_b b k1 (wf_L_layAll_6 b k1 n) x2 σ = some res := hf
      unfold wf_L_layAll_6_b at hf
      refine lv_iload_n hx hb wd_L_layAll_6 rfl (lv_at hl 2 rfl) ?_
      refine lv_aload_n hx hb wd_L_layAll_7 rfl (lv_at hl 0 rfl) ?_
      refine wx_get (v := .ref (ad 1)) (C := "WidthCampaigns$Line") (T := wx_TL) (N' := 10) hx hb hts wi_L hown hK hP b (wx_Ll0 hb_) (wx_L0 hb_ _) rfl 0 (by decide) wt_153 (fun _ h9 => h9) rfl wd_L_layAll_8 ?_
      refine wx_getN (v := .int (σ 1 10)) (C := "WidthCampaigns$Plant") (T := wx_TP) (N' := 15) hx hb hts wi_P hown hK hP 1 (by decide) rfl rfl 10 (by decide) (hN.1 _ (List.mem_of_getElem? (i := 16) rfl) #[]) (fun _ h9 => h9) rfl wd_L_layAll_11 ?_
      refine lv_topi (fun v2 ev2 => ?_)
      have hf := wc_st_e ev2 hf
      refine lv_icmp_ge (tgt := 42) hx hb wd_L_layAll_14 (by decide) (fun c3 => ?_) (fun c3 => ?_)
      · have hf := wc_t c3 hf
        refine lv_iconst (v := 1) hx hb wd_L_layAll_42 (by decide) ?_
        exact wx_zret hx hb hr narrow_b1 hlocks hf hP hS wd_L_layAll_43
      · have hf := wc_f c3 hf
        refine lv_aload_n hx hb wd_L_layAll_17 rfl (lv_at hl 0 rfl) ?_
        refine lv_aload_n hx hb wd_L_layAll_18 rfl (lv_at hl 1 rfl) ?_
        refine lv_iload_n hx hb wd_L_layAll_19 rfl (lv_at hl 2 rfl) ?_
        obtain ⟨h4, hf⟩ := wc_gd_e hf
        refine wx_iald hx hb hK hP k1 (n := 9) (wx_Al hk1_) (wx_A hk1_ _) (wc_in_e h4) wd_L_layAll_20 ?_
        refine lv_topi (fun v5 ev5 => ?_)
        have hf := wc_st_e ev5 hf
        obtain ⟨r7, σ6, hq, hf⟩ := wc_b2_e hf
        refine wx_calli (va_runV (As := [.int v5]) (rest := []) ⟨hx, hb, hml, hown, hts⟩ (wm_L_mayPut l D ad cI cZ cJ cG _ b hb_ v5 σ _ hq) (wx_cwV 1 hts wt_481 wt_480 wp_15 wt_5 wt_519 wh_L_mayPut rfl rfl ⟨Nat.le_of_ble_eq_true rfl, Nat.le_of_ble_eq_true rfl⟩) (wx_preV hK hP hD hS hA hC (wx_Ll0 hb_) (wx_L0 hb_ _) rfl) rfl rfl hl.1 rfl (lv_room (Nat.le_of_ble_eq_true rfl)) wd_L_layAll_21 ⟨Nat.le_of_ble_eq_true rfl, Nat.le_of_ble_eq_true rfl⟩) hD hS hA (fun H locs hP hD hS => ?_)
        refine lv_if_ne (tgt := 29) hx hb wd_L_layAll_24 (by decide) (fun c8 => ?_) (fun c8 => ?_)
        · have hf := wc_f c8 hf
          refine lv_aload_n hx hb wd_L_layAll_29 rfl (lv_at hl 0 rfl) ?_
          refine lv_aload_n hx hb wd_L_layAll_30 rfl (lv_at hl 1 rfl) ?_
          refine lv_iload_n hx hb wd_L_layAll_31 rfl (lv_at hl 2 rfl) ?_
          obtain ⟨h9, hf⟩ := wc_gd_e hf
          refine wx_iald hx hb hK hP k1 (n := 9) (wx_Al hk1_) (wx_A hk1_ _) (wc_in_e h9) wd_L_layAll_32 ?_
          refine lv_topi (fun v10 ev10 => ?_)
          have hf := wc_st_e ev10 hf
          obtain ⟨σ11, hq, hf⟩ := wc_b1_e hf
          refine wx_callv (va_runV (As := [.int v10]) (rest := []) ⟨hx, hb, hml, hown, hts⟩ (wm_L_put l D ad cI cZ cJ cG _ b hb_ v10 σ6 _ hq) (wx_cwV 1 hts wt_493 wt_492 wp_18 wt_5 wt_520 wh_L_put rfl rfl ⟨Nat.le_of_ble_eq_true rfl, Nat.le_of_ble_eq_true rfl⟩) (wx_preV hK hP hD hS hA hC (wx_Ll0 hb_) (wx_L0 hb_ _) rfl) rfl rfl hl.1 rfl (lv_room (Nat.le_of_ble_eq_true rfl)) wd_L_layAll_33 ⟨Nat.le_of_ble_eq_true rfl, Nat.le_of_ble_eq_true rfl⟩) hD hS hA (fun H locs hP hD hS => ?_)
          obtain ⟨v12, ev12⟩ : ∃ y : Int32, y = x2 + 1 := ⟨_, rfl⟩
          have hf := wc_st_e ev12 hf
          refine lv_iinc (v := v12) (lv' := [(2, .int v12), (0, .ref (ad b)), (1, .ref (ad k1))]) hx hb wd_L_layAll_36 hl (k := 2) rfl (by rw [ev12]; rfl) (by decide) rfl (fun ls hl => ?_)
          refine lv_goto (tgt := 6) hx hb wd_L_layAll_39 (by decide) ?_
          exact hk6 v12 σ11 hf _ _ _ hP hD hS (lv_sub hl [1, 2, 0] rfl)
        · have hf := wc_t c8 hf
          refine lv_iconst (v := 0) hx hb wd_L_layAll_27 (by decide) ?_
          exact wx_zret hx hb hr narrow_b0 hlocks hf hP hS wd_L_layAll_28
  unfold wf_L_layAll at hf
  refine lv_aload_n hx hb wd_L_layAll_0 rfl (lv_at hl 0 rfl) ?_
  obtain ⟨σ1, hq, hf⟩ := wc_b1_e hf
  refine wx_callv (va_runV (As := []) (rest := []) ⟨hx, hb, hml, hown, hts⟩ (wm_L_clear l D ad cI cZ cJ cG _ b hb_ σ _ hq) (wx_cwV 0 hts wt_462 wt_461 wp_11 wt_5 wt_518 wh_L_clear rfl rfl ⟨Nat.le_of_ble_eq_true rfl, Nat.le_of_ble_eq_true rfl⟩) (wx_preV hK hP hD hS hA hC (wx_Ll0 hb_) (wx_L0 hb_ _) rfl) rfl rfl hl.1 rfl (lv_room (Nat.le_of_ble_eq_true rfl)) wd_L_layAll_1 ⟨Nat.le_of_ble_eq_true rfl, Nat.le_of_ble_eq_true rfl⟩) hD hS hA (fun H locs hP hD hS => ?_)
  refine lv_iconst (v := 0) hx hb wd_L_layAll_4 (by decide) ?_
  refine lv_istore_n (lv' := [(2, .int 0), (0, .ref (ad b)), (1, .ref (ad k1))]) hx hb wd_L_layAll_5 rfl hl (by decide) rfl (fun ls hl => ?_)
  exact J6 16 0 σ1 hf _ _ _ hP hD hS (lv_sub hl [1, 2, 0] rfl)
