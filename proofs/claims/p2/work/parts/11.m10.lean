set_option maxHeartbeats 4000000 in
set_option maxRecDepth 100000 in
theorem wm_M_reckon (l : Launch) (D : va_G) (ad : Nat → Nat) (cI cZ cJ cG : ClassId) (sz : Nat) (k1 : Nat) (hk1_ : k1 = 85 ∨ k1 = 86) (a2 : Int32) (σ : wc_S) (res : wc_S) (hf : wf_M_reckon k1 a2 σ = some res) : Met l wy_M_reckon (wx_ws_M_reckon) ({ frames := 2, cells := 0, slots := 0, locals := 48 }) (va_Pc [.ref (ad 71), .ref (ad k1), .int a2] (wx_pre D ad cI cZ cJ cG σ sz)) (wx_Qv D ad cI cZ cJ cG res (va_A (wx_W ad cI cZ cJ cG σ) sz)) 0 0 (va_A (wx_W ad cI cZ cJ cG σ) sz) := by
  refine wx_ofW (cc := prog_8_method_16_code) (maxL := 5) (ret := none) (Qc := fun A => wx_Qv D ad cI cZ cJ cG res A) [.ref (ad 71), .ref (ad k1), .int a2] (by decide) rfl (Nat.le_of_ble_eq_true rfl) ?_
  intro p e s m args below meth c A ls hin hl
  obtain ⟨hx, hb, hr, hts, hown, hlocks, hml, hA, hP, hK, hD, hC, hN, hS⟩ := hin
  have hl : lv_has ls 5 [(0, .ref (ad 71)), (1, .ref (ad k1)), (2, .int a2)] := hl
  have J167 : ∀ (k20 : Int32 → Int32 → Int32 → wc_S → Option wc_S) (hk20 : (∀ (x2 : Int32) (x3 : Int32) (x4 : Int32) (σ : wc_S), k20 x2 x3 x4 σ = some res → wx_Arr p l e ({ frames := 2, cells := 0, slots := 0, locals := 48 }) s m args below meth c D ad cI cZ cJ cG A (MQ below (wx_Qv D ad cI cZ cJ cG res A) args s 0 0 A) 5 0 0 20 [(0, .ref (ad 71)), (1, .ref (ad k1)), (2, .int x2), (3, .int x3), (4, .int x4)] [] σ)) (x2 : Int32) (x3 : Int32) (x4 : Int32) (σ : wc_S), wf_M_reckon_167 k1 k20 x2 x3 x4 σ = some res → wx_Arr p l e ({ frames := 2, cells := 0, slots := 0, locals := 48 }) s m args below meth c D ad cI cZ cJ cG A (MQ below (wx_Qv D ad cI cZ cJ cG res A) args s 0 0 A) 5 0 0 167 [(0, .ref (ad 71)), (1, .ref (ad k1)), (2, .int x2), (3, .int x3), (4, .int x4)] [] σ := by
    intro k20 hk20 x2 x3 x4 σ hf H locs ls hP hD hS hl
    unfold wf_M_reckon_167 at hf
    obtain ⟨v17, ev17⟩ : ∃ y : Int32, y = x4 + 1 := ⟨_, rfl⟩
    have hf := wc_st_e ev17 hf
    refine lv_iinc (v := v17) (lv' := [(4, .int v17), (0, .ref (ad 71)), (1, .ref (ad k1)), (2, .int x2), (3, .int x3)]) hx hb wd_M_reckon_167 hl (k := 4) rfl (by rw [ev17]; rfl) (by decide) rfl (fun ls hl => ?_)
    refine lv_goto (tgt := 20) hx hb wd_M_reckon_170 (by decide) ?_
    exact hk20 x2 x3 v17 σ hf _ _ _ hP hD hS (lv_sub hl [1, 2, 3, 4, 0] rfl)
  have J118 : ∀ (k20 : Int32 → Int32 → Int32 → wc_S → Option wc_S) (hk20 : (∀ (x2 : Int32) (x3 : Int32) (x4 : Int32) (σ : wc_S), k20 x2 x3 x4 σ = some res → wx_Arr p l e ({ frames := 2, cells := 0, slots := 0, locals := 48 }) s m args below meth c D ad cI cZ cJ cG A (MQ below (wx_Qv D ad cI cZ cJ cG res A) args s 0 0 A) 5 0 0 20 [(0, .ref (ad 71)), (1, .ref (ad k1)), (2, .int x2), (3, .int x3), (4, .int x4)] [] σ)) (x2 : Int32) (x3 : Int32) (x4 : Int32) (σ : wc_S), wf_M_reckon_118 k1 k20 x2 x3 x4 σ = some res → wx_Arr p l e ({ frames := 2, cells := 0, slots := 0, locals := 48 }) s m args below meth c D ad cI cZ cJ cG A (MQ below (wx_Qv D ad cI cZ cJ cG res A) args s 0 0 A) 5 0 0 118 [(0, .ref (ad 71)), (1, .ref (ad k1)), (2, .int x2), (3, .int x3), (4, .int x4)] [] σ := by
    intro k20 hk20 x2 x3 x4 σ hf H locs ls hP hD hS hl
    unfold wf_M_reckon_118 at hf
    refine lv_aload_n hx hb wd_M_reckon_118 rfl (lv_at hl 0 rfl) ?_
    refine wx_get (v := .ref (ad 77)) (C := "WidthCampaignsModel") (T := wx_TM) (N' := 29) hx hb hts wi_M hown hK hP 71 (by decide) rfl rfl 7 (by decide) wt_637 (fun _ h9 => h9) rfl wd_M_reckon_119 ?_
    refine lv_aload_n hx hb wd_M_reckon_122 rfl (lv_at hl 1 rfl) ?_
    refine lv_iload hx hb wd_M_reckon_123 (lv_at hl 4 rfl) ?_
    obtain ⟨h12, hf⟩ := wc_gd_e hf
    refine wx_iald hx hb hK hP k1 (n := 9) (wx_Ml hk1_) (wx_M hk1_ _) (wc_in_e h12) wd_M_reckon_125 ?_
    refine lv_topi (fun v13 ev13 => ?_)
    have hf := wc_st_e ev13 hf
    obtain ⟨h14, hf⟩ := wc_gd_e hf
    refine wx_iald hx hb hK hP 77 (n := 9) (by decide) rfl (wc_in_e h14) wd_M_reckon_126 ?_
    refine lv_topi (fun v15 ev15 => ?_)
    have hf := wc_st_e ev15 hf
    refine lv_if_lt (tgt := 167) hx hb wd_M_reckon_127 (by decide) (fun c16 => ?_) (fun c16 => ?_)
    · have hf := wc_t c16 hf
      exact J167 k20 hk20 x2 x3 x4 σ hf _ _ _ hP hD hS (lv_sub hl [0, 1, 2, 3, 4] rfl)
    · have hf := wc_f c16 hf
      refine lv_aload_n hx hb wd_M_reckon_130 rfl (lv_at hl 0 rfl) ?_
      refine wx_get (v := .ref (ad 77)) (C := "WidthCampaignsModel") (T := wx_TM) (N' := 29) hx hb hts wi_M hown hK hP 71 (by decide) rfl rfl 7 (by decide) wt_637 (fun _ h9 => h9) rfl wd_M_reckon_131 ?_
      refine lv_aload_n hx hb wd_M_reckon_134 rfl (lv_at hl 1 rfl) ?_
      refine lv_iload hx hb wd_M_reckon_135 (lv_at hl 4 rfl) ?_
      obtain ⟨h18, hf⟩ := wc_gd_e hf
      refine wx_iald hx hb hK hP k1 (n := 9) (wx_Ml hk1_) (wx_M hk1_ _) (wc_in_e h18) wd_M_reckon_137 ?_
      refine lv_topi (fun v19 ev19 => ?_)
      have hf := wc_st_e ev19 hf
      obtain ⟨h20, hf⟩ := wc_gd_e hf
      refine wx_iald hx hb hK hP 77 (n := 9) (by decide) rfl (wc_in_e h20) wd_M_reckon_138 ?_
      refine lv_topi (fun v21 ev21 => ?_)
      have hf := wc_st_e ev21 hf
      refine lv_iload hx hb wd_M_reckon_139 (lv_at hl 4 rfl) ?_
      refine lv_icmp_eq (tgt := 167) hx hb wd_M_reckon_141 (by decide) (fun c22 => ?_) (fun c22 => ?_)
      · have hf := wc_t c22 hf
        exact J167 k20 hk20 x2 x3 x4 σ hf _ _ _ hP hD hS (lv_sub hl [0, 1, 2, 3, 4] rfl)
      · have hf := wc_f c22 hf
        refine lv_aload_n hx hb wd_M_reckon_144 rfl (lv_at hl 0 rfl) ?_
        refine lv_dup hx hb wd_M_reckon_145 rfl ?_
        refine wx_get (v := .int (σ 71 27)) (C := "WidthCampaignsModel") (T := wx_TM) (N' := 29) hx hb hts wi_M hown hK hP 71 (by decide) rfl rfl 27 (by decide) wt_657 (fun _ h9 => h9) rfl wd_M_reckon_146 ?_
        refine lv_topi (fun v23 ev23 => ?_)
        have hf := wc_st_e ev23 hf
        refine lv_iconst (v := 1) hx hb wd_M_reckon_149 (by decide) ?_
        refine lv_iadd hx hb wd_M_reckon_150 ?_
        refine lv_topi (fun v24 ev24 => ?_)
        have hf := wc_st_e ev24 hf
        refine wx_put (x := v24) (ty := .int) (C := "WidthCampaignsModel") (T := wx_TM) (N' := 29) hx hb hts wi_M wx_tM wx_toM wx_nM hown hK hP hD hS 71 (by decide) (fun _ => rfl) rfl 27 (by decide) wt_657 (fun _ h9 => h9) rfl (by decide +kernel) rfl rfl (Nat.le_of_ble_eq_true rfl) rfl wd_M_reckon_151 (fun σ25 H locs eσ25 hP hD hS => ?_)
        have hf := wc_st_e eσ25 hf
        refine lv_aload_n hx hb wd_M_reckon_154 rfl (lv_at hl 0 rfl) ?_
        refine lv_aload_n hx hb wd_M_reckon_155 rfl (lv_at hl 0 rfl) ?_
        refine wx_get (v := .int (σ25 71 25)) (C := "WidthCampaignsModel") (T := wx_TM) (N' := 29) hx hb hts wi_M hown hK hP 71 (by decide) rfl rfl 25 (by decide) wt_655 (fun _ h9 => h9) rfl wd_M_reckon_156 ?_
        refine lv_topi (fun v26 ev26 => ?_)
        have hf := wc_st_e ev26 hf
        refine lv_aload_n hx hb wd_M_reckon_159 rfl (lv_at hl 0 rfl) ?_
        refine wx_get (v := .int (σ25 71 19)) (C := "WidthCampaignsModel") (T := wx_TM) (N' := 29) hx hb hts wi_M hown hK hP 71 (by decide) rfl rfl 19 (by decide) wt_649 (fun _ h9 => h9) rfl wd_M_reckon_160 ?_
        refine lv_topi (fun v27 ev27 => ?_)
        have hf := wc_st_e ev27 hf
        refine lv_iadd hx hb wd_M_reckon_163 ?_
        refine lv_topi (fun v28 ev28 => ?_)
        have hf := wc_st_e ev28 hf
        refine wx_put (x := v28) (ty := .int) (C := "WidthCampaignsModel") (T := wx_TM) (N' := 29) hx hb hts wi_M wx_tM wx_toM wx_nM hown hK hP hD hS 71 (by decide) (fun _ => rfl) rfl 25 (by decide) wt_655 (fun _ h9 => h9) rfl (by decide +kernel) rfl rfl (Nat.le_of_ble_eq_true rfl) rfl wd_M_reckon_164 (fun σ29 H locs eσ29 hP hD hS => ?_)
        have hf := wc_st_e eσ29 hf
        exact J167 k20 hk20 x2 x3 x4 σ29 hf _ _ _ hP hD hS (lv_sub hl [0, 1, 2, 3, 4] rfl)
  have J90 : ∀ (k20 : Int32 → Int32 → Int32 → wc_S → Option wc_S) (hk20 : (∀ (x2 : Int32) (x3 : Int32) (x4 : Int32) (σ : wc_S), k20 x2 x3 x4 σ = some res → wx_Arr p l e ({ frames := 2, cells := 0, slots := 0, locals := 48 }) s m args below meth c D ad cI cZ cJ cG A (MQ below (wx_Qv D ad cI cZ cJ cG res A) args s 0 0 A) 5 0 0 20 [(0, .ref (ad 71)), (1, .ref (ad k1)), (2, .int x2), (3, .int x3), (4, .int x4)] [] σ)) (x2 : Int32) (x3 : Int32) (x4 : Int32) (σ : wc_S), wf_M_reckon_90 k1 k20 x2 x3 x4 σ = some res → wx_Arr p l e ({ frames := 2, cells := 0, slots := 0, locals := 48 }) s m args below meth c D ad cI cZ cJ cG A (MQ below (wx_Qv D ad cI cZ cJ cG res A) args s 0 0 A) 5 0 0 90 [(0, .ref (ad 71)), (1, .ref (ad k1)), (2, .int x2), (3, .int x3), (4, .int x4)] [] σ := by
    intro k20 hk20 x2 x3 x4 σ hf H locs ls hP hD hS hl
    unfold wf_M_reckon_90 at hf
    refine lv_iload hx hb wd_M_reckon_90 (lv_at hl 4 rfl) ?_
    refine lv_if_le (tgt := 118) hx hb wd_M_reckon_92 (by decide) (fun c11 => ?_) (fun c11 => ?_)
    · have hf := wc_t c11 hf
      exact J118 k20 hk20 x2 x3 x4 σ hf _ _ _ hP hD hS (lv_sub hl [0, 1, 2, 3, 4] rfl)
    · have hf := wc_f c11 hf
      refine lv_aload_n hx hb wd_M_reckon_95 rfl (lv_at hl 0 rfl) ?_
      refine lv_aload_n hx hb wd_M_reckon_96 rfl (lv_at hl 0 rfl) ?_
      refine wx_get (v := .int (σ 71 25)) (C := "WidthCampaignsModel") (T := wx_TM) (N' := 29) hx hb hts wi_M hown hK hP 71 (by decide) rfl rfl 25 (by decide) wt_655 (fun _ h9 => h9) rfl wd_M_reckon_97 ?_
      refine lv_topi (fun v30 ev30 => ?_)
      have hf := wc_st_e ev30 hf
      refine lv_aload_n hx hb wd_M_reckon_100 rfl (lv_at hl 0 rfl) ?_
      refine lv_aload_n hx hb wd_M_reckon_101 rfl (lv_at hl 1 rfl) ?_
      refine lv_iload hx hb wd_M_reckon_102 (lv_at hl 4 rfl) ?_
      refine lv_iconst (v := 1) hx hb wd_M_reckon_104 (by decide) ?_
      refine lv_isub hx hb wd_M_reckon_105 ?_
      refine lv_topi (fun v31 ev31 => ?_)
      have hf := wc_st_e ev31 hf
      obtain ⟨h32, hf⟩ := wc_gd_e hf
      refine wx_iald hx hb hK hP k1 (n := 9) (wx_Ml hk1_) (wx_M hk1_ _) (wc_in_e h32) wd_M_reckon_106 ?_
      refine lv_topi (fun v33 ev33 => ?_)
      have hf := wc_st_e ev33 hf
      refine lv_aload_n hx hb wd_M_reckon_107 rfl (lv_at hl 1 rfl) ?_
      refine lv_iload hx hb wd_M_reckon_108 (lv_at hl 4 rfl) ?_
      obtain ⟨h34, hf⟩ := wc_gd_e hf
      refine wx_iald hx hb hK hP k1 (n := 9) (wx_Ml hk1_) (wx_M hk1_ _) (wc_in_e h34) wd_M_reckon_110 ?_
      refine lv_topi (fun v35 ev35 => ?_)
      have hf := wc_st_e ev35 hf
      obtain ⟨r37, σ36, hq, hf⟩ := wc_b2_e hf
      refine wx_calli (va_runV (As := [.int v33, .int v35]) (rest := [.int v30, .ref (ad 71)]) ⟨hx, hb, hml, hown, hts⟩ (wm_M_jumpOf l D ad cI cZ cJ cG _ v33 v35 σ _ hq) (wx_cwV 2 hts wt_777 wt_776 wp_37 wt_7 wt_774 wh_M_jumpOf rfl rfl ⟨Nat.le_of_ble_eq_true rfl, Nat.le_of_ble_eq_true rfl⟩) (wx_preV hK hP hD hS hA hC (by decide) rfl rfl) rfl rfl hl.1 rfl (lv_room (Nat.le_of_ble_eq_true rfl)) wd_M_reckon_111 ⟨Nat.le_of_ble_eq_true rfl, Nat.le_of_ble_eq_true rfl⟩) hD hS hA (fun H locs hP hD hS => ?_)
      refine lv_iadd hx hb wd_M_reckon_114 ?_
      refine lv_topi (fun v38 ev38 => ?_)
      have hf := wc_st_e ev38 hf
      refine wx_put (x := v38) (ty := .int) (C := "WidthCampaignsModel") (T := wx_TM) (N' := 29) hx hb hts wi_M wx_tM wx_toM wx_nM hown hK hP hD hS 71 (by decide) (fun _ => rfl) rfl 25 (by decide) wt_655 (fun _ h9 => h9) rfl (by decide +kernel) rfl rfl (Nat.le_of_ble_eq_true rfl) rfl wd_M_reckon_115 (fun σ39 H locs eσ39 hP hD hS => ?_)
      have hf := wc_st_e eσ39 hf
      exact J118 k20 hk20 x2 x3 x4 σ39 hf _ _ _ hP hD hS (lv_sub hl [0, 1, 2, 3, 4] rfl)
  have J53 : ∀ (k20 : Int32 → Int32 → Int32 → wc_S → Option wc_S) (hk20 : (∀ (x2 : Int32) (x3 : Int32) (x4 : Int32) (σ : wc_S), k20 x2 x3 x4 σ = some res → wx_Arr p l e ({ frames := 2, cells := 0, slots := 0, locals := 48 }) s m args below meth c D ad cI cZ cJ cG A (MQ below (wx_Qv D ad cI cZ cJ cG res A) args s 0 0 A) 5 0 0 20 [(0, .ref (ad 71)), (1, .ref (ad k1)), (2, .int x2), (3, .int x3), (4, .int x4)] [] σ)) (x2 : Int32) (x3 : Int32) (x4 : Int32) (s1 : Int32) (s2 : Int32) (σ : wc_S), wf_M_reckon_53 k1 k20 x2 x3 x4 s1 s2 σ = some res → wx_Arr p l e ({ frames := 2, cells := 0, slots := 0, locals := 48 }) s m args below meth c D ad cI cZ cJ cG A (MQ below (wx_Qv D ad cI cZ cJ cG res A) args s 0 0 A) 5 0 0 53 [(0, .ref (ad 71)), (1, .ref (ad k1)), (2, .int x2), (3, .int x3), (4, .int x4)] [.int s2, .int s1, .ref (ad 87)] σ := by
    intro k20 hk20 x2 x3 x4 s1 s2 σ hf H locs ls hP hD hS hl
    unfold wf_M_reckon_53 at hf
    obtain ⟨h6, hf⟩ := wc_gd_e hf
    refine wx_zast hx hb hK hP hD hS 87 (n := 9) (by decide) (fun _ => rfl) h6 wd_M_reckon_53 (fun σ7 H locs eσ7 hP hD hS => ?_)
    have hf := wc_st_e eσ7 hf
    refine lv_aload_n hx hb wd_M_reckon_54 rfl (lv_at hl 0 rfl) ?_
    refine wx_get (v := .ref (ad 87)) (C := "WidthCampaignsModel") (T := wx_TM) (N' := 29) hx hb hts wi_M hown hK hP 71 (by decide) rfl rfl 28 (by decide) wt_658 (fun _ h9 => h9) rfl wd_M_reckon_55 ?_
    refine lv_iload hx hb wd_M_reckon_58 (lv_at hl 4 rfl) ?_
    obtain ⟨h8, hf⟩ := wc_gd_e hf
    refine wx_zald hx hb hK hP 87 (n := 9) (by decide) rfl (wc_in_e h8) wd_M_reckon_60 ?_
    refine lv_topi (fun v9 ev9 => ?_)
    have hf := wc_st_e ev9 hf
    refine lv_if_eq (tgt := 90) hx hb wd_M_reckon_61 (by decide) (fun c10 => ?_) (fun c10 => ?_)
    · have hf := wc_t c10 hf
      exact J90 k20 hk20 x2 x3 x4 σ7 hf _ _ _ hP hD hS (lv_sub hl [0, 1, 2, 3, 4] rfl)
    · have hf := wc_f c10 hf
      refine lv_iload hx hb wd_M_reckon_64 (lv_at hl 4 rfl) ?_
      refine lv_istore_n (lv' := [(3, .int x4), (0, .ref (ad 71)), (1, .ref (ad k1)), (2, .int x2), (4, .int x4)]) hx hb wd_M_reckon_66 rfl hl (by decide) rfl (fun ls hl => ?_)
      refine lv_aload_n hx hb wd_M_reckon_67 rfl (lv_at hl 1 rfl) ?_
      refine lv_dup hx hb wd_M_reckon_68 rfl ?_
      refine wx_get (v := .int (σ7 71 26)) (C := "WidthCampaignsModel") (T := wx_TM) (N' := 29) hx hb hts wi_M hown hK hP 71 (by decide) rfl rfl 26 (by decide) wt_656 (fun _ h9 => h9) rfl wd_M_reckon_69 ?_
      refine lv_topi (fun v40 ev40 => ?_)
      have hf := wc_st_e ev40 hf
      refine lv_iconst (v := 1) hx hb wd_M_reckon_72 (by decide) ?_
      refine lv_iadd hx hb wd_M_reckon_73 ?_
      refine lv_topi (fun v41 ev41 => ?_)
      have hf := wc_st_e ev41 hf
      refine wx_put (x := v41) (ty := .int) (C := "WidthCampaignsModel") (T := wx_TM) (N' := 29) hx hb hts wi_M wx_tM wx_toM wx_nM hown hK hP hD hS 71 (by decide) (fun _ => rfl) rfl 26 (by decide) wt_656 (fun _ h9 => h9) rfl (by decide +kernel) rfl rfl (Nat.le_of_ble_eq_true rfl) rfl wd_M_reckon_74 (fun σ42 H locs eσ42 hP hD hS => ?_)
      have hf := wc_st_e eσ42 hf
      refine lv_aload_n hx hb wd_M_reckon_77 rfl (lv_at hl 1 rfl) ?_
      refine lv_aload_n hx hb wd_M_reckon_78 rfl (lv_at hl 1 rfl) ?_
      refine wx_get (v := .int (σ42 71 25)) (C := "WidthCampaignsModel") (T := wx_TM) (N' := 29) hx hb hts wi_M hown hK hP 71 (by decide) rfl rfl 25 (by decide) wt_655 (fun _ h9 => h9) rfl wd_M_reckon_79 ?_
      refine lv_topi (fun v43 ev43 => ?_)
      have hf := wc_st_e ev43 hf
      refine lv_aload_n hx hb wd_M_reckon_82 rfl (lv_at hl 1 rfl) ?_
      refine wx_get (v := .int (σ42 71 18)) (C := "WidthCampaignsModel") (T := wx_TM) (N' := 29) hx hb hts wi_M hown hK hP 71 (by decide) rfl rfl 18 (by decide) wt_648 (fun _ h9 => h9) rfl wd_M_reckon_83 ?_
      refine lv_topi (fun v44 ev44 => ?_)
      have hf := wc_st_e ev44 hf
      refine lv_iadd hx hb wd_M_reckon_86 ?_
      refine lv_topi (fun v45 ev45 => ?_)
      have hf := wc_st_e ev45 hf
      refine wx_put (x := v45) (ty := .int) (C := "WidthCampaignsModel") (T := wx_TM) (N' := 29) hx hb hts wi_M wx_tM wx_toM wx_nM hown hK hP hD hS 71 (by decide) (fun _ => rfl) rfl 25 (by decide) wt_655 (fun _ h9 => h9) rfl (by decide +kernel) rfl rfl (Nat.le_of_ble_eq_true rfl) rfl wd_M_reckon_87 (fun σ46 H locs eσ46 hP hD hS => ?_)
      have hf := wc_st_e eσ46 hf
      exact J90 k20 hk20 x2 x4 x4 σ46 hf _ _ _ hP hD hS (lv_sub hl [1, 2, 3, 0, 4] rfl)
  have J52 : ∀ (k20 : Int32 → Int32 → Int32 → wc_S → Option wc_S) (hk20 : (∀ (x2 : Int32) (x3 : Int32) (x4 : Int32) (σ : wc_S), k20 x2 x3 x4 σ = some res → wx_Arr p l e ({ frames := 2, cells := 0, slots := 0, locals := 48 }) s m args below meth c D ad cI cZ cJ cG A (MQ below (wx_Qv D ad cI cZ cJ cG res A) args s 0 0 A) 5 0 0 20 [(0, .ref (ad 71)), (1, .ref (ad k1)), (2, .int x2), (3, .int x3), (4, .int x4)] [] σ)) (x2 : Int32) (x3 : Int32) (x4 : Int32) (s1 : Int32) (σ : wc_S), wf_M_reckon_52 k1 k20 x2 x3 x4 s1 σ = some res → wx_Arr p l e ({ frames := 2, cells := 0, slots := 0, locals := 48 }) s m args below meth c D ad cI cZ cJ cG A (MQ below (wx_Qv D ad cI cZ cJ cG res A) args s 0 0 A) 5 0 0 52 [(0, .ref (ad 71)), (1, .ref (ad k1)), (2, .int x2), (3, .int x3), (4, .int x4)] [.int s1, .ref (ad 87)] σ := by
    intro k20 hk20 x2 x3 x4 s1 σ hf H locs ls hP hD hS hl
    unfold wf_M_reckon_52 at hf
    refine lv_iconst (v := 0) hx hb wd_M_reckon_52 (by decide) ?_
    exact J53 k20 hk20 x2 x3 x4 s1 0 σ hf _ _ _ hP hD hS (lv_sub hl [0, 1, 2, 3, 4] rfl)
  have J20 : ∀ (n : Nat) (x2 : Int32) (x3 : Int32) (x4 : Int32) (σ : wc_S), wf_M_reckon_20 k1 n x2 x3 x4 σ = some res → wx_Arr p l e ({ frames := 2, cells := 0, slots := 0, locals := 48 }) s m args below meth c D ad cI cZ cJ cG A (MQ below (wx_Qv D ad cI cZ cJ cG res A) args s 0 0 A) 5 0 0 20 [(0, .ref (ad 71)), (1, .ref (ad k1)), (2, .int x2), (3, .int x3), (4, .int x4)] [] σ := by
    intro  n
    induction n with
    | zero => intro x2 x3 x4 σ hf; exact absurd hf (by intro h9; cases h9)
    | succ n hk20 =>
      intro x2 x3 x4 σ hf H locs ls hP hD hS hl
      have hf : wf_M_reckon_20_b k1 (wf_M_reckon_20 k1 n) x2 x3 x4 σ = some res := hf
      unfold wf_M_reckon_20_b at hf
      refine lv_iload hx hb wd_M_reckon_20 (lv_at hl 4 rfl) ?_
      refine lv_iload_n hx hb wd_M_reckon_22 rfl (lv_at hl 2 rfl) ?_
      refine lv_icmp_ge (tgt := 173) hx hb wd_M_reckon_23 (by decide) (fun c4 => ?_) (fun c4 => ?_)
      · have hf := wc_t c4 hf
        exact wx_vret hx hb hr hlocks hf hP hS wd_M_reckon_173
      · have hf := wc_f c4 hf
        refine lv_aload_n hx hb wd_M_reckon_26 rfl (lv_at hl 0 rfl) ?_
        refine wx_get (v := .ref (ad 87)) (C := "WidthCampaignsModel") (T := wx_TM) (N' := 29) hx hb hts wi_M hown hK hP 71 (by decide) rfl rfl 28 (by decide) wt_658 (fun _ h9 => h9) rfl wd_M_reckon_27 ?_
        refine lv_iload hx hb wd_M_reckon_30 (lv_at hl 4 rfl) ?_
        refine lv_iload hx hb wd_M_reckon_32 (lv_at hl 4 rfl) ?_
        refine lv_if_le (tgt := 52) hx hb wd_M_reckon_34 (by decide) (fun c5 => ?_) (fun c5 => ?_)
        · have hf := wc_t c5 hf
          exact J52 (wf_M_reckon_20 k1 n) hk20 x2 x3 x4 x4 σ hf _ _ _ hP hD hS (lv_sub hl [0, 1, 2, 3, 4] rfl)
        · have hf := wc_f c5 hf
          refine lv_aload_n hx hb wd_M_reckon_37 rfl (lv_at hl 0 rfl) ?_
          refine lv_aload_n hx hb wd_M_reckon_38 rfl (lv_at hl 1 rfl) ?_
          refine lv_iload_n hx hb wd_M_reckon_39 rfl (lv_at hl 3 rfl) ?_
          refine lv_iload hx hb wd_M_reckon_40 (lv_at hl 4 rfl) ?_
          obtain ⟨r48, σ47, hq, hf⟩ := wc_b2_e hf
          refine wx_calli (va_runV (As := [.ref (ad k1), .int x3, .int x4]) (rest := [.int x4, .ref (ad 87)]) ⟨hx, hb, hml, hown, hts⟩ (wm_M_isWorn l D ad cI cZ cJ cG _ k1 hk1_ x3 x4 σ _ hq) (wx_cwV 3 hts wt_789 wt_788 wp_40 wt_7 wt_786 wh_M_isWorn rfl rfl ⟨Nat.le_of_ble_eq_true rfl, Nat.le_of_ble_eq_true rfl⟩) (wx_preV hK hP hD hS hA hC (by decide) rfl rfl) rfl rfl hl.1 rfl (lv_room (Nat.le_of_ble_eq_true rfl)) wd_M_reckon_42 ⟨Nat.le_of_ble_eq_true rfl, Nat.le_of_ble_eq_true rfl⟩) hD hS hA (fun H locs hP hD hS => ?_)
          refine lv_if_eq (tgt := 52) hx hb wd_M_reckon_45 (by decide) (fun c49 => ?_) (fun c49 => ?_)
          · have hf := wc_t c49 hf
            exact J52 (wf_M_reckon_20 k1 n) hk20 x2 x3 x4 x4 σ47 hf _ _ _ hP hD hS (lv_sub hl [0, 1, 2, 3, 4] rfl)
          · have hf := wc_f c49 hf
            refine lv_iconst (v := 1) hx hb wd_M_reckon_48 (by decide) ?_
            refine lv_goto (tgt := 53) hx hb wd_M_reckon_49 (by decide) ?_
            exact J53 (wf_M_reckon_20 k1 n) hk20 x2 x3 x4 x4 1 σ47 hf _ _ _ hP hD hS (lv_sub hl [0, 1, 2, 3, 4] rfl)
  unfold wf_M_reckon at hf
  refine lv_aload_n hx hb wd_M_reckon_0 rfl (lv_at hl 0 rfl) ?_
  refine lv_iconst (v := 0) hx hb wd_M_reckon_1 (by decide) ?_
  refine wx_put (x := 0) (ty := .int) (C := "WidthCampaignsModel") (T := wx_TM) (N' := 29) hx hb hts wi_M wx_tM wx_toM wx_nM hown hK hP hD hS 71 (by decide) (fun _ => rfl) rfl 25 (by decide) wt_655 (fun _ h9 => h9) rfl (by decide +kernel) rfl rfl (Nat.le_of_ble_eq_true rfl) rfl wd_M_reckon_2 (fun σ1 H locs eσ1 hP hD hS => ?_)
  have hf := wc_st_e eσ1 hf
  refine lv_aload_n hx hb wd_M_reckon_5 rfl (lv_at hl 0 rfl) ?_
  refine lv_iconst (v := 0) hx hb wd_M_reckon_6 (by decide) ?_
  refine wx_put (x := 0) (ty := .int) (C := "WidthCampaignsModel") (T := wx_TM) (N' := 29) hx hb hts wi_M wx_tM wx_toM wx_nM hown hK hP hD hS 71 (by decide) (fun _ => rfl) rfl 26 (by decide) wt_656 (fun _ h9 => h9) rfl (by decide +kernel) rfl rfl (Nat.le_of_ble_eq_true rfl) rfl wd_M_reckon_7 (fun σ2 H locs eσ2 hP hD hS => ?_)
  have hf := wc_st_e eσ2 hf
  refine lv_aload_n hx hb wd_M_reckon_10 rfl (lv_at hl 0 rfl) ?_
  refine lv_iconst (v := 0) hx hb wd_M_reckon_11 (by decide) ?_
  refine wx_put (x := 0) (ty := .int) (C := "WidthCampaignsModel") (T := wx_TM) (N' := 29) hx hb hts wi_M wx_tM wx_toM wx_nM hown hK hP hD hS 71 (by decide) (fun _ => rfl) rfl 27 (by decide) wt_657 (fun _ h9 => h9) rfl (by decide +kernel) rfl rfl (Nat.le_of_ble_eq_true rfl) rfl wd_M_reckon_12 (fun σ3 H locs eσ3 hP hD hS => ?_)
  have hf := wc_st_e eσ3 hf
  refine lv_iconst (v := 0) hx hb wd_M_reckon_15 (by decide) ?_
  refine lv_istore_n (lv' := [(3, .int 0), (0, .ref (ad 71)), (1, .ref (ad k1)), (2, .int a2)]) hx hb wd_M_reckon_16 rfl hl (by decide) rfl (fun ls hl => ?_)
  refine lv_iconst (v := 0) hx hb wd_M_reckon_17 (by decide) ?_
  refine lv_istore (lv' := [(4, .int 0), (3, .int 0), (0, .ref (ad 71)), (1, .ref (ad k1)), (2, .int a2)]) hx hb wd_M_reckon_18 hl (by decide) rfl (fun ls hl => ?_)
  exact J20 16 a2 0 0 σ3 hf _ _ _ hP hD hS (lv_sub hl [2, 3, 4, 1, 0] rfl)
set_option maxHeartbeats 4000000 in
set_option maxRecDepth 100000 in
theorem wm_M_stands (l : Launch) (D : va_G) (ad : Nat → Nat) (cI cZ cJ cG : ClassId) (sz : Nat) (a1 : Int32) (a2 : Int32) (σ : wc_S) (res : Int32 × wc_S) (hf : wf_M_stands a1 a2 σ = some res) : Met l wy_M_stands (wx_ws_M_stands) ({ frames := 0, cells := 0, slots := 0, locals := 0 }) (va_Pc [.ref (ad 71), .int a1, .int a2] (wx_pre D ad cI cZ cJ cG σ sz)) (wx_Qi D ad cI cZ cJ cG res (va_A (wx_W ad cI cZ cJ cG σ) sz)) 0 0 (va_A (wx_W ad cI cZ cJ cG σ) sz) := by
  refine wx_ofW (cc := prog_8_method_18_code) (maxL := 4) (ret := (some .boolean)) (Qc := fun A => wx_Qi D ad cI cZ cJ cG res A) [.ref (ad 71), .int a1, .int a2] (by decide) rfl (Nat.le_of_ble_eq_true rfl) ?_
  intro p e s m args below meth c A ls hin hl
  obtain ⟨hx, hb, hr, hts, hown, hlocks, hml, hA, hP, hK, hD, hC, hN, hS⟩ := hin
  have hl : lv_has ls 4 [(0, .ref (ad 71)), (1, .int a1), (2, .int a2)] := hl
  have J2 : ∀ (n : Nat) (x1 : Int32) (x2 : Int32) (x3 : Int32) (σ : wc_S), wf_M_stands_2 n x1 x2 x3 σ = some res → wx_Arr p l e ({ frames := 0, cells := 0, slots := 0, locals := 0 }) s m args below meth c D ad cI cZ cJ cG A (MQ below (wx_Qi D ad cI cZ cJ cG res A) args s 0 0 A) 4 0 0 2 [(0, .ref (ad 71)), (1, .int x1), (2, .int x2), (3, .int x3)] [] σ := by
    intro  n
    induction n with
    | zero => intro x1 x2 x3 σ hf; exact absurd hf (by intro h9; cases h9)
    | succ n hk2 =>
      intro x1 x2 x3 σ hf H locs ls hP hD hS hl
      have hf : wf_M_stands_2_b (wf_M_stands_2 n) x1 x2 x3 σ = some res := hf
      unfold wf_M_stands_2_b at hf
      refine lv_iload_n hx hb wd_M_stands_2 rfl (lv_at hl 3 rfl) ?_
      refine lv_iload_n hx hb wd_M_stands_3 rfl (lv_at hl 2 rfl) ?_
      refine lv_icmp_ge (tgt := 25) hx hb wd_M_stands_4 (by decide) (fun c1 => ?_) (fun c1 => ?_)
      · have hf := wc_t c1 hf
        refine lv_iconst (v := 0) hx hb wd_M_stands_25 (by decide) ?_
        exact wx_zret hx hb hr narrow_b0 hlocks hf hP hS wd_M_stands_26
      · have hf := wc_f c1 hf
        refine lv_aload_n hx hb wd_M_stands_7 rfl (lv_at hl 0 rfl) ?_
        refine wx_get (v := .ref (ad 86)) (C := "WidthCampaignsModel") (T := wx_TM) (N' := 29) hx hb hts wi_M hown hK hP 71 (by decide) rfl rfl 24 (by decide) wt_654 (fun _ h9 => h9) rfl wd_M_stands_8 ?_
        refine lv_iload_n hx hb wd_M_stands_11 rfl (lv_at hl 3 rfl) ?_
        obtain ⟨h2, hf⟩ := wc_gd_e hf
        refine wx_iald hx hb hK hP 86 (n := 9) (by decide) rfl (wc_in_e h2) wd_M_stands_12 ?_
        refine lv_topi (fun v3 ev3 => ?_)
        have hf := wc_st_e ev3 hf
        refine lv_iload_n hx hb wd_M_stands_13 rfl (lv_at hl 1 rfl) ?_
        refine lv_icmp_ne (tgt := 19) hx hb wd_M_stands_14 (by decide) (fun c4 => ?_) (fun c4 => ?_)
        · have hf := wc_f c4 hf
          obtain ⟨v5, ev5⟩ : ∃ y : Int32, y = x3 + 1 := ⟨_, rfl⟩
          have hf := wc_st_e ev5 hf
          refine lv_iinc (v := v5) (lv' := [(3, .int v5), (0, .ref (ad 71)), (1, .int x1), (2, .int x2)]) hx hb wd_M_stands_19 hl (k := 3) rfl (by rw [ev5]; rfl) (by decide) rfl (fun ls hl => ?_)
          refine lv_goto (tgt := 2) hx hb wd_M_stands_22 (by decide) ?_
          exact hk2 x1 x2 v5 σ hf _ _ _ hP hD hS (lv_sub hl [1, 2, 3, 0] rfl)
        · have hf := wc_t c4 hf
          refine lv_iconst (v := 1) hx hb wd_M_stands_17 (by decide) ?_
          exact wx_zret hx hb hr narrow_b1 hlocks hf hP hS wd_M_stands_18
  unfold wf_M_stands at hf
  refine lv_iconst (v := 0) hx hb wd_M_stands_0 (by decide) ?_
  refine lv_istore_n (lv' := [(3, .int 0), (0, .ref (ad 71)), (1, .int a1), (2, .int a2)]) hx hb wd_M_stands_1 rfl hl (by decide) rfl (fun ls hl => ?_)
  exact J2 16 a1 a2 0 σ hf _ _ _ hP hD hS (lv_sub hl [1, 2, 3, 0] rfl)
