set_option maxHeartbeats 4000000 in
set_option maxRecDepth 100000 in
theorem wm_M_reckon (l : Launch) (D : va_G) (ad : Nat → Nat) (cI cZ cJ cG : ClassId) (sz : Nat) (k1 : Nat) (hk1_ : k1 = 85 ∨ k1 = 86) (a2 : Int32) (σ : wc_S) (res : wc_S) (hf : wf_M_reckon k1 a2 σ = some res) : Met l wy_M_reckon (wx_ws_M_reckon) ({ frames := 2, cells := 0, slots := 0, locals := 48 }) (va_Pc [.ref (ad 71), .ref (ad k1), .int a2] (wx_pre D ad cI cZ cJ cG σ sz)) (wx_Qv D ad cI cZ cJ cG res (va_A (wx_W ad cI cZ cJ cG σ) sz)) 0 0 (va_A (wx_W ad cI cZ cJ cG σ) sz) := by
  refine wx_ofW (cc := prog_8_method_16_code) (maxL := 5) (ret := none) (Qc := fun A => wx_Qv D ad cI cZ cJ cG res A) [.ref (ad 71), .ref (ad k1), .int a2] (by decide) rfl (Nat.le_of_ble_eq_true rfl) ?_
  intro p e s m args below meth c A ls hin hl
  obtain ⟨hx, hb, hr, hts, hown, hlocks, hml, hA, hP, hK, hD, hC, hN, hS⟩ := hin
  have hl : lv_has ls 5 [(0, .ref (ad 71)), (1, .ref (ad k1)), (2, .int a2)] := hl
  have J167 : ∀ (k20 : Int32 → Int32 → Int32 → wc_S → Option wc_S) (hk20 : (∀ (x2 : Int32) (x3 : Int32) (x4 : Int32) (σ : wc_S), k20 x2 x3 x4 σ = some res → wx_Arr p l e ({ frames := 2, cells := 0, slots := 0, locals := 48 }) s m args below meth c D ad cI cZ cJ cG A (MQ below (wx_Qv D ad cI cZ cJ cG res A) args s 0 0 A) 5 0 0 20 [(0, .ref (ad 71)), (1, .ref (ad k1)), (2, .int x2), (3, .int x3), (4, .int x4)] [] σ)) (x2 : Int32) (x3 : Int32) (x4 : Int32) (σ : wc_S), wf_M_reckon_167 k1 k20 x2 x3 x4 σ = some res → wx_Arr p l e ({ frames := 2, cells := 0, slots := 0, locals := 48 }) s m args below meth c D ad cI cZ cJ cG A (MQ below (wx_Qv D ad cI cZ cJ cG res A) args s 0 0 A) 5 0 0 167 [(0, .ref (ad 71)), (1, .ref (ad k1)), (2, .int x2), (3, .int x3), (4, .int x4)] [] σ := by
    intro k20 hk20 x2 x3 x4 σ hf H locs ls hP hD hS hl
    unfold wf_M_reckon_167 at hf
    obtain ⟨v17, ev17⟩ : ∃ y : Int32, y = x4 + 1 := ⟨_, rfl⟩
    have hf := wc_st_e ev17 hf
    refine lv_iinc (v := v17) (lv' := [(4, .int v17), (0, .ref (ad 71)), (1, .ref (ad k1)), (2, .int x2), (3, .int x3)]) hx hb wd_M_reckon_167 hl (k := 4) rfl (by rw [ev17]; rfl) (by decide) rfl (fun ls hl => ?_)
    refine lv_goto (tgt := 20) hx hb wd_M_reckon_170 (by decide) ?_
    exact hk20 x2 x3 v17 σ hf _ _ _ hP hD hS (lv_sub hl [1, 2, 3, 4, 0] rfl)
  have J118 : ∀ (k20 : Int32 → Int32 → Int32 → wc_S → Option wc_S) (hk20 : (∀ (x2 : Int32) (x3 : Int32) (x4 : Int32) (σ : wc_S), k20 x2 x3 x4 σ = some res → wx_Arr p l e ({ frames := 2, cells := 0, slots := 0, locals := 48 }) s m args below meth c D ad cI cZ cJ cG A (MQ below (wx_Qv D ad cI cZ cJ cG res A) args s 0 0 A) 5 0 0 20 [(0, .ref (ad 71)), (1, .ref (ad k1)), (2, .int x2), (3, .int x3), (4, .int x4)] [] σ)) (x2 : Int32) (x3 : Int32) (x4 : Int32) (σ : wc_S), wf_M_reckon_118 k1 k20 x2 x3 x4 σ = some res → wx_Arr p l e ({ frames := 2, cells := 0, slots := 0, locals := 48 }) s m args below meth c D ad cI cZ cJ cG A (MQ below (wx_Qv D ad cI cZ cJ cG res A) args s 0 0 A) 5 0 0 118 [(0, .ref (ad 71)), (1, .ref (ad k1)), (2, .int x2), (3, .int x3), (4, .int x4)] [] σ := by
    intro k20 hk20 x2 x3 x4 σ hf H locs ls hP hD hS hl
    unfold wf_M_reckon_118 at hf
    refine lv_aload_n hx hb wd_M_reckon_118 rfl (lv_at hl 0 rfl) ?_
    refine wx_get (v := .ref (ad 77)) (C := "WidthCampaignsModel") (T := wx_TM) (N' := 29) hx hb hts wi_M hown hK hP 71 (by decide) rfl rfl 7 (by decide) wt_637 (fun _ h9 => h9) rfl wd_M_reckon_119 ?_
    refine lv_aload_n hx hb wd_M_reckon_122 rfl (lv_at hl 1 rfl) ?_
    refine lv_iload hx hb wd_M_reckon_123 (lv_at hl 4 rfl) ?_
    obtain ⟨h12, hf⟩ := wc_gd_e hf
    refine wx_iald hx hb hK hP k1 (n := 9) (wx_Ml hk1_) (wx_M hk1_ _) (wc_in_e h12) wd_M_reckon_125 ?_
    refine lv_topi (fun v13 ev13 => ?_)
    have hf := wc_st_e ev13 hf
    obtain ⟨h14, hf⟩ := wc_gd_e hf
    refine wx_iald hx hb hK hP 77 (n := 9) (by decide) rfl (wc_in_e h14) wd_M_reckon_126 ?_
    refine lv_topi (fun v15 ev15 => ?_)
    have hf := wc_st_e ev15 hf
    refine lv_if_lt (tgt := 167) hx hb wd_M_reckon_127 (by decide) (fun c16 => ?_) (fun c16 => ?_)
    · have hf := wc_t c16 hf
      exact J167 k20 hk20 x2 x3 x4 σ hf _ _ _ hP hD hS (lv_sub hl [0, 1, 2, 3, 4] rfl)
    · have hf := wc_f c16 hf
      refine lv_aload_n hx hb wd_M_reckon_130 rfl (lv_at hl 0 rfl) ?_
      refine wx_get (v := .ref (ad 77)) (C := "WidthCampaignsModel") (T := wx_TM) (N' := 29) hx hb hts wi_M hown hK hP 71 (by decide) rfl rfl 7 (by decide) wt_637 (fun _ h9 => h9) rfl wd_M_reckon_131 ?_
      refine lv_aload_n hx hb wd_M_reckon_134 rfl (lv_at hl 1 rfl) ?_
      refine lv_iload hx hb wd_M_reckon_135 (lv_at hl 4 rfl) ?_
      obtain ⟨h18, hf⟩ := wc_gd_e hf
      refine wx_iald hx hb hK hP k1 (n := 9) (wx_Ml hk1_) (wx_M hk1_ _) (wc_in_e h18) wd_M_reckon_137 ?_
      refine lv_topi (fun v19 ev19 => ?_)
      have hf := wc_st_e ev19 hf
      obtain ⟨h20, hf⟩ := wc_gd_e hf
      refine wx_iald hx hb hK hP 77 (n := 9) (by decide) rfl (wc_in_e h20) wd_M_reckon_138 ?_
      refine lv_topi (fun v21 ev21 => ?_)
      have hf := wc_st_e ev21 hf
      refine lv_iload hx hb wd_M_reckon_139 (lv_at hl 4 rfl) ?_
      refine lv_icmp_eq (tgt := 167) hx hb wd_M_reckon_141 (by decide) (fun c22 => ?_) (fun c22 => ?_)
      · have hf := wc_t c22 hf
        exact J167 k20 hk20 x2 x3 x4 σ hf _ _ _ hP hD hS (lv_sub hl [0, 1, 2, 3, 4] rfl)
      · have hf := wc_f c22 hf
        refine lv_aload_n hx hb wd_M_reckon_144 rfl (lv_at hl 0 rfl) ?_
        refine lv_dup hx hb wd_M_reckon_145 rfl ?_
        refine wx_get (v := .int (σ 71 27)) (C := "WidthCampaignsModel") (T := wx_TM) (N' := 29) hx hb hts wi_M hown hK hP 71 (by decide) rfl rfl 27 (by decide) wt_657 (fun _ h9 => h9) rfl wd_M_reckon_146 ?_
        refine lv_topi (fun v23 ev23 => ?_)
        have hf := wc_st_e ev23 hf
        refine lv_iconst (v := 1) hx hb wd_M_reckon_149 (by decide) ?_
        refine lv_iadd hx hb wd_M_reckon_150 ?_
        refine lv_topi (fun v24 ev24 => ?_)
        have hf := wc_st_e ev24 hf
        refine wx_put (x := v24) (ty := .int) (C := "WidthCampaignsModel") (T := wx_TM) (N' := 29) hx hb hts wi_M wx_tM wx_toM wx_nM hown hK hP hD hS 71 (by decide) (fun _ => rfl) rfl 27 (by decide) wt_657 (fun _ h9 => h9) rfl (by decide +kernel) rfl rfl (Nat.le_of_ble_eq_true rfl) rfl wd_M_reckon_151 (fun σ25 H locs eσ25 hP hD hS => ?_)
        have hf := wc_st_e eσ25 hf
        refine lv_aload_n hx hb wd_M_reckon_154 rfl (lv_at hl 0 rfl) ?_
        refine lv_aload_n hx hb wd_M_reckon_155 rfl (lv_at hl 0 rfl) ?_
        refine wx_get (v := .int (σ25 71 25)) (C := "WidthCampaignsModel") (T := wx_TM) (N' := 29) hx hb hts wi_M hown hK hP 71 (by decide) rfl rfl 25 (by decide) wt_655 (fun _ h9 => h9) rfl wd_M_reckon_156 ?_
        refine lv_topi (fun v26 ev26 => ?_)
        have hf := wc_st_e ev26 hf
        refine lv_aload_n hx hb wd_M_reckon_159 rfl (lv_at hl 0 rfl) ?_
        refine wx_get (v := .int (σ25 71 19)) (C := "WidthCampaignsModel") (T := wx_TM) (N' := 29) hx hb hts wi_M hown hK hP 71 (by decide) rfl rfl 19 (by decide) wt_649 (fun _ h9 => h9) rfl wd_M_reckon_160 ?_
        refine lv_topi (fun v27 ev27 => ?_)
        have hf := wc_st_e ev27 hf
        refine lv_iadd hx hb wd_M_reckon_163 ?_
        refine lv_topi (fun v28 ev28 => ?_)
        have hf := wc_st_e ev28 hf
        refine wx_put (x := v28) (ty := .int) (C := "WidthCampaignsModel") (T := wx_TM) (N' := 29) hx hb hts wi_M wx_tM wx_toM wx_nM hown hK hP hD hS 71 (by decide) (fun _ => rfl) rfl 25 (by decide) wt_655 (fun _ h9 => h9) rfl (by decide +kernel) rfl rfl (Nat.le_of_ble_eq_true rfl) rfl wd_M_reckon_164 (fun σ29 H locs eσ29 hP hD hS => ?_)
        have hf := wc_st_e eσ29 hf
        exact J167 k20 hk20 x2 x3 x4 σ29 hf _ _ _ hP hD hS (lv_sub hl [0, 1, 2, 3, 4] rfl)
  have J90 : ∀ (k20 : Int32 → Int32 → Int32 → wc_S → Option wc_S) (hk20 : (∀ (x2 : Int32) (x3 : Int32) (x4 : Int32) (σ : wc_S), k20 x2 x3 x4 σ = some res → wx_Arr p l e ({ frames := 2, cells := 0, slots := 0, locals := 48 }) s m args below meth c D ad cI cZ cJ cG A (MQ below (wx_Qv D ad cI cZ cJ cG res A) args s 0 0 A) 5 0 0 20 [(0, .ref (ad 71)), (1, .ref (ad k1)), (2, .int x2), (3, .int x3), (4, .int x4)] [] σ)) (x2 : Int32) (x3 : Int32) (x4 : Int32) (σ : wc_S), wf_M_reckon_90 k1 k20 x2 x3 x4 σ = some res → wx_Arr p l e ({ frames := 2, cells := 0, slots := 0, locals := 48 }) s m args below meth c D ad cI cZ cJ cG A (MQ below (wx_Qv D ad cI cZ cJ cG res A) args s 0 0 A) 5 0 0 90 [(0, .ref (ad 71)), (1, .ref (ad k1)), (2, .int x2), (3, .int x3), (4, .int x4)] [] σ := by
    intro k20 hk20 x2 x3 x4 σ hf H locs ls hP hD hS hl
    unfold wf_M_reckon_90 at hf
    refine lv_iload hx hb wd_M_reckon_90 (lv_at hl 4 rfl) ?_
    refine lv_if_le (tgt := 118) hx hb wd_M_reckon_92 (by decide) (fun c11 => ?_) (fun c11 => ?_)
    · have hf := wc_t c11 hf
      exact J118 k20 hk20 x2 x3 x4 σ hf _ _ _ hP hD hS (lv_sub hl [0, 1, 2, 3, 4] rfl)
    · have hf := wc_f c11 hf
      refine lv_aload_n hx hb wd_M_reckon_95 rfl (lv_at hl 0 rfl) ?_
      refine lv_aload_n hx hb wd_M_reckon_96 rfl (lv_at hl 0 rfl) ?_
      refine wx_get (v := .int (σ 71 25)) (C := "WidthCampaignsModel") (T := wx_TM) (N' := 29) hx hb hts wi_M hown hK hP 71 (by decide) rfl rfl 25 (by decide) wt_655 (fun _ h9 => h9) rfl wd_M_reckon_97 ?_
      refine lv_topi (fun v30 ev30 => ?_)
      have hf := wc_st_e ev30 hf
      refine lv_aload_n hx hb wd_M_reckon_100 rfl (lv_at hl 0 rfl) ?_
      refine lv_aload_n hx hb wd_M_reckon_101 rfl (lv_at hl 1 rfl) ?_
      refine lv_iload hx hb wd_M_reckon_102 (lv_at hl 4 rfl) ?_
      refine lv_iconst (v := 1) hx hb wd_M_reckon_104 (by decide) ?_
      refine lv_isub hx hb wd_M_reckon_105 ?_
      refine lv_topi (fun v31 ev31 => ?_)
      have hf := wc_st_e ev31 hf
      obtain ⟨h32, hf⟩ := wc_gd_e hf
      refine wx_iald hx hb hK hP k1 (n := 9) (wx_Ml hk1_) (wx_M hk1_ _) (wc_in_e h32) wd_M_reckon_106 ?_
      refine lv_topi (fun v33 ev33 => ?_)
      have hf := wc_st_e ev33 hf
      refine lv_aload_n hx hb wd_M_reckon_107 rfl (lv_at hl 1 rfl) ?_
      refine lv_iload hx hb wd_M_reckon_108 (lv_at hl 4 rfl) ?_
      obtain ⟨h34, hf⟩ := wc_gd_e hf
      refine wx_iald hx hb hK hP k1 (n := 9) (wx_Ml hk1_) (wx_M hk1_ _) (wc_in_e h34) wd_M_reckon_110 ?_
      refine lv_topi (fun v35 ev35 => ?_)
      have hf := wc_st_e ev35 hf
      obtain ⟨r37, σ36, hq, hf⟩ := wc_b2_e hf
      refine wx_calli (va_runV (As := [.int v33, .int v35]) (rest := [.int v30, .ref (ad 71)]) ⟨hx, hb, hml, hown, hts⟩ (wm_M_jumpOf l D ad cI cZ cJ cG _ v33 v35 σ _ hq) (wx_cwV 2 hts wt_777 wt_776 wp_37 wt_7 wt_774 wh_M_jumpOf rfl rfl ⟨Nat.le_of_ble_eq_true rfl, Nat.le_of_ble_eq_true rfl⟩) (wx_preV hK hP hD hS hA hC (by decide) rfl rfl) rfl rfl hl.1 rfl (lv_room (Nat.le_of_ble_eq_true rfl)) wd_M_reckon_111 ⟨Nat.le_of_ble_eq_true rfl, Nat.le_of_ble_eq_true rfl⟩) hD hS hA (fun H locs hP hD hS => ?_)
      refine lv_iadd hx hb wd_M_reckon_114 ?_
      refine lv_topi (fun v38 ev38 => ?_)
      have hf := wc_st_e ev38 hf
      refine wx_put (x := v38) (ty := .int) (C := "WidthCampaignsModel") (T := wx_TM) (N' := 29) hx hb hts wi_M wx_tM wx_toM wx_nM hown hK hP hD hS 71 (by decide) (fun _ => rfl) rfl 25 (by decide) wt_655 (fun _ h9 => h9) rfl (by decide +kernel) rfl rfl (Nat.le_of_ble_eq_true rfl) rfl wd_M_reckon_115 (fun σ39 H locs eσ39 hP hD hS => ?_)
      have hf := wc_st_e eσ39 hf
      exact J118 k20 hk20 x2 x3 x4 σ39 hf _ _ _ hP hD hS (lv_sub hl [0, 1, 2, 3, 4] rfl)
  have J53 : ∀ (k20 : Int32 → Int32 → Int32 → wc_S → Option wc_S) (hk20 : (∀ (x2 : Int32) (x3 : Int32) (x4 : Int32) (σ : wc_S), k20 x2 x3 x4 σ = some res → wx_Arr p l e ({ frames := 2, cells := 0, slots := 0, locals := 48 }) s m args below meth c D ad cI cZ cJ cG A (MQ below (wx_Qv D ad cI cZ cJ cG res A) args s 0 0 A) 5 0 0 20 [(0, .ref (ad 71)), (1, .ref (ad k1)), (2, .int x2), (3, .int x3), (4, .int x4)] [] σ)) (x2 : Int32) (x3 : Int32) (x4 : Int32) (s1 : Int32) (s2 : Int32) (σ : wc_S), wf_M_reckon_53 k1 k20 x2 x3 x4 s1 s2 σ = some res → wx_Arr p l e ({ frames := 2, cells := 0, slots := 0, locals := 48 }) s m args below meth c D ad cI cZ cJ cG A (MQ below (wx_Qv D ad cI cZ cJ cG res A) args s 0 0 A) 5 0 0 53 [(0, .ref (ad 71)), (1, .ref (ad k1)), (2, .int x2), (3, .int x3), (4, .int x4)] [.int s2, .int s1, .ref (ad 87)] σ := by
    intro k20 hk20 x2 x3 x4 s1 s2 σ hf H locs ls hP hD hS hl
    unfold wf_M_reckon_53 at hf
    obtain ⟨h6, hf⟩ := wc_gd_e hf
    refine wx_zast hx hb hK hP hD hS 87 (n := 9) (by decide) (fun _ => rfl) h6 wd_M_reckon_53 (fun σ7 H locs eσ7 hP hD hS => ?_)
    have hf := wc_st_e eσ7 hf
    refine lv_aload_n hx hb wd_M_reckon_54 rfl (lv_at hl 0 rfl) ?_
    refine wx_get (v := .ref (ad 87)) (C := "WidthCampaignsModel") (T := wx_TM) (N' := 29) hx hb hts wi_M hown hK hP 71 (by decide) rfl rfl 28 (by decide) wt_658 (fun _ h9 => h9) rfl wd_M_reckon_55 ?_
    refine lv_iload hx hb wd_M_reckon_58 (lv_at hl 4 rfl) ?_
    obtain ⟨h8, hf⟩ := wc_gd_e hf
    refine wx_zald hx hb hK hP 87 (n := 9) (by decide) rfl (wc_in_e h8) wd_M_reckon_60 ?_
    refine lv_topi (fun v9 ev9 => ?_)
    have hf := wc_st_e ev9 hf
    refine lv_if_eq (tgt := 90) hx hb wd_M_reckon_61 (by decide) (fun c10 => ?_) (fun c10 => ?_)
    · have hf := wc_t c10 hf
      exact J90 k20 hk20 x2 x3 x4 σ7 hf _ _ _ hP hD hS (lv_sub hl [0, 1, 2, 3, 4] rfl)
    · have hf := wc_f c10 hf
      refine lv_iload hx hb wd_M_reckon_64 (lv_at hl 4 rfl) ?_
      refine lv_istore_n (lv' := [(3, .int x4), (0, .ref (ad 71)), (1, .ref (ad k1)), (2, .int x2), (4, .int x4)]) hx hb wd_M_reckon_66 rfl hl (by decide) rfl (fun ls hl => ?_)
      refine lv_aload_n hx hb wd_M_reckon_67 rfl (lv_at hl 1 rfl) ?_
      refine lv_dup hx hb wd_M_reckon_68 rfl ?_
      refine wx_get (v := .int (σ7 71 26)) (C := "WidthCampaignsModel") (T := wx_TM) (N' := 29) hx hb hts wi_M hown hK hP 71 (by decide) rfl rfl 26 (by decide) wt_656 (fun _ h9 => h9) rfl wd_M_reckon_69 ?_
      refine lv_topi (fun v40 ev40 => ?_)
      have hf := wc_st_e ev40 hf
      refine lv_iconst (v := 1) hx hb wd_M_reckon_72 (by decide) ?_
      refine lv_iadd hx hb wd_M_reckon_73 ?_
      refine lv_topi (fun v41 ev41 => ?_)
      have hf := wc_st_e ev41 hf
      refine wx_put (x := v41) (ty := .int) (C := "WidthCampaignsModel") (T := wx_TM) (N' := 29) hx hb hts wi_M wx_tM wx_toM wx_nM hown hK hP hD hS 71 (by decide) (fun _ => rfl) rfl 26 (by decide) wt_656 (fun _ h9 => h9) rfl (by decide +kernel) rfl rfl (Nat.le_of_ble_eq_true rfl) rfl wd_M_reckon_74 (fun σ42 H locs eσ42 hP hD hS => ?_)
      have hf := wc_st_e eσ42 hf
      refine lv_aload_n hx hb wd_M_reckon_77 rfl (lv_at hl 1 rfl) ?_
      refine lv_aload_n hx hb wd_M_reckon_78 rfl (lv_at hl 1 rfl) ?_
      refine wx_get (v := .int (σ42 71 25)) (C := "WidthCampaignsModel") (T := wx_TM) (N' := 29) hx hb hts wi_M hown hK hP 71 (by decide) rfl rfl 25 (by decide) wt_655 (fun _ h9 => h9) rfl wd_M_reckon_79 ?_
      refine lv_topi (fun v43 ev43 => ?_)
      have hf := wc_st_e ev43 hf
      refine lv_aload_n hx hb wd_M_reckon_82 rfl (lv_at hl 1 rfl) ?_
      refine wx_get (v := .int (σ42 71 18)) (C := "WidthCampaignsModel") (T := wx_TM) (N' := 29) hx hb hts wi_M hown hK hP 71 (by decide) rfl rfl 18 (by decide) wt_648 (fun _ h9 => h9) rfl wd_M_reckon_83 ?_
      refine lv_topi (fun v44 ev44 => ?_)
      have hf := wc_st_e ev44 hf
      refine lv_iadd hx hb wd_M_reckon_86 ?_
      refine lv_topi (fun v45 ev45 => ?_)
      have hf := wc_st_e ev45 hf
      refine wx_put (x := v45) (ty := .int) (C := "WidthCampaignsModel") (T := wx_TM) (N' := 29) hx hb hts wi_M wx_tM wx_toM wx_nM hown hK hP hD hS 71 (by decide) (fun _ => rfl) rfl 25 (by decide) wt_655 (fun _ h9 => h9) rfl (by decide +kernel) rfl rfl (Nat.le_of_ble_eq_true rfl) rfl wd_M_reckon_87 (fun σ46 H locs eσ46 hP hD hS => ?_)
      have hf := wc_st_e eσ46 hf
      exact J90 k20 hk20 x2 x4 x4 σ46 hf _ _ _ hP hD hS (lv_sub hl [1, 2, 3, 0, 4] rfl)
  have J52 : ∀ (k20 : Int32 → Int32 → Int32 → wc_S → Option wc_S) (hk20 : (∀ (x2 : Int32) (x3 : Int32) (x4 : Int32) (σ : wc_S), k20 x2 x3 x4 σ = some res → wx_Arr p l e ({ frames := 2, cells := 0, slots := 0, locals := 48 }) s m args below meth c D ad cI cZ cJ cG A (MQ below (wx_Qv D ad cI cZ cJ cG res A) args s 0 0 A) 5 0 0 20 [(0, .ref (ad 71)), (1, .ref (ad k1)), (2, .int x2), (3, .int x3), (4, .int x4)] [] σ)) (x2 : Int32) (x3 : Int32) (x4 : Int32) (s1 : Int32) (σ : wc_S), wf_M_reckon_52 k1 k20 x2 x3 x4 s1 σ = some res → wx_Arr p l e ({ frames := 2, cells := 0, slots := 0, locals := 48 }) s m args below meth c D ad cI cZ cJ cG A (MQ below (wx_Qv D ad cI cZ cJ cG res A) args s 0 0 A) 5 0 0 52 [(0, .ref (ad 71)), (1, .ref (ad k1)), (2, .int x2), (3, .int x3), (4, .int x4)] [.int s1, .ref (ad 87)] σ := by
    intro k20 hk20 x2 x3 x4 s1 σ hf H locs ls hP hD hS hl
    unfold wf_M_reckon_52 at hf
    refine lv_iconst (v := 0) hx hb wd_M_reckon_52 (by decide) ?_
    exact J53 k20 hk20 x2 x3 x4 s1 0 σ hf _ _ _ hP hD hS (lv_sub hl [0, 1, 2, 3, 4] rfl)
  have J20 : ∀ (n : Nat) (x2 : Int32) (x3 : Int32) (x4 : Int32) (σ : wc_S), wf_M_reckon_20 k1 n x2 x3 x4 σ = some res → wx_Arr p l e ({ frames := 2, cells := 0, slots := 0, locals := 48 }) s m args below meth c D ad cI cZ cJ cG A (MQ below (wx_Qv D ad cI cZ cJ cG res A) args s 0 0 A) 5 0 0 20 [(0, .ref (ad 71)), (1, .ref (ad k1)), (2, .int x2), (3, .int x3), (4, .int x4)] [] σ := by
    intro  n
    induction n with
    | zero => intro x2 x3 x4 σ hf; exact absurd hf (by intro h9; cases h9)
    | succ n hk20 =>
      intro x2 x3 x4 σ hf H locs ls hP hD hS hl
      have hf : wf_M_reckon_20_b k1 (wf_M_reckon_20 k1 n) x2 x3 x4 σ = some res := hf
      unfold wf_M_reckon_20_b at hf
      refine lv_iload hx hb wd_M_reckon_20 (lv_at hl 4 rfl) ?_
      refine lv_iload_n hx hb wd_M_reckon_22 rfl (lv_at hl 2 rfl) ?_
      refine lv_icmp_ge (tgt := 173) hx hb wd_M_reckon_23 (by decide) (fun c4 => ?_) (fun c4 => ?_)
      · have hf := wc_t c4 hf
        exact wx_vret hx hb hr hlocks hf hP hS wd_M_reckon_173
      · have hf := wc_f c4 hf
        refine lv_aload_n hx hb wd_M_reckon_26 rfl (lv_at hl 0 rfl) ?_
        refine wx_get (v := .ref (ad 87)) (C := "WidthCampaignsModel") (T := wx_TM) (N' := 29) hx hb hts wi_M hown hK hP 71 (by decide) rfl rfl 28 (by decide) wt_658 (fun _ h9 => h9) rfl wd_M_reckon_27 ?_
        refine lv_iload hx hb wd_M_reckon_30 (lv_at hl 4 rfl) ?_
        refine lv_iload hx hb wd_M_reckon_32 (lv_at hl 4 rfl) ?_
        refine lv_if_le (tgt := 52) hx hb wd_M_reckon_34 (by decide) (fun c5 => ?_) (fun c5 => ?_)
        · have hf := wc_t c5 hf
          exact J52 (wf_M_reckon_20 k1 n) hk20 x2 x3 x4 x4 σ hf _ _ _ hP hD hS (lv_sub hl [0, 1, 2, 3, 4] rfl)
        · have hf := wc_f c5 hf
          refine lv_aload_n hx hb wd_M_reckon_37 rfl (lv_at hl 0 rfl) ?_
          refine lv_aload_n hx hb wd_M_reckon_38 rfl (lv_at hl 1 rfl) ?_
          refine lv_iload_n hx hb wd_M_reckon_39 rfl (lv_at hl 3 rfl) ?_
          refine lv_iload hx hb wd_M_reckon_40 (lv_at hl 4 rfl) ?_
          obtain ⟨r48, σ47, hq, hf⟩ := wc_b2_e hf
          refine wx_calli (va_runV (As := [.ref (ad k1), .int x3, .int x4]) (rest := [.int x4, .ref (ad 87)]) ⟨hx, hb, hml, hown, hts⟩ (wm_M_isWorn l D ad cI cZ cJ cG _ k1 hk1_ x3 x4 σ _ hq) (wx_cwV 3 hts wt_789 wt_788 wp_40 wt_7 wt_786 wh_M_isWorn rfl rfl ⟨Nat.le_of_ble_eq_true rfl, Nat.le_of_ble_eq_true rfl⟩) (wx_preV hK hP hD hS hA hC (by decide) rfl rfl) rfl rfl hl.1 rfl (lv_room (Nat.le_of_ble_eq_true rfl)) wd_M_reckon_42 ⟨Nat.le_of_ble_eq_true rfl, Nat.le_of_ble_eq_true rfl⟩) hD hS hA (fun H locs hP hD hS => ?_)
          refine lv_if_eq (tgt := 52) hx hb wd_M_reckon_45 (by decide) (fun c49 => ?_) (fun c49 => ?_)
          · have hf := wc_t c49 hf
            exact J52 (wf_M_reckon_20 k1 n) hk20 x2 x3 x4 x4 σ47 hf _ _ _ hP hD hS (lv_sub hl [0, 1, 2, 3, 4] rfl)
          · have hf := wc_f c49 hf
            refine lv_iconst (v := 1) hx hb wd_M_reckon_48 (by decide) ?_
            refine lv_goto (tgt := 53) hx hb wd_M_reckon_49 (by decide) ?_
            exact J53 (wf_M_reckon_20 k1 n) hk20 x2 x3 x4 x4 1 σ47 hf _ _ _ hP hD hS (lv_sub hl [0, 1, 2, 3, 4] rfl)
  unfold wf_M_reckon at hf
  refine lv_aload_n hx hb wd_M_reckon_0 rfl (lv_at hl 0 rfl) ?_
  refine lv_iconst (v := 0) hx hb wd_M_reckon_1 (by decide) ?_
  refine wx_put (x := 0) (ty := .int) (C := "WidthCampaignsModel") (T := wx_TM) (N' := 29) hx hb hts wi_M wx_tM wx_toM wx_nM hown hK hP hD hS 71 (by decide) (fun _ => rfl) rfl 25 (by decide) wt_655 (fun _ h9 => h9) rfl (by decide +kernel) rfl rfl (Nat.le_of_ble_eq_true rfl) rfl wd_M_reckon_2 (fun σ1 H locs eσ1 hP hD hS => ?_)
  have hf := wc_st_e eσ1 hf
  refine lv_aload_n hx hb wd_M_reckon_5 rfl (lv_at hl 0 rfl) ?_
  refine lv_iconst (v := 0) hx hb wd_M_reckon_6 (by decide) ?_
  refine wx_put (x := 0) (ty := .int) (C := "WidthCampaignsModel") (T := wx_TM) (N' := 29) hx hb hts wi_M wx_tM wx_toM wx_nM hown hK hP hD hS 71 (by decide) (fun _ => rfl) rfl 26 (by decide) wt_656 (fun _ h9 => h9) rfl (by decide +kernel) rfl rfl (Nat.le_of_ble_eq_true rfl) rfl wd_M_reckon_7 (fun σ2 H locs eσ2 hP hD hS => ?_)
  have hf := wc_st_e eσ2 hf
  refine lv_aload_n hx hb wd_M_reckon_10 rfl (lv_at hl 0 rfl) ?_
  refine lv_iconst (v := 0) hx hb wd_M_reckon_11 (by decide) ?_
  refine wx_put (x := 0) (ty := .int) (C := "WidthCampaignsModel") (T := wx_TM) (N' := 29) hx hb hts wi_M wx_tM wx_toM wx_nM hown hK hP hD hS 71 (by decide) (fun _ => rfl) rfl 27 (by decide) wt_657 (fun _ h9 => h9) rfl (by decide +kernel) rfl rfl (Nat.le_of_ble_eq_true rfl) rfl wd_M_reckon_12 (fun σ3 H locs eσ3 hP hD hS => ?_)
  have hf := wc_st_e eσ3 hf
  refine lv_iconst (v := 0) hx hb wd_M_reckon_15 (by decide) ?_
  refine lv_istore_n (lv' := [(3, .int 0), (0, .ref (ad 71)), (1, .ref (ad k1)), (2, .int a2)]) hx hb wd_M_reckon_16 rfl hl (by decide) rfl (fun ls hl => ?_)
  refine lv_iconst (v := 0) hx hb wd_M_reckon_17 (by decide) ?_
  refine lv_istore (lv' := [(4, .int 0), (3, .int 0), (0, .ref (ad 71)), (1, .ref (ad k1)), (2, .int a2)]) hx hb wd_M_reckon_18 hl (by decide) rfl (fun ls hl => ?_)
  exact J20 16 a2 0 0 σ3 hf _ _ _ hP hD hS (lv_sub hl [2, 3, 4, 1, 0] rfl)
set_option maxHeartbeats 4000000 in
set_option maxRecDepth 100000 in
theorem wm_M_stands (l : Launch) (D : va_G) (ad : Nat → Nat) (cI cZ cJ cG : ClassId) (sz : Nat) (a1 : Int32) (a2 : Int32) (σ : wc_S) (res : Int32 × wc_S) (hf : wf_M_stands a1 a2 σ = some res) : Met l wy_M_stands (wx_ws_M_stands) ({ frames := 0, cells := 0, slots := 0, locals := 0 }) (va_Pc [.ref (ad 71), .int a1, .int a2] (wx_pre D ad cI cZ cJ cG σ sz)) (wx_Qi D ad cI cZ cJ cG res (va_A (wx_W ad cI cZ cJ cG σ) sz)) 0 0 (va_A (wx_W ad cI cZ cJ cG σ) sz) := by
  refine wx_ofW (cc := prog_8_method_18_code) (maxL := 4) (ret := (some .boolean)) (Qc := fun A => wx_Qi D ad cI cZ cJ cG res A) [.ref (ad 71), .int a1, .int a2] (by decide) rfl (Nat.le_of_ble_eq_true rfl) ?_
  intro p e s m args below meth c A ls hin hl
  obtain ⟨hx, hb, hr, hts, hown, hlocks, hml, hA, hP, hK, hD, hC, hN, hS⟩ := hin
  have hl : lv_has ls 4 [(0, .ref (ad 71)), (1, .int a1), (2, .int a2)] := hl
  have J2 : ∀ (n : Nat) (x1 : Int32) (x2 : Int32) (x3 : Int32) (σ : wc_S), wf_M_stands_2 n x1 x2 x3 σ = some res → wx_Arr p l e ({ frames := 0, cells := 0, slots := 0, locals := 0 }) s m args below meth c D ad cI cZ cJ cG A (MQ below (wx_Qi D ad cI cZ cJ cG res A) args s 0 0 A) 4 0 0 2 [(0, .ref (ad 71)), (1, .int x1), (2, .int x2), (3, .int x3)] [] σ := by
    intro  n
    induction n with
    | zero => intro x1 x2 x3 σ hf; exact absurd hf (by intro h9; cases h9)
    | succ n hk2 =>
      intro x1 x2 x3 σ hf H locs ls hP hD hS hl
      have hf : wf_M_stands_2_b (wf_M_stands_2 n) x1 x2 x3 σ = some res := hf
      unfold wf_M_stands_2_b at hf
      refine lv_iload_n hx hb wd_M_stands_2 rfl (lv_at hl 3 rfl) ?_
      refine lv_iload_n hx hb wd_M_stands_3 rfl (lv_at hl 2 rfl) ?_
      refine lv_icmp_ge (tgt := 25) hx hb wd_M_stands_4 (by decide) (fun c1 => ?_) (fun c1 => ?_)
      · have hf := wc_t c1 hf
        refine lv_iconst (v := 0) hx hb wd_M_stands_25 (by decide) ?_
        exact wx_zret hx hb hr narrow_b0 hlocks hf hP hS wd_M_stands_26
      · have hf := wc_f c1 hf
        refine lv_aload_n hx hb wd_M_stands_7 rfl (lv_at hl 0 rfl) ?_
        refine wx_get (v := .ref (ad 86)) (C := "WidthCampaignsModel") (T := wx_TM) (N' := 29) hx hb hts wi_M hown hK hP 71 (by decide) rfl rfl 24 (by decide) wt_654 (fun _ h9 => h9) rfl wd_M_stands_8 ?_
        refine lv_iload_n hx hb wd_M_stands_11 rfl (lv_at hl 3 rfl) ?_
        obtain ⟨h2, hf⟩ := wc_gd_e hf
        refine wx_iald hx hb hK hP 86 (n := 9) (by decide) rfl (wc_in_e h2) wd_M_stands_12 ?_
        refine lv_topi (fun v3 ev3 => ?_)
        have hf := wc_st_e ev3 hf
        refine lv_iload_n hx hb wd_M_stands_13 rfl (lv_at hl 1 rfl) ?_
        refine lv_icmp_ne (tgt := 19) hx hb wd_M_stands_14 (by decide) (fun c4 => ?_) (fun c4 => ?_)
        · have hf := wc_f c4 hf
          obtain ⟨v5, ev5⟩ : ∃ y : Int32, y = x3 + 1 := ⟨_, rfl⟩
          have hf := wc_st_e ev5 hf
          refine lv_iinc (v := v5) (lv' := [(3, .int v5), (0, .ref (ad 71)), (1, .int x1), (2, .int x2)]) hx hb wd_M_stands_19 hl (k := 3) rfl (by rw [ev5]; rfl) (by decide) rfl (fun ls hl => ?_)
          refine lv_goto (tgt := 2) hx hb wd_M_stands_22 (by decide) ?_
          exact hk2 x1 x2 v5 σ hf _ _ _ hP hD hS (lv_sub hl [1, 2, 3, 0] rfl)
        · have hf := wc_t c4 hf
          refine lv_iconst (v := 1) hx hb wd_M_stands_17 (by decide) ?_
          exact wx_zret hx hb hr narrow_b1 hlocks hf hP hS wd_M_stands_18
  unfold wf_M_stands at hf
  refine lv_iconst (v := 0) hx hb wd_M_stands_0 (by decide) ?_
  refine lv_istore_n (lv' := [(3, .int 0), (0, .ref (ad 71)), (1, .int a1), (2, .int a2)]) hx hb wd_M_stands_1 rfl hl (by decide) rfl (fun ls hl => ?_)
  exact J2 16 a1 a2 0 σ hf _ _ _ hP hD hS (lv_sub hl [1, 2, 3, 0] rfl)
set_option maxHeartbeats 4000000 in
set_option maxRecDepth 100000 in
theorem wm_M_run (l : Launch) (D : va_G) (ad : Nat → Nat) (cI cZ cJ cG : ClassId) (sz : Nat) (a1 : Int32) (σ : wc_S) (res : Int32 × wc_S) (hf : wf_M_run a1 σ = some res) : Met l wy_M_run (wx_ws_M_run) ({ frames := 3, cells := 0, slots := 0, locals := 72 }) (va_Pc [.ref (ad 71), .int a1] (wx_pre D ad cI cZ cJ cG σ sz)) (wx_Qi D ad cI cZ cJ cG res (va_A (wx_W ad cI cZ cJ cG σ) sz)) 0 0 (va_A (wx_W ad cI cZ cJ cG σ) sz) := by
  refine wx_ofW (cc := prog_8_method_19_code) (maxL := 6) (ret := (some .int)) (Qc := fun A => wx_Qi D ad cI cZ cJ cG res A) [.ref (ad 71), .int a1] (by decide) rfl (Nat.le_of_ble_eq_true rfl) ?_
  intro p e s m args below meth c A ls hin hl
  obtain ⟨hx, hb, hr, hts, hown, hlocks, hml, hA, hP, hK, hD, hC, hN, hS⟩ := hin
  have hl : lv_has ls 6 [(0, .ref (ad 71)), (1, .int a1)] := hl
  have J291 : ∀ (σ : wc_S), wf_M_run_291  σ = some res → wx_Arr p l e ({ frames := 3, cells := 0, slots := 0, locals := 72 }) s m args below meth c D ad cI cZ cJ cG A (MQ below (wx_Qi D ad cI cZ cJ cG res A) args s 0 0 A) 6 0 0 291 [(0, .ref (ad 71))] [] σ := by
    intro   σ hf H locs ls hP hD hS hl
    unfold wf_M_run_291 at hf
    refine lv_aload_n hx hb wd_M_run_291 rfl (lv_at hl 0 rfl) ?_
    refine wx_get (v := .int (σ 71 22)) (C := "WidthCampaignsModel") (T := wx_TM) (N' := 29) hx hb hts wi_M hown hK hP 71 (by decide) rfl rfl 22 (by decide) wt_652 (fun _ h9 => h9) rfl wd_M_run_292 ?_
    refine lv_topi (fun v14 ev14 => ?_)
    have hf := wc_st_e ev14 hf
    refine lv_if_eq (tgt := 305) hx hb wd_M_run_295 (by decide) (fun c15 => ?_) (fun c15 => ?_)
    · have hf := wc_t c15 hf
      refine lv_iconst (v := (-1)) hx hb wd_M_run_305 (by decide) ?_
      exact wx_iret hx hb hr hlocks hf hP hS wd_M_run_306
    · have hf := wc_f c15 hf
      refine lv_aload_n hx hb wd_M_run_298 rfl (lv_at hl 0 rfl) ?_
      refine wx_get (v := .int (σ 71 1)) (C := "WidthCampaignsModel") (T := wx_TM) (N' := 29) hx hb hts wi_M hown hK hP 71 (by decide) rfl rfl 1 (by decide) wt_631 (fun _ h9 => h9) rfl wd_M_run_299 ?_
      refine lv_topi (fun v16 ev16 => ?_)
      have hf := wc_st_e ev16 hf
      refine lv_goto (tgt := 306) hx hb wd_M_run_302 (by decide) ?_
      exact wx_iret hx hb hr hlocks hf hP hS wd_M_run_306
  have J89 : ∀ (k61 : Int32 → Int32 → Int32 → wc_S → Option (Int32 × wc_S)) (hk61 : (∀ (x2 : Int32) (x3 : Int32) (x4 : Int32) (σ : wc_S), k61 x2 x3 x4 σ = some res → wx_Arr p l e ({ frames := 3, cells := 0, slots := 0, locals := 72 }) s m args below meth c D ad cI cZ cJ cG A (MQ below (wx_Qi D ad cI cZ cJ cG res A) args s 0 0 A) 6 0 0 61 [(0, .ref (ad 71)), (2, .int x2), (3, .int x3), (4, .int x4)] [] σ)) (x2 : Int32) (x3 : Int32) (x4 : Int32) (σ : wc_S), wf_M_run_89 k61 x2 x3 x4 σ = some res → wx_Arr p l e ({ frames := 3, cells := 0, slots := 0, locals := 72 }) s m args below meth c D ad cI cZ cJ cG A (MQ below (wx_Qi D ad cI cZ cJ cG res A) args s 0 0 A) 6 0 0 89 [(0, .ref (ad 71)), (2, .int x2), (3, .int x3), (4, .int x4)] [] σ := by
    intro k61 hk61 x2 x3 x4 σ hf H locs ls hP hD hS hl
    unfold wf_M_run_89 at hf
    obtain ⟨v19, ev19⟩ : ∃ y : Int32, y = x4 + (-1) := ⟨_, rfl⟩
    have hf := wc_st_e ev19 hf
    refine lv_iinc (v := v19) (lv' := [(4, .int v19), (0, .ref (ad 71)), (2, .int x2), (3, .int x3)]) hx hb wd_M_run_89 hl (k := 3) rfl (by rw [ev19]; rfl) (by decide) rfl (fun ls hl => ?_)
    refine lv_iload hx hb wd_M_run_92 (lv_at hl 0 rfl) ?_
    refine lv_if_lt (tgt := 61) hx hb wd_M_run_94 (by decide) (fun c20 => ?_) (fun c20 => ?_)
    · have hf := wc_t c20 hf
      exact hk61 x2 x3 v19 σ hf _ _ _ hP hD hS (lv_sub hl [1, 2, 3, 0] rfl)
    · have hf := wc_f c20 hf
      refine lv_aload_n hx hb wd_M_run_97 rfl (lv_at hl 1 rfl) ?_
      refine wx_get (v := .ref (ad 86)) (C := "WidthCampaignsModel") (T := wx_TM) (N' := 29) hx hb hts wi_M hown hK hP 71 (by decide) rfl rfl 24 (by decide) wt_654 (fun _ h9 => h9) rfl wd_M_run_98 ?_
      refine lv_iload hx hb wd_M_run_101 (lv_at hl 0 rfl) ?_
      refine lv_dup2_11 hx hb wd_M_run_103 rfl rfl ?_
      obtain ⟨h21, hf⟩ := wc_gd_e hf
      refine wx_iald hx hb hK hP 86 (n := 9) (by decide) rfl (wc_in_e h21) wd_M_run_104 ?_
      refine lv_topi (fun v22 ev22 => ?_)
      have hf := wc_st_e ev22 hf
      refine lv_iconst (v := 1) hx hb wd_M_run_105 (by decide) ?_
      refine lv_iadd hx hb wd_M_run_106 ?_
      refine lv_topi (fun v23 ev23 => ?_)
      have hf := wc_st_e ev23 hf
      obtain ⟨h24, hf⟩ := wc_gd_e hf
      refine wx_iast hx hb hK hP hD hS 86 (n := 9) (by decide) (fun _ => rfl) h24 wd_M_run_107 (fun σ25 H locs eσ25 hP hD hS => ?_)
      have hf := wc_st_e eσ25 hf
      refine lv_goto (tgt := 61) hx hb wd_M_run_108 (by decide) ?_
      exact hk61 x2 x3 v19 σ25 hf _ _ _ hP hD hS (lv_sub hl [1, 2, 3, 0] rfl)
  have J140 : ∀ (k61 : Int32 → Int32 → Int32 → wc_S → Option (Int32 × wc_S)) (hk61 : (∀ (x2 : Int32) (x3 : Int32) (x4 : Int32) (σ : wc_S), k61 x2 x3 x4 σ = some res → wx_Arr p l e ({ frames := 3, cells := 0, slots := 0, locals := 72 }) s m args below meth c D ad cI cZ cJ cG A (MQ below (wx_Qi D ad cI cZ cJ cG res A) args s 0 0 A) 6 0 0 61 [(0, .ref (ad 71)), (2, .int x2), (3, .int x3), (4, .int x4)] [] σ)) (x2 : Int32) (x3 : Int32) (x4 : Int32) (σ : wc_S), wf_M_run_140 k61 x2 x3 x4 σ = some res → wx_Arr p l e ({ frames := 3, cells := 0, slots := 0, locals := 72 }) s m args below meth c D ad cI cZ cJ cG A (MQ below (wx_Qi D ad cI cZ cJ cG res A) args s 0 0 A) 6 0 0 140 [(0, .ref (ad 71)), (2, .int x2), (3, .int x3), (4, .int x4)] [] σ := by
    intro k61 hk61 x2 x3 x4 σ hf H locs ls hP hD hS hl
    unfold wf_M_run_140 at hf
    refine lv_aload_n hx hb wd_M_run_140 rfl (lv_at hl 0 rfl) ?_
    refine wx_get (v := .ref (ad 86)) (C := "WidthCampaignsModel") (T := wx_TM) (N' := 29) hx hb hts wi_M hown hK hP 71 (by decide) rfl rfl 24 (by decide) wt_654 (fun _ h9 => h9) rfl wd_M_run_141 ?_
    refine lv_iload hx hb wd_M_run_144 (lv_at hl 3 rfl) ?_
    refine lv_dup2_11 hx hb wd_M_run_146 rfl rfl ?_
    obtain ⟨h35, hf⟩ := wc_gd_e hf
    refine wx_iald hx hb hK hP 86 (n := 9) (by decide) rfl (wc_in_e h35) wd_M_run_147 ?_
    refine lv_topi (fun v36 ev36 => ?_)
    have hf := wc_st_e ev36 hf
    refine lv_iconst (v := 1) hx hb wd_M_run_148 (by decide) ?_
    refine lv_iadd hx hb wd_M_run_149 ?_
    refine lv_topi (fun v37 ev37 => ?_)
    have hf := wc_st_e ev37 hf
    obtain ⟨h38, hf⟩ := wc_gd_e hf
    refine wx_iast hx hb hK hP hD hS 86 (n := 9) (by decide) (fun _ => rfl) h38 wd_M_run_150 (fun σ39 H locs eσ39 hP hD hS => ?_)
    have hf := wc_st_e eσ39 hf
    refine lv_goto (tgt := 61) hx hb wd_M_run_151 (by decide) ?_
    exact hk61 x2 x3 x4 σ39 hf _ _ _ hP hD hS (lv_sub hl [0, 1, 2, 3] rfl)
  have J234 : ∀ (k61 : Int32 → Int32 → Int32 → wc_S → Option (Int32 × wc_S)) (hk61 : (∀ (x2 : Int32) (x3 : Int32) (x4 : Int32) (σ : wc_S), k61 x2 x3 x4 σ = some res → wx_Arr p l e ({ frames := 3, cells := 0, slots := 0, locals := 72 }) s m args below meth c D ad cI cZ cJ cG A (MQ below (wx_Qi D ad cI cZ cJ cG res A) args s 0 0 A) 6 0 0 61 [(0, .ref (ad 71)), (2, .int x2), (3, .int x3), (4, .int x4)] [] σ)) (n : Nat) (x2 : Int32) (x3 : Int32) (x4 : Int32) (x5 : Int32) (σ : wc_S), wf_M_run_234 k61 n x2 x3 x4 x5 σ = some res → wx_Arr p l e ({ frames := 3, cells := 0, slots := 0, locals := 72 }) s m args below meth c D ad cI cZ cJ cG A (MQ below (wx_Qi D ad cI cZ cJ cG res A) args s 0 0 A) 6 0 0 234 [(0, .ref (ad 71)), (2, .int x2), (3, .int x3), (4, .int x4), (5, .int x5)] [] σ := by
    intro k61 hk61 n
    induction n with
    | zero => intro x2 x3 x4 x5 σ hf; exact absurd hf (by intro h9; cases h9)
    | succ n hk234 =>
      intro x2 x3 x4 x5 σ hf H locs ls hP hD hS hl
      have hf : wf_M_run_234_b k61 (wf_M_run_234 k61 n) x2 x3 x4 x5 σ = some res := hf
      unfold wf_M_run_234_b at hf
      refine lv_iload hx hb wd_M_run_234 (lv_at hl 4 rfl) ?_
      refine lv_aload_n hx hb wd_M_run_236 rfl (lv_at hl 0 rfl) ?_
      refine wx_get (v := .int (σ 71 1)) (C := "WidthCampaignsModel") (T := wx_TM) (N' := 29) hx hb hts wi_M hown hK hP 71 (by decide) rfl rfl 1 (by decide) wt_631 (fun _ h9 => h9) rfl wd_M_run_237 ?_
      refine lv_topi (fun v57 ev57 => ?_)
      have hf := wc_st_e ev57 hf
      refine lv_icmp_ge (tgt := 263) hx hb wd_M_run_240 (by decide) (fun c58 => ?_) (fun c58 => ?_)
      · have hf := wc_t c58 hf
        refine lv_aload_n hx hb wd_M_run_263 rfl (lv_at hl 0 rfl) ?_
        refine wx_get (v := .ref (ad 86)) (C := "WidthCampaignsModel") (T := wx_TM) (N' := 29) hx hb hts wi_M hown hK hP 71 (by decide) rfl rfl 24 (by decide) wt_654 (fun _ h9 => h9) rfl wd_M_run_264 ?_
        refine lv_iload hx hb wd_M_run_267 (lv_at hl 3 rfl) ?_
        refine lv_dup2_11 hx hb wd_M_run_269 rfl rfl ?_
        obtain ⟨h59, hf⟩ := wc_gd_e hf
        refine wx_iald hx hb hK hP 86 (n := 9) (by decide) rfl (wc_in_e h59) wd_M_run_270 ?_
        refine lv_topi (fun v60 ev60 => ?_)
        have hf := wc_st_e ev60 hf
        refine lv_iconst (v := 1) hx hb wd_M_run_271 (by decide) ?_
        refine lv_iadd hx hb wd_M_run_272 ?_
        refine lv_topi (fun v61 ev61 => ?_)
        have hf := wc_st_e ev61 hf
        obtain ⟨h62, hf⟩ := wc_gd_e hf
        refine wx_iast hx hb hK hP hD hS 86 (n := 9) (by decide) (fun _ => rfl) h62 wd_M_run_273 (fun σ63 H locs eσ63 hP hD hS => ?_)
        have hf := wc_st_e eσ63 hf
        refine lv_goto (tgt := 61) hx hb wd_M_run_274 (by decide) ?_
        exact hk61 x2 x3 x4 σ63 hf _ _ _ hP hD hS (lv_sub hl [0, 1, 2, 3] rfl)
      · have hf := wc_f c58 hf
        refine lv_aload_n hx hb wd_M_run_243 rfl (lv_at hl 0 rfl) ?_
        refine wx_get (v := .ref (ad 85)) (C := "WidthCampaignsModel") (T := wx_TM) (N' := 29) hx hb hts wi_M hown hK hP 71 (by decide) rfl rfl 23 (by decide) wt_653 (fun _ h9 => h9) rfl wd_M_run_244 ?_
        refine lv_iload hx hb wd_M_run_247 (lv_at hl 4 rfl) ?_
        refine lv_aload_n hx hb wd_M_run_249 rfl (lv_at hl 0 rfl) ?_
        refine wx_get (v := .ref (ad 86)) (C := "WidthCampaignsModel") (T := wx_TM) (N' := 29) hx hb hts wi_M hown hK hP 71 (by decide) rfl rfl 24 (by decide) wt_654 (fun _ h9 => h9) rfl wd_M_run_250 ?_
        refine lv_iload hx hb wd_M_run_253 (lv_at hl 4 rfl) ?_
        obtain ⟨h64, hf⟩ := wc_gd_e hf
        refine wx_iald hx hb hK hP 86 (n := 9) (by decide) rfl (wc_in_e h64) wd_M_run_255 ?_
        refine lv_topi (fun v65 ev65 => ?_)
        have hf := wc_st_e ev65 hf
        obtain ⟨h66, hf⟩ := wc_gd_e hf
        refine wx_iast hx hb hK hP hD hS 85 (n := 9) (by decide) (fun _ => rfl) h66 wd_M_run_256 (fun σ67 H locs eσ67 hP hD hS => ?_)
        have hf := wc_st_e eσ67 hf
        obtain ⟨v68, ev68⟩ : ∃ y : Int32, y = x5 + 1 := ⟨_, rfl⟩
        have hf := wc_st_e ev68 hf
        refine lv_iinc (v := v68) (lv' := [(5, .int v68), (0, .ref (ad 71)), (2, .int x2), (3, .int x3), (4, .int x4)]) hx hb wd_M_run_257 hl (k := 4) rfl (by rw [ev68]; rfl) (by decide) rfl (fun ls hl => ?_)
        refine lv_goto (tgt := 234) hx hb wd_M_run_260 (by decide) ?_
        exact hk234 x2 x3 x4 v68 σ67 hf _ _ _ hP hD hS (lv_sub hl [1, 2, 3, 4, 0] rfl)
  have J210 : ∀ (k61 : Int32 → Int32 → Int32 → wc_S → Option (Int32 × wc_S)) (hk61 : (∀ (x2 : Int32) (x3 : Int32) (x4 : Int32) (σ : wc_S), k61 x2 x3 x4 σ = some res → wx_Arr p l e ({ frames := 3, cells := 0, slots := 0, locals := 72 }) s m args below meth c D ad cI cZ cJ cG A (MQ below (wx_Qi D ad cI cZ cJ cG res A) args s 0 0 A) 6 0 0 61 [(0, .ref (ad 71)), (2, .int x2), (3, .int x3), (4, .int x4)] [] σ)) (x2 : Int32) (x3 : Int32) (x4 : Int32) (σ : wc_S), wf_M_run_210 k61 x2 x3 x4 σ = some res → wx_Arr p l e ({ frames := 3, cells := 0, slots := 0, locals := 72 }) s m args below meth c D ad cI cZ cJ cG A (MQ below (wx_Qi D ad cI cZ cJ cG res A) args s 0 0 A) 6 0 0 210 [(0, .ref (ad 71)), (2, .int x2), (3, .int x3), (4, .int x4)] [] σ := by
    intro k61 hk61 x2 x3 x4 σ hf H locs ls hP hD hS hl
    unfold wf_M_run_210 at hf
    refine lv_iload hx hb wd_M_run_210 (lv_at hl 3 rfl) ?_
    refine lv_aload_n hx hb wd_M_run_212 rfl (lv_at hl 0 rfl) ?_
    refine wx_get (v := .int (σ 71 1)) (C := "WidthCampaignsModel") (T := wx_TM) (N' := 29) hx hb hts wi_M hown hK hP 71 (by decide) rfl rfl 1 (by decide) wt_631 (fun _ h9 => h9) rfl wd_M_run_213 ?_
    refine lv_topi (fun v49 ev49 => ?_)
    have hf := wc_st_e ev49 hf
    refine lv_iconst (v := 1) hx hb wd_M_run_216 (by decide) ?_
    refine lv_isub hx hb wd_M_run_217 ?_
    refine lv_topi (fun v50 ev50 => ?_)
    have hf := wc_st_e ev50 hf
    refine lv_icmp_ne (tgt := 277) hx hb wd_M_run_218 (by decide) (fun c51 => ?_) (fun c51 => ?_)
    · have hf := wc_f c51 hf
      obtain ⟨v52, ev52⟩ : ∃ y : Int32, y = x4 + 1 := ⟨_, rfl⟩
      have hf := wc_st_e ev52 hf
      refine lv_iinc (v := v52) (lv' := [(4, .int v52), (0, .ref (ad 71)), (2, .int x2), (3, .int x3)]) hx hb wd_M_run_277 hl (k := 3) rfl (by rw [ev52]; rfl) (by decide) rfl (fun ls hl => ?_)
      refine lv_aload_n hx hb wd_M_run_280 rfl (lv_at hl 1 rfl) ?_
      refine wx_get (v := .ref (ad 86)) (C := "WidthCampaignsModel") (T := wx_TM) (N' := 29) hx hb hts wi_M hown hK hP 71 (by decide) rfl rfl 24 (by decide) wt_654 (fun _ h9 => h9) rfl wd_M_run_281 ?_
      refine lv_iload hx hb wd_M_run_284 (lv_at hl 0 rfl) ?_
      refine lv_iconst (v := 0) hx hb wd_M_run_286 (by decide) ?_
      obtain ⟨h53, hf⟩ := wc_gd_e hf
      refine wx_iast hx hb hK hP hD hS 86 (n := 9) (by decide) (fun _ => rfl) h53 wd_M_run_287 (fun σ54 H locs eσ54 hP hD hS => ?_)
      have hf := wc_st_e eσ54 hf
      refine lv_goto (tgt := 61) hx hb wd_M_run_288 (by decide) ?_
      exact hk61 x2 x3 v52 σ54 hf _ _ _ hP hD hS (lv_sub hl [1, 2, 3, 0] rfl)
    · have hf := wc_t c51 hf
      refine lv_aload_n hx hb wd_M_run_221 rfl (lv_at hl 0 rfl) ?_
      refine lv_iconst (v := 1) hx hb wd_M_run_222 (by decide) ?_
      refine wx_put (x := 1) (ty := .boolean) (C := "WidthCampaignsModel") (T := wx_TM) (N' := 29) hx hb hts wi_M wx_tM wx_toM wx_nM hown hK hP hD hS 71 (by decide) (fun _ => rfl) rfl 22 (by decide) wt_652 (fun _ h9 => h9) rfl (by decide +kernel) narrow_b1 rfl (Nat.le_of_ble_eq_true rfl) rfl wd_M_run_223 (fun σ55 H locs eσ55 hP hD hS => ?_)
      have hf := wc_st_e eσ55 hf
      refine lv_aload_n hx hb wd_M_run_226 rfl (lv_at hl 0 rfl) ?_
      refine wx_get (v := .int (σ55 71 25)) (C := "WidthCampaignsModel") (T := wx_TM) (N' := 29) hx hb hts wi_M hown hK hP 71 (by decide) rfl rfl 25 (by decide) wt_655 (fun _ h9 => h9) rfl wd_M_run_227 ?_
      refine lv_topi (fun v56 ev56 => ?_)
      have hf := wc_st_e ev56 hf
      refine lv_istore_n (lv' := [(2, .int v56), (0, .ref (ad 71)), (3, .int x3), (4, .int x4)]) hx hb wd_M_run_230 rfl hl (by decide) rfl (fun ls hl => ?_)
      refine lv_iconst (v := 0) hx hb wd_M_run_231 (by decide) ?_
      refine lv_istore (lv' := [(5, .int 0), (2, .int v56), (0, .ref (ad 71)), (3, .int x3), (4, .int x4)]) hx hb wd_M_run_232 hl (by decide) rfl (fun ls hl => ?_)
      exact J234 k61 hk61 16 v56 x3 x4 0 σ55 hf _ _ _ hP hD hS (lv_sub hl [2, 1, 3, 4, 0] rfl)
  have J61 : ∀ (n : Nat) (x2 : Int32) (x3 : Int32) (x4 : Int32) (σ : wc_S), wf_M_run_61 n x2 x3 x4 σ = some res → wx_Arr p l e ({ frames := 3, cells := 0, slots := 0, locals := 72 }) s m args below meth c D ad cI cZ cJ cG A (MQ below (wx_Qi D ad cI cZ cJ cG res A) args s 0 0 A) 6 0 0 61 [(0, .ref (ad 71)), (2, .int x2), (3, .int x3), (4, .int x4)] [] σ := by
    intro  n
    induction n with
    | zero => intro x2 x3 x4 σ hf; exact absurd hf (by intro h9; cases h9)
    | succ n hk61 =>
      intro x2 x3 x4 σ hf H locs ls hP hD hS hl
      have hf : wf_M_run_61_b (wf_M_run_61 n) x2 x3 x4 σ = some res := hf
      unfold wf_M_run_61_b at hf
      refine lv_iload hx hb wd_M_run_61 (lv_at hl 3 rfl) ?_
      refine lv_if_lt (tgt := 291) hx hb wd_M_run_63 (by decide) (fun c13 => ?_) (fun c13 => ?_)
      · have hf := wc_t c13 hf
        exact J291  σ hf _ _ _ hP hD hS (lv_sub hl [0] rfl)
      · have hf := wc_f c13 hf
        refine lv_iload hx hb wd_M_run_66 (lv_at hl 3 rfl) ?_
        refine lv_aload_n hx hb wd_M_run_68 rfl (lv_at hl 0 rfl) ?_
        refine wx_get (v := .int (σ 71 1)) (C := "WidthCampaignsModel") (T := wx_TM) (N' := 29) hx hb hts wi_M hown hK hP 71 (by decide) rfl rfl 1 (by decide) wt_631 (fun _ h9 => h9) rfl wd_M_run_69 ?_
        refine lv_topi (fun v17 ev17 => ?_)
        have hf := wc_st_e ev17 hf
        refine lv_icmp_eq (tgt := 89) hx hb wd_M_run_72 (by decide) (fun c18 => ?_) (fun c18 => ?_)
        · have hf := wc_t c18 hf
          exact J89 (wf_M_run_61 n) hk61 x2 x3 x4 σ hf _ _ _ hP hD hS (lv_sub hl [0, 1, 2, 3] rfl)
        · have hf := wc_f c18 hf
          refine lv_aload_n hx hb wd_M_run_75 rfl (lv_at hl 0 rfl) ?_
          refine wx_get (v := .ref (ad 86)) (C := "WidthCampaignsModel") (T := wx_TM) (N' := 29) hx hb hts wi_M hown hK hP 71 (by decide) rfl rfl 24 (by decide) wt_654 (fun _ h9 => h9) rfl wd_M_run_76 ?_
          refine lv_iload hx hb wd_M_run_79 (lv_at hl 3 rfl) ?_
          obtain ⟨h26, hf⟩ := wc_gd_e hf
          refine wx_iald hx hb hK hP 86 (n := 9) (by decide) rfl (wc_in_e h26) wd_M_run_81 ?_
          refine lv_topi (fun v27 ev27 => ?_)
          have hf := wc_st_e ev27 hf
          refine lv_aload_n hx hb wd_M_run_82 rfl (lv_at hl 0 rfl) ?_
          refine wx_get (v := .int (σ 71 1)) (C := "WidthCampaignsModel") (T := wx_TM) (N' := 29) hx hb hts wi_M hown hK hP 71 (by decide) rfl rfl 1 (by decide) wt_631 (fun _ h9 => h9) rfl wd_M_run_83 ?_
          refine lv_topi (fun v28 ev28 => ?_)
          have hf := wc_st_e ev28 hf
          refine lv_icmp_ne (tgt := 111) hx hb wd_M_run_86 (by decide) (fun c29 => ?_) (fun c29 => ?_)
          · have hf := wc_f c29 hf
            refine lv_aload_n hx hb wd_M_run_111 rfl (lv_at hl 0 rfl) ?_
            refine lv_aload_n hx hb wd_M_run_112 rfl (lv_at hl 0 rfl) ?_
            refine wx_get (v := .ref (ad 86)) (C := "WidthCampaignsModel") (T := wx_TM) (N' := 29) hx hb hts wi_M hown hK hP 71 (by decide) rfl rfl 24 (by decide) wt_654 (fun _ h9 => h9) rfl wd_M_run_113 ?_
            refine lv_iload hx hb wd_M_run_116 (lv_at hl 3 rfl) ?_
            obtain ⟨h30, hf⟩ := wc_gd_e hf
            refine wx_iald hx hb hK hP 86 (n := 9) (by decide) rfl (wc_in_e h30) wd_M_run_118 ?_
            refine lv_topi (fun v31 ev31 => ?_)
            have hf := wc_st_e ev31 hf
            refine lv_iload hx hb wd_M_run_119 (lv_at hl 3 rfl) ?_
            obtain ⟨r33, σ32, hq, hf⟩ := wc_b2_e hf
            refine wx_calli (va_runV (As := [.int v31, .int x4]) (rest := []) ⟨hx, hb, hml, hown, hts⟩ (wm_M_stands l D ad cI cZ cJ cG _ v31 x4 σ _ hq) (wx_cwV 2 hts wt_769 wt_768 wp_35 wt_7 wt_766 wh_M_stands rfl rfl ⟨Nat.le_of_ble_eq_true rfl, Nat.le_of_ble_eq_true rfl⟩) (wx_preV hK hP hD hS hA hC (by decide) rfl rfl) rfl rfl hl.1 rfl (lv_room (Nat.le_of_ble_eq_true rfl)) wd_M_run_121 ⟨Nat.le_of_ble_eq_true rfl, Nat.le_of_ble_eq_true rfl⟩) hD hS hA (fun H locs hP hD hS => ?_)
            refine lv_if_ne (tgt := 140) hx hb wd_M_run_124 (by decide) (fun c34 => ?_) (fun c34 => ?_)
            · have hf := wc_f c34 hf
              exact J140 (wf_M_run_61 n) hk61 x2 x3 x4 σ32 hf _ _ _ hP hD hS (lv_sub hl [0, 1, 2, 3] rfl)
            · have hf := wc_t c34 hf
              refine lv_aload_n hx hb wd_M_run_127 rfl (lv_at hl 0 rfl) ?_
              refine lv_aload_n hx hb wd_M_run_128 rfl (lv_at hl 0 rfl) ?_
              refine wx_get (v := .ref (ad 86)) (C := "WidthCampaignsModel") (T := wx_TM) (N' := 29) hx hb hts wi_M hown hK hP 71 (by decide) rfl rfl 24 (by decide) wt_654 (fun _ h9 => h9) rfl wd_M_run_129 ?_
              refine lv_iload hx hb wd_M_run_132 (lv_at hl 3 rfl) ?_
              obtain ⟨r41, σ40, hq, hf⟩ := wc_b2_e hf
              refine wx_calli (va_runV (As := [.ref (ad 86), .int x4]) (rest := []) ⟨hx, hb, hml, hown, hts⟩ (wm_M_mayBe l D ad cI cZ cJ cG _ 86 (Or.inr rfl) x4 σ32 _ hq) (wx_cwV 2 hts wt_773 wt_772 wp_36 wt_7 wt_770 wh_M_mayBe rfl rfl ⟨Nat.le_of_ble_eq_true rfl, Nat.le_of_ble_eq_true rfl⟩) (wx_preV hK hP hD hS hA hC (by decide) rfl rfl) rfl rfl hl.1 rfl (lv_room (Nat.le_of_ble_eq_true rfl)) wd_M_run_134 ⟨Nat.le_of_ble_eq_true rfl, Nat.le_of_ble_eq_true rfl⟩) hD hS hA (fun H locs hP hD hS => ?_)
              refine lv_if_ne (tgt := 154) hx hb wd_M_run_137 (by decide) (fun c42 => ?_) (fun c42 => ?_)
              · have hf := wc_f c42 hf
                refine lv_iload_n hx hb wd_M_run_154 rfl (lv_at hl 2 rfl) ?_
                refine lv_if_ne (tgt := 166) hx hb wd_M_run_155 (by decide) (fun c43 => ?_) (fun c43 => ?_)
                · have hf := wc_f c43 hf
                  obtain ⟨v44, ev44⟩ : ∃ y : Int32, y = x3 + (-1) := ⟨_, rfl⟩
                  have hf := wc_st_e ev44 hf
                  refine lv_iinc (v := v44) (lv' := [(3, .int v44), (0, .ref (ad 71)), (2, .int x2), (4, .int x4)]) hx hb wd_M_run_166 hl (k := 2) rfl (by rw [ev44]; rfl) (by decide) rfl (fun ls hl => ?_)
                  refine lv_aload_n hx hb wd_M_run_169 rfl (lv_at hl 1 rfl) ?_
                  refine lv_aload_n hx hb wd_M_run_170 rfl (lv_at hl 1 rfl) ?_
                  refine wx_get (v := .ref (ad 86)) (C := "WidthCampaignsModel") (T := wx_TM) (N' := 29) hx hb hts wi_M hown hK hP 71 (by decide) rfl rfl 24 (by decide) wt_654 (fun _ h9 => h9) rfl wd_M_run_171 ?_
                  refine lv_iload hx hb wd_M_run_174 (lv_at hl 3 rfl) ?_
                  refine lv_iconst (v := 1) hx hb wd_M_run_176 (by decide) ?_
                  refine lv_iadd hx hb wd_M_run_177 ?_
                  refine lv_topi (fun v45 ev45 => ?_)
                  have hf := wc_st_e ev45 hf
                  obtain ⟨σ46, hq, hf⟩ := wc_b1_e hf
                  refine wx_callv (va_runV (As := [.ref (ad 86), .int v45]) (rest := []) ⟨hx, hb, hml, hown, hts⟩ (wm_M_reckon l D ad cI cZ cJ cG _ 86 (Or.inr rfl) v45 σ40 _ hq) (wx_cwV 2 hts wt_785 wt_784 wp_39 wt_7 wt_782 wh_M_reckon rfl rfl ⟨Nat.le_of_ble_eq_true rfl, Nat.le_of_ble_eq_true rfl⟩) (wx_preV hK hP hD hS hA hC (by decide) rfl rfl) rfl rfl hl.1 rfl (lv_room (Nat.le_of_ble_eq_true rfl)) wd_M_run_178 ⟨Nat.le_of_ble_eq_true rfl, Nat.le_of_ble_eq_true rfl⟩) hD hS hA (fun H locs hP hD hS => ?_)
                  refine lv_aload_n hx hb wd_M_run_181 rfl (lv_at hl 1 rfl) ?_
                  refine wx_get (v := .int (σ46 71 22)) (C := "WidthCampaignsModel") (T := wx_TM) (N' := 29) hx hb hts wi_M hown hK hP 71 (by decide) rfl rfl 22 (by decide) wt_652 (fun _ h9 => h9) rfl wd_M_run_182 ?_
                  refine lv_topi (fun v47 ev47 => ?_)
                  have hf := wc_st_e ev47 hf
                  refine lv_if_eq (tgt := 210) hx hb wd_M_run_185 (by decide) (fun c48 => ?_) (fun c48 => ?_)
                  · have hf := wc_t c48 hf
                    exact J210 (wf_M_run_61 n) hk61 x2 v44 x4 σ46 hf _ _ _ hP hD hS (lv_sub hl [1, 2, 0, 3] rfl)
                  · have hf := wc_f c48 hf
                    refine lv_aload_n hx hb wd_M_run_188 rfl (lv_at hl 1 rfl) ?_
                    refine wx_get (v := .int (σ46 71 25)) (C := "WidthCampaignsModel") (T := wx_TM) (N' := 29) hx hb hts wi_M hown hK hP 71 (by decide) rfl rfl 25 (by decide) wt_655 (fun _ h9 => h9) rfl wd_M_run_189 ?_
                    refine lv_topi (fun v69 ev69 => ?_)
                    have hf := wc_st_e ev69 hf
                    refine lv_iload_n hx hb wd_M_run_192 rfl (lv_at hl 2 rfl) ?_
                    refine lv_icmp_lt (tgt := 210) hx hb wd_M_run_193 (by decide) (fun c70 => ?_) (fun c70 => ?_)
                    · have hf := wc_t c70 hf
                      exact J210 (wf_M_run_61 n) hk61 x2 v44 x4 σ46 hf _ _ _ hP hD hS (lv_sub hl [1, 2, 0, 3] rfl)
                    · have hf := wc_f c70 hf
                      refine lv_aload_n hx hb wd_M_run_196 rfl (lv_at hl 1 rfl) ?_
                      refine wx_get (v := .ref (ad 86)) (C := "WidthCampaignsModel") (T := wx_TM) (N' := 29) hx hb hts wi_M hown hK hP 71 (by decide) rfl rfl 24 (by decide) wt_654 (fun _ h9 => h9) rfl wd_M_run_197 ?_
                      refine lv_iload hx hb wd_M_run_200 (lv_at hl 3 rfl) ?_
                      refine lv_dup2_11 hx hb wd_M_run_202 rfl rfl ?_
                      obtain ⟨h71, hf⟩ := wc_gd_e hf
                      refine wx_iald hx hb hK hP 86 (n := 9) (by decide) rfl (wc_in_e h71) wd_M_run_203 ?_
                      refine lv_topi (fun v72 ev72 => ?_)
                      have hf := wc_st_e ev72 hf
                      refine lv_iconst (v := 1) hx hb wd_M_run_204 (by decide) ?_
                      refine lv_iadd hx hb wd_M_run_205 ?_
                      refine lv_topi (fun v73 ev73 => ?_)
                      have hf := wc_st_e ev73 hf
                      obtain ⟨h74, hf⟩ := wc_gd_e hf
                      refine wx_iast hx hb hK hP hD hS 86 (n := 9) (by decide) (fun _ => rfl) h74 wd_M_run_206 (fun σ75 H locs eσ75 hP hD hS => ?_)
                      have hf := wc_st_e eσ75 hf
                      refine lv_goto (tgt := 61) hx hb wd_M_run_207 (by decide) ?_
                      exact hk61 x2 v44 x4 σ75 hf _ _ _ hP hD hS (lv_sub hl [1, 2, 0, 3] rfl)
                · have hf := wc_t c43 hf
                  refine lv_aload_n hx hb wd_M_run_158 rfl (lv_at hl 0 rfl) ?_
                  refine lv_iconst (v := 0) hx hb wd_M_run_159 (by decide) ?_
                  refine wx_put (x := 0) (ty := .boolean) (C := "WidthCampaignsModel") (T := wx_TM) (N' := 29) hx hb hts wi_M wx_tM wx_toM wx_nM hown hK hP hD hS 71 (by decide) (fun _ => rfl) rfl 21 (by decide) wt_651 (fun _ h9 => h9) rfl (by decide +kernel) narrow_b0 rfl (Nat.le_of_ble_eq_true rfl) rfl wd_M_run_160 (fun σ76 H locs eσ76 hP hD hS => ?_)
                  have hf := wc_st_e eσ76 hf
                  refine lv_goto (tgt := 291) hx hb wd_M_run_163 (by decide) ?_
                  exact J291  σ76 hf _ _ _ hP hD hS (lv_sub hl [0] rfl)
              · have hf := wc_t c42 hf
                exact J140 (wf_M_run_61 n) hk61 x2 x3 x4 σ40 hf _ _ _ hP hD hS (lv_sub hl [0, 1, 2, 3] rfl)
          · have hf := wc_t c29 hf
            exact J89 (wf_M_run_61 n) hk61 x2 x3 x4 σ hf _ _ _ hP hD hS (lv_sub hl [0, 1, 2, 3] rfl)
  unfold wf_M_run at hf
  refine lv_aload_n hx hb wd_M_run_0 rfl (lv_at hl 0 rfl) ?_
  refine lv_iload_n hx hb wd_M_run_1 rfl (lv_at hl 1 rfl) ?_
  refine lv_iconst (v := 0) hx hb wd_M_run_2 (by decide) ?_
  refine lv_ldc (v := 100000) hx hb hown (wx_hw hts wt_765) wd_M_run_3 ?_
  obtain ⟨r2, σ1, hq, hf⟩ := wc_b2_e hf
  refine wx_calli (va_runS (As := [.int a1, .int 0, .int 100000]) (rest := [.ref (ad 71)]) ⟨hx, hb, hml, hown, hts⟩ (wm_M_in l D ad cI cZ cJ cG _ a1 0 100000 σ _ hq) (wx_cwS 3 hts wt_728 wt_727 wt_7 wt_726 wh_M_in rfl rfl ⟨Nat.le_of_ble_eq_true rfl, Nat.le_of_ble_eq_true rfl⟩) (wx_preS hK hP hD hS hA hC) rfl rfl hl.1 rfl (lv_room (Nat.le_of_ble_eq_true rfl)) wd_M_run_5 ⟨Nat.le_of_ble_eq_true rfl, Nat.le_of_ble_eq_true rfl⟩) hD hS hA (fun H locs hP hD hS => ?_)
  refine lv_iconst (v := 1) hx hb wd_M_run_8 (by decide) ?_
  refine lv_iconst (v := 1) hx hb wd_M_run_9 (by decide) ?_
  obtain ⟨r4, σ3, hq, hf⟩ := wc_b2_e hf
  refine wx_calli (va_runV (As := [.int r2, .int 1, .int 1]) (rest := []) ⟨hx, hb, hml, hown, hts⟩ (wm_M_goes l D ad cI cZ cJ cG _ r2 1 1 σ1 _ hq) (wx_cwV 3 hts wt_732 wt_731 wp_32 wt_7 wt_729 wh_M_goes rfl rfl ⟨Nat.le_of_ble_eq_true rfl, Nat.le_of_ble_eq_true rfl⟩) (wx_preV hK hP hD hS hA hC (by decide) rfl rfl) rfl rfl hl.1 rfl (lv_room (Nat.le_of_ble_eq_true rfl)) wd_M_run_10 ⟨Nat.le_of_ble_eq_true rfl, Nat.le_of_ble_eq_true rfl⟩) hD hS hA (fun H locs hP hD hS => ?_)
  refine lv_if_ne (tgt := 18) hx hb wd_M_run_13 (by decide) (fun c5 => ?_) (fun c5 => ?_)
  · have hf := wc_f c5 hf
    refine lv_aload_n hx hb wd_M_run_18 rfl (lv_at hl 0 rfl) ?_
    refine lv_iconst (v := 1) hx hb wd_M_run_19 (by decide) ?_
    refine wx_put (x := 1) (ty := .boolean) (C := "WidthCampaignsModel") (T := wx_TM) (N' := 29) hx hb hts wi_M wx_tM wx_toM wx_nM hown hK hP hD hS 71 (by decide) (fun _ => rfl) rfl 20 (by decide) wt_650 (fun _ h9 => h9) rfl (by decide +kernel) narrow_b1 rfl (Nat.le_of_ble_eq_true rfl) rfl wd_M_run_20 (fun σ6 H locs eσ6 hP hD hS => ?_)
    have hf := wc_st_e eσ6 hf
    refine lv_aload_n hx hb wd_M_run_23 rfl (lv_at hl 0 rfl) ?_
    refine lv_iconst (v := 0) hx hb wd_M_run_24 (by decide) ?_
    refine wx_put (x := 0) (ty := .boolean) (C := "WidthCampaignsModel") (T := wx_TM) (N' := 29) hx hb hts wi_M wx_tM wx_toM wx_nM hown hK hP hD hS 71 (by decide) (fun _ => rfl) rfl 22 (by decide) wt_652 (fun _ h9 => h9) rfl (by decide +kernel) narrow_b0 rfl (Nat.le_of_ble_eq_true rfl) rfl wd_M_run_25 (fun σ7 H locs eσ7 hP hD hS => ?_)
    have hf := wc_st_e eσ7 hf
    refine lv_aload_n hx hb wd_M_run_28 rfl (lv_at hl 0 rfl) ?_
    refine lv_iconst (v := 1) hx hb wd_M_run_29 (by decide) ?_
    refine wx_put (x := 1) (ty := .boolean) (C := "WidthCampaignsModel") (T := wx_TM) (N' := 29) hx hb hts wi_M wx_tM wx_toM wx_nM hown hK hP hD hS 71 (by decide) (fun _ => rfl) rfl 21 (by decide) wt_651 (fun _ h9 => h9) rfl (by decide +kernel) narrow_b1 rfl (Nat.le_of_ble_eq_true rfl) rfl wd_M_run_30 (fun σ8 H locs eσ8 hP hD hS => ?_)
    have hf := wc_st_e eσ8 hf
    refine lv_iconst (v := 0) hx hb wd_M_run_33 (by decide) ?_
    refine lv_istore_n (lv' := [(2, .int 0), (0, .ref (ad 71)), (1, .int a1)]) hx hb wd_M_run_34 rfl hl (by decide) rfl (fun ls hl => ?_)
    refine lv_iload_n hx hb wd_M_run_35 rfl (lv_at hl 2 rfl) ?_
    refine lv_istore_n (lv' := [(3, .int a1), (2, .int 0), (0, .ref (ad 71)), (1, .int a1)]) hx hb wd_M_run_36 rfl hl (by decide) rfl (fun ls hl => ?_)
    refine lv_iconst (v := 0) hx hb wd_M_run_37 (by decide) ?_
    refine lv_istore (lv' := [(4, .int 0), (3, .int a1), (2, .int 0), (0, .ref (ad 71)), (1, .int a1)]) hx hb wd_M_run_38 hl (by decide) rfl (fun ls hl => ?_)
    refine lv_aload_n hx hb wd_M_run_40 rfl (lv_at hl 3 rfl) ?_
    refine wx_get (v := .ref (ad 86)) (C := "WidthCampaignsModel") (T := wx_TM) (N' := 29) hx hb hts wi_M hown hK hP 71 (by decide) rfl rfl 24 (by decide) wt_654 (fun _ h9 => h9) rfl wd_M_run_41 ?_
    refine lv_iconst (v := 0) hx hb wd_M_run_44 (by decide) ?_
    refine lv_iconst (v := 0) hx hb wd_M_run_45 (by decide) ?_
    obtain ⟨h9, hf⟩ := wc_gd_e hf
    refine wx_iast hx hb hK hP hD hS 86 (n := 9) (by decide) (fun _ => rfl) h9 wd_M_run_46 (fun σ10 H locs eσ10 hP hD hS => ?_)
    have hf := wc_st_e eσ10 hf
    refine lv_aload_n hx hb wd_M_run_47 rfl (lv_at hl 3 rfl) ?_
    refine wx_get (v := .int (σ10 71 1)) (C := "WidthCampaignsModel") (T := wx_TM) (N' := 29) hx hb hts wi_M hown hK hP 71 (by decide) rfl rfl 1 (by decide) wt_631 (fun _ h9 => h9) rfl wd_M_run_48 ?_
    refine lv_topi (fun v11 ev11 => ?_)
    have hf := wc_st_e ev11 hf
    refine lv_if_ne (tgt := 61) hx hb wd_M_run_51 (by decide) (fun c12 => ?_) (fun c12 => ?_)
    · have hf := wc_f c12 hf
      exact J61 wc_big 0 a1 0 σ10 hf _ _ _ hP hD hS (lv_sub hl [3, 2, 1, 0] rfl)
    · have hf := wc_t c12 hf
      refine lv_aload_n hx hb wd_M_run_54 rfl (lv_at hl 3 rfl) ?_
      refine lv_iconst (v := 1) hx hb wd_M_run_55 (by decide) ?_
      refine wx_put (x := 1) (ty := .boolean) (C := "WidthCampaignsModel") (T := wx_TM) (N' := 29) hx hb hts wi_M wx_tM wx_toM wx_nM hown hK hP hD hS 71 (by decide) (fun _ => rfl) rfl 22 (by decide) wt_652 (fun _ h9 => h9) rfl (by decide +kernel) narrow_b1 rfl (Nat.le_of_ble_eq_true rfl) rfl wd_M_run_56 (fun σ77 H locs eσ77 hP hD hS => ?_)
      have hf := wc_st_e eσ77 hf
      refine lv_iconst (v := 0) hx hb wd_M_run_59 (by decide) ?_
      exact wx_iret hx hb hr hlocks hf hP hS wd_M_run_60
  · have hf := wc_t c5 hf
    refine lv_iconst (v := 0) hx hb wd_M_run_16 (by decide) ?_
    exact wx_iret hx hb hr hlocks hf hP hS wd_M_run_17
set_option maxHeartbeats 4000000 in
set_option maxRecDepth 100000 in
theorem wm_M_proved (l : Launch) (D : va_G) (ad : Nat → Nat) (cI cZ cJ cG : ClassId) (sz : Nat) (σ : wc_S) (res : Int32 × wc_S) (hf : wf_M_proved  σ = some res) : Met l wy_M_proved (wx_ws_M_proved) ({ frames := 1, cells := 0, slots := 0, locals := 23 }) (va_Pc [.ref (ad 71)] (wx_pre D ad cI cZ cJ cG σ sz)) (wx_Qi D ad cI cZ cJ cG res (va_A (wx_W ad cI cZ cJ cG σ) sz)) 0 0 (va_A (wx_W ad cI cZ cJ cG σ) sz) := by
  refine wx_ofW (cc := prog_8_method_20_code) (maxL := 1) (ret := (some .boolean)) (Qc := fun A => wx_Qi D ad cI cZ cJ cG res A) [.ref (ad 71)] (by decide) rfl (Nat.le_of_ble_eq_true rfl) ?_
  intro p e s m args below meth c A ls hin hl
  obtain ⟨hx, hb, hr, hts, hown, hlocks, hml, hA, hP, hK, hD, hC, hN, hS⟩ := hin
  have hl : lv_has ls 1 [(0, .ref (ad 71))] := hl
  unfold wf_M_proved at hf
  refine lv_aload_n hx hb wd_M_proved_0 rfl (lv_at hl 0 rfl) ?_
  refine lv_aload_n hx hb wd_M_proved_1 rfl (lv_at hl 0 rfl) ?_
  refine wx_get (v := .int (σ 71 20)) (C := "WidthCampaignsModel") (T := wx_TM) (N' := 29) hx hb hts wi_M hown hK hP 71 (by decide) rfl rfl 20 (by decide) wt_650 (fun _ h9 => h9) rfl wd_M_proved_2 ?_
  refine lv_topi (fun v1 ev1 => ?_)
  have hf := wc_st_e ev1 hf
  refine lv_iconst (v := 1) hx hb wd_M_proved_5 (by decide) ?_
  refine lv_iconst (v := 1) hx hb wd_M_proved_6 (by decide) ?_
  obtain ⟨r3, σ2, hq, hf⟩ := wc_b2_e hf
  refine wx_calli (va_runV (As := [.int v1, .int 1, .int 1]) (rest := []) ⟨hx, hb, hml, hown, hts⟩ (wm_M_goes l D ad cI cZ cJ cG _ v1 1 1 σ _ hq) (wx_cwV 3 hts wt_732 wt_731 wp_32 wt_7 wt_729 wh_M_goes rfl rfl ⟨Nat.le_of_ble_eq_true rfl, Nat.le_of_ble_eq_true rfl⟩) (wx_preV hK hP hD hS hA hC (by decide) rfl rfl) rfl rfl hl.1 rfl (lv_room (Nat.le_of_ble_eq_true rfl)) wd_M_proved_7 ⟨Nat.le_of_ble_eq_true rfl, Nat.le_of_ble_eq_true rfl⟩) hD hS hA (fun H locs hP hD hS => ?_)
  refine lv_if_eq (tgt := 24) hx hb wd_M_proved_10 (by decide) (fun c4 => ?_) (fun c4 => ?_)
  · have hf := wc_t c4 hf
    refine lv_iconst (v := 0) hx hb wd_M_proved_24 (by decide) ?_
    exact wx_zret hx hb hr narrow_b0 hlocks hf hP hS wd_M_proved_25
  · have hf := wc_f c4 hf
    refine lv_aload_n hx hb wd_M_proved_13 rfl (lv_at hl 0 rfl) ?_
    refine wx_get (v := .int (σ2 71 21)) (C := "WidthCampaignsModel") (T := wx_TM) (N' := 29) hx hb hts wi_M hown hK hP 71 (by decide) rfl rfl 21 (by decide) wt_651 (fun _ h9 => h9) rfl wd_M_proved_14 ?_
    refine lv_topi (fun v5 ev5 => ?_)
    have hf := wc_st_e ev5 hf
    refine lv_if_eq (tgt := 24) hx hb wd_M_proved_17 (by decide) (fun c6 => ?_) (fun c6 => ?_)
    · have hf := wc_t c6 hf
      refine lv_iconst (v := 0) hx hb wd_M_proved_24 (by decide) ?_
      exact wx_zret hx hb hr narrow_b0 hlocks hf hP hS wd_M_proved_25
    · have hf := wc_f c6 hf
      refine lv_iconst (v := 1) hx hb wd_M_proved_20 (by decide) ?_
      refine lv_goto (tgt := 25) hx hb wd_M_proved_21 (by decide) ?_
      exact wx_zret hx hb hr narrow_b1 hlocks hf hP hS wd_M_proved_25
set_option maxHeartbeats 4000000 in
set_option maxRecDepth 100000 in
theorem wm_M_order (l : Launch) (D : va_G) (ad : Nat → Nat) (cI cZ cJ cG : ClassId) (sz : Nat) (a1 : Int32) (σ : wc_S) (res : Int32 × wc_S) (hf : wf_M_order a1 σ = some res) : Met l wy_M_order (wx_ws_M_order) ({ frames := 1, cells := 0, slots := 0, locals := 22 }) (va_Pc [.ref (ad 71), .int a1] (wx_pre D ad cI cZ cJ cG σ sz)) (wx_Qi D ad cI cZ cJ cG res (va_A (wx_W ad cI cZ cJ cG σ) sz)) 0 0 (va_A (wx_W ad cI cZ cJ cG σ) sz) := by
  refine wx_ofW (cc := prog_8_method_21_code) (maxL := 2) (ret := (some .int)) (Qc := fun A => wx_Qi D ad cI cZ cJ cG res A) [.ref (ad 71), .int a1] (by decide) rfl (Nat.le_of_ble_eq_true rfl) ?_
  intro p e s m args below meth c A ls hin hl
  obtain ⟨hx, hb, hr, hts, hown, hlocks, hml, hA, hP, hK, hD, hC, hN, hS⟩ := hin
  have hl : lv_has ls 2 [(0, .ref (ad 71)), (1, .int a1)] := hl
  have J31 : ∀ (x1 : Int32) (s1 : Int32) (σ : wc_S), wf_M_order_31 x1 s1 σ = some res → wx_Arr p l e ({ frames := 1, cells := 0, slots := 0, locals := 22 }) s m args below meth c D ad cI cZ cJ cG A (MQ below (wx_Qi D ad cI cZ cJ cG res A) args s 0 0 A) 2 0 0 31 [(0, .ref (ad 71)), (1, .int x1)] [.int s1, .ref (ad 71)] σ := by
    intro  x1 s1 σ hf H locs ls hP hD hS hl
    unfold wf_M_order_31 at hf
    refine wx_put (x := s1) (ty := .int) (C := "WidthCampaignsModel") (T := wx_TM) (N' := 29) hx hb hts wi_M wx_tM wx_toM wx_nM hown hK hP hD hS 71 (by decide) (fun _ => rfl) rfl 0 (by decide) wt_630 (fun _ h9 => h9) rfl (by decide +kernel) rfl rfl (Nat.le_of_ble_eq_true rfl) rfl wd_M_order_31 (fun σ8 H locs eσ8 hP hD hS => ?_)
    have hf := wc_st_e eσ8 hf
    refine lv_aload_n hx hb wd_M_order_34 rfl (lv_at hl 0 rfl) ?_
    refine wx_get (v := .int (σ8 71 0)) (C := "WidthCampaignsModel") (T := wx_TM) (N' := 29) hx hb hts wi_M hown hK hP 71 (by decide) rfl rfl 0 (by decide) wt_630 (fun _ h9 => h9) rfl wd_M_order_35 ?_
    refine lv_topi (fun v9 ev9 => ?_)
    have hf := wc_st_e ev9 hf
    refine lv_if_le (tgt := 45) hx hb wd_M_order_38 (by decide) (fun c10 => ?_) (fun c10 => ?_)
    · have hf := wc_t c10 hf
      refine lv_aload_n hx hb wd_M_order_45 rfl (lv_at hl 0 rfl) ?_
      refine wx_get (v := .ref (ad 85)) (C := "WidthCampaignsModel") (T := wx_TM) (N' := 29) hx hb hts wi_M hown hK hP 71 (by decide) rfl rfl 23 (by decide) wt_653 (fun _ h9 => h9) rfl wd_M_order_46 ?_
      refine lv_iload_n hx hb wd_M_order_49 rfl (lv_at hl 1 rfl) ?_
      obtain ⟨h11, hf⟩ := wc_gd_e hf
      refine wx_iald hx hb hK hP 85 (n := 9) (by decide) rfl (wc_in_e h11) wd_M_order_50 ?_
      refine lv_topi (fun v12 ev12 => ?_)
      have hf := wc_st_e ev12 hf
      exact wx_iret hx hb hr hlocks hf hP hS wd_M_order_51
    · have hf := wc_f c10 hf
      refine lv_iconst (v := 0) hx hb wd_M_order_41 (by decide) ?_
      refine lv_goto (tgt := 51) hx hb wd_M_order_42 (by decide) ?_
      exact wx_iret hx hb hr hlocks hf hP hS wd_M_order_51
  unfold wf_M_order at hf
  refine lv_aload_n hx hb wd_M_order_0 rfl (lv_at hl 0 rfl) ?_
  refine lv_aload_n hx hb wd_M_order_1 rfl (lv_at hl 0 rfl) ?_
  refine wx_get (v := .int (σ 71 22)) (C := "WidthCampaignsModel") (T := wx_TM) (N' := 29) hx hb hts wi_M hown hK hP 71 (by decide) rfl rfl 22 (by decide) wt_652 (fun _ h9 => h9) rfl wd_M_order_2 ?_
  refine lv_topi (fun v1 ev1 => ?_)
  have hf := wc_st_e ev1 hf
  refine lv_if_ne (tgt := 12) hx hb wd_M_order_5 (by decide) (fun c2 => ?_) (fun c2 => ?_)
  · have hf := wc_f c2 hf
    refine lv_iload_n hx hb wd_M_order_12 rfl (lv_at hl 1 rfl) ?_
    refine lv_iconst (v := 0) hx hb wd_M_order_13 (by decide) ?_
    refine lv_aload_n hx hb wd_M_order_14 rfl (lv_at hl 0 rfl) ?_
    refine wx_get (v := .int (σ 71 1)) (C := "WidthCampaignsModel") (T := wx_TM) (N' := 29) hx hb hts wi_M hown hK hP 71 (by decide) rfl rfl 1 (by decide) wt_631 (fun _ h9 => h9) rfl wd_M_order_15 ?_
    refine lv_topi (fun v3 ev3 => ?_)
    have hf := wc_st_e ev3 hf
    refine lv_iconst (v := 1) hx hb wd_M_order_18 (by decide) ?_
    refine lv_isub hx hb wd_M_order_19 ?_
    refine lv_topi (fun v4 ev4 => ?_)
    have hf := wc_st_e ev4 hf
    obtain ⟨r6, σ5, hq, hf⟩ := wc_b2_e hf
    refine wx_calli (va_runS (As := [.int a1, .int 0, .int v4]) (rest := [.ref (ad 71)]) ⟨hx, hb, hml, hown, hts⟩ (wm_M_in l D ad cI cZ cJ cG _ a1 0 v4 σ _ hq) (wx_cwS 3 hts wt_728 wt_727 wt_7 wt_726 wh_M_in rfl rfl ⟨Nat.le_of_ble_eq_true rfl, Nat.le_of_ble_eq_true rfl⟩) (wx_preS hK hP hD hS hA hC) rfl rfl hl.1 rfl (lv_room (Nat.le_of_ble_eq_true rfl)) wd_M_order_20 ⟨Nat.le_of_ble_eq_true rfl, Nat.le_of_ble_eq_true rfl⟩) hD hS hA (fun H locs hP hD hS => ?_)
    refine lv_if_ne (tgt := 30) hx hb wd_M_order_23 (by decide) (fun c7 => ?_) (fun c7 => ?_)
    · have hf := wc_f c7 hf
      refine lv_iconst (v := 0) hx hb wd_M_order_30 (by decide) ?_
      exact J31 a1 0 σ5 hf _ _ _ hP hD hS (lv_sub hl [0, 1] rfl)
    · have hf := wc_t c7 hf
      refine lv_iconst (v := 1) hx hb wd_M_order_26 (by decide) ?_
      refine lv_goto (tgt := 31) hx hb wd_M_order_27 (by decide) ?_
      exact J31 a1 1 σ5 hf _ _ _ hP hD hS (lv_sub hl [0, 1] rfl)
  · have hf := wc_t c2 hf
    refine lv_iconst (v := 2) hx hb wd_M_order_8 (by decide) ?_
    refine lv_goto (tgt := 31) hx hb wd_M_order_9 (by decide) ?_
    exact J31 a1 2 σ hf _ _ _ hP hD hS (lv_sub hl [0, 1] rfl)
set_option maxHeartbeats 4000000 in
set_option maxRecDepth 100000 in
theorem wm_M_told (l : Launch) (D : va_G) (ad : Nat → Nat) (cI cZ cJ cG : ClassId) (sz : Nat) (a1 : Int32) (σ : wc_S) (res : Int32 × wc_S) (hf : wf_M_told a1 σ = some res) : Met l wy_M_told (wx_ws_M_told) ({ frames := 3, cells := 0, slots := 0, locals := 72 }) (va_Pc [.ref (ad 71), .int a1] (wx_pre D ad cI cZ cJ cG σ sz)) (wx_Qi D ad cI cZ cJ cG res (va_A (wx_W ad cI cZ cJ cG σ) sz)) 0 0 (va_A (wx_W ad cI cZ cJ cG σ) sz) := by
  refine wx_ofW (cc := prog_8_method_22_code) (maxL := 2) (ret := (some .int)) (Qc := fun A => wx_Qi D ad cI cZ cJ cG res A) [.ref (ad 71), .int a1] (by decide) rfl (Nat.le_of_ble_eq_true rfl) ?_
  intro p e s m args below meth c A ls hin hl
  obtain ⟨hx, hb, hr, hts, hown, hlocks, hml, hA, hP, hK, hD, hC, hN, hS⟩ := hin
  have hl : lv_has ls 2 [(0, .ref (ad 71)), (1, .int a1)] := hl
  unfold wf_M_told at hf
  refine lv_aload_n hx hb wd_M_told_0 rfl (lv_at hl 0 rfl) ?_
  refine lv_iload_n hx hb wd_M_told_1 rfl (lv_at hl 1 rfl) ?_
  refine lv_iconst (v := 0) hx hb wd_M_told_2 (by decide) ?_
  refine lv_iconst (v := 2) hx hb wd_M_told_3 (by decide) ?_
  obtain ⟨r2, σ1, hq, hf⟩ := wc_b2_e hf
  refine wx_calli (va_runS (As := [.int a1, .int 0, .int 2]) (rest := [.ref (ad 71)]) ⟨hx, hb, hml, hown, hts⟩ (wm_M_in l D ad cI cZ cJ cG _ a1 0 2 σ _ hq) (wx_cwS 3 hts wt_728 wt_727 wt_7 wt_726 wh_M_in rfl rfl ⟨Nat.le_of_ble_eq_true rfl, Nat.le_of_ble_eq_true rfl⟩) (wx_preS hK hP hD hS hA hC) rfl rfl hl.1 rfl (lv_room (Nat.le_of_ble_eq_true rfl)) wd_M_told_4 ⟨Nat.le_of_ble_eq_true rfl, Nat.le_of_ble_eq_true rfl⟩) hD hS hA (fun H locs hP hD hS => ?_)
  refine lv_aload_n hx hb wd_M_told_7 rfl (lv_at hl 0 rfl) ?_
  refine wx_get (v := .int (σ1 71 22)) (C := "WidthCampaignsModel") (T := wx_TM) (N' := 29) hx hb hts wi_M hown hK hP 71 (by decide) rfl rfl 22 (by decide) wt_652 (fun _ h9 => h9) rfl wd_M_told_8 ?_
  refine lv_topi (fun v3 ev3 => ?_)
  have hf := wc_st_e ev3 hf
  refine lv_iconst (v := 1) hx hb wd_M_told_11 (by decide) ?_
  obtain ⟨r5, σ4, hq, hf⟩ := wc_b2_e hf
  refine wx_calli (va_runV (As := [.int r2, .int v3, .int 1]) (rest := []) ⟨hx, hb, hml, hown, hts⟩ (wm_M_goes l D ad cI cZ cJ cG _ r2 v3 1 σ1 _ hq) (wx_cwV 3 hts wt_732 wt_731 wp_32 wt_7 wt_729 wh_M_goes rfl rfl ⟨Nat.le_of_ble_eq_true rfl, Nat.le_of_ble_eq_true rfl⟩) (wx_preV hK hP hD hS hA hC (by decide) rfl rfl) rfl rfl hl.1 rfl (lv_room (Nat.le_of_ble_eq_true rfl)) wd_M_told_12 ⟨Nat.le_of_ble_eq_true rfl, Nat.le_of_ble_eq_true rfl⟩) hD hS hA (fun H locs hP hD hS => ?_)
  refine lv_if_ne (tgt := 20) hx hb wd_M_told_15 (by decide) (fun c6 => ?_) (fun c6 => ?_)
  · have hf := wc_f c6 hf
    refine lv_aload_n hx hb wd_M_told_20 rfl (lv_at hl 0 rfl) ?_
    refine lv_aload_n hx hb wd_M_told_21 rfl (lv_at hl 0 rfl) ?_
    refine wx_get (v := .ref (ad 85)) (C := "WidthCampaignsModel") (T := wx_TM) (N' := 29) hx hb hts wi_M hown hK hP 71 (by decide) rfl rfl 23 (by decide) wt_653 (fun _ h9 => h9) rfl wd_M_told_22 ?_
    refine lv_aload_n hx hb wd_M_told_25 rfl (lv_at hl 0 rfl) ?_
    refine wx_get (v := .int (σ4 71 1)) (C := "WidthCampaignsModel") (T := wx_TM) (N' := 29) hx hb hts wi_M hown hK hP 71 (by decide) rfl rfl 1 (by decide) wt_631 (fun _ h9 => h9) rfl wd_M_told_26 ?_
    refine lv_topi (fun v7 ev7 => ?_)
    have hf := wc_st_e ev7 hf
    obtain ⟨σ8, hq, hf⟩ := wc_b1_e hf
    refine wx_callv (va_runV (As := [.ref (ad 85), .int v7]) (rest := []) ⟨hx, hb, hml, hown, hts⟩ (wm_M_reckon l D ad cI cZ cJ cG _ 85 (Or.inl rfl) v7 σ4 _ hq) (wx_cwV 2 hts wt_785 wt_784 wp_39 wt_7 wt_782 wh_M_reckon rfl rfl ⟨Nat.le_of_ble_eq_true rfl, Nat.le_of_ble_eq_true rfl⟩) (wx_preV hK hP hD hS hA hC (by decide) rfl rfl) rfl rfl hl.1 rfl (lv_room (Nat.le_of_ble_eq_true rfl)) wd_M_told_29 ⟨Nat.le_of_ble_eq_true rfl, Nat.le_of_ble_eq_true rfl⟩) hD hS hA (fun H locs hP hD hS => ?_)
    refine lv_iload_n hx hb wd_M_told_32 rfl (lv_at hl 1 rfl) ?_
    refine lv_if_ne (tgt := 43) hx hb wd_M_told_33 (by decide) (fun c9 => ?_) (fun c9 => ?_)
    · have hf := wc_f c9 hf
      refine lv_iload_n hx hb wd_M_told_43 rfl (lv_at hl 1 rfl) ?_
      refine lv_iconst (v := 1) hx hb wd_M_told_44 (by decide) ?_
      refine lv_icmp_ne (tgt := 55) hx hb wd_M_told_45 (by decide) (fun c10 => ?_) (fun c10 => ?_)
      · have hf := wc_f c10 hf
        refine lv_aload_n hx hb wd_M_told_55 rfl (lv_at hl 0 rfl) ?_
        refine wx_get (v := .int (σ8 71 27)) (C := "WidthCampaignsModel") (T := wx_TM) (N' := 29) hx hb hts wi_M hown hK hP 71 (by decide) rfl rfl 27 (by decide) wt_657 (fun _ h9 => h9) rfl wd_M_told_56 ?_
        refine lv_topi (fun v11 ev11 => ?_)
        have hf := wc_st_e ev11 hf
        exact wx_iret hx hb hr hlocks hf hP hS wd_M_told_59
      · have hf := wc_t c10 hf
        refine lv_aload_n hx hb wd_M_told_48 rfl (lv_at hl 0 rfl) ?_
        refine wx_get (v := .int (σ8 71 26)) (C := "WidthCampaignsModel") (T := wx_TM) (N' := 29) hx hb hts wi_M hown hK hP 71 (by decide) rfl rfl 26 (by decide) wt_656 (fun _ h9 => h9) rfl wd_M_told_49 ?_
        refine lv_topi (fun v12 ev12 => ?_)
        have hf := wc_st_e ev12 hf
        refine lv_goto (tgt := 59) hx hb wd_M_told_52 (by decide) ?_
        exact wx_iret hx hb hr hlocks hf hP hS wd_M_told_59
    · have hf := wc_t c9 hf
      refine lv_aload_n hx hb wd_M_told_36 rfl (lv_at hl 0 rfl) ?_
      refine wx_get (v := .int (σ8 71 25)) (C := "WidthCampaignsModel") (T := wx_TM) (N' := 29) hx hb hts wi_M hown hK hP 71 (by decide) rfl rfl 25 (by decide) wt_655 (fun _ h9 => h9) rfl wd_M_told_37 ?_
      refine lv_topi (fun v13 ev13 => ?_)
      have hf := wc_st_e ev13 hf
      refine lv_goto (tgt := 59) hx hb wd_M_told_40 (by decide) ?_
      exact wx_iret hx hb hr hlocks hf hP hS wd_M_told_59
  · have hf := wc_t c6 hf
    refine lv_iconst (v := 0) hx hb wd_M_told_18 (by decide) ?_
    exact wx_iret hx hb hr hlocks hf hP hS wd_M_told_19
set_option maxHeartbeats 4000000 in
set_option maxRecDepth 100000 in
theorem wm_M_change (l : Launch) (D : va_G) (ad : Nat → Nat) (cI cZ cJ cG : ClassId) (sz : Nat) (a1 : Int32) (σ : wc_S) (res : Int32 × wc_S) (hf : wf_M_change a1 σ = some res) : Met l wy_M_change (wx_ws_M_change) ({ frames := 3, cells := 0, slots := 0, locals := 72 }) (va_Pc [.ref (ad 71), .int a1] (wx_pre D ad cI cZ cJ cG σ sz)) (wx_Qi D ad cI cZ cJ cG res (va_A (wx_W ad cI cZ cJ cG σ) sz)) 0 0 (va_A (wx_W ad cI cZ cJ cG σ) sz) := by
  refine wx_ofW (cc := prog_8_method_23_code) (maxL := 2) (ret := (some .boolean)) (Qc := fun A => wx_Qi D ad cI cZ cJ cG res A) [.ref (ad 71), .int a1] (by decide) rfl (Nat.le_of_ble_eq_true rfl) ?_
  intro p e s m args below meth c A ls hin hl
  obtain ⟨hx, hb, hr, hts, hown, hlocks, hml, hA, hP, hK, hD, hC, hN, hS⟩ := hin
  have hl : lv_has ls 2 [(0, .ref (ad 71)), (1, .int a1)] := hl
  have J31 : ∀ (x1 : Int32) (s1 : Int32) (σ : wc_S), wf_M_change_31 x1 s1 σ = some res → wx_Arr p l e ({ frames := 3, cells := 0, slots := 0, locals := 72 }) s m args below meth c D ad cI cZ cJ cG A (MQ below (wx_Qi D ad cI cZ cJ cG res A) args s 0 0 A) 2 0 0 31 [(0, .ref (ad 71)), (1, .int x1)] [.int s1, .ref (ad 71)] σ := by
    intro  x1 s1 σ hf H locs ls hP hD hS hl
    unfold wf_M_change_31 at hf
    refine wx_put (x := s1) (ty := .int) (C := "WidthCampaignsModel") (T := wx_TM) (N' := 29) hx hb hts wi_M wx_tM wx_toM wx_nM hown hK hP hD hS 71 (by decide) (fun _ => rfl) rfl 0 (by decide) wt_630 (fun _ h9 => h9) rfl (by decide +kernel) rfl rfl (Nat.le_of_ble_eq_true rfl) rfl wd_M_change_31 (fun σ8 H locs eσ8 hP hD hS => ?_)
    have hf := wc_st_e eσ8 hf
    refine lv_aload_n hx hb wd_M_change_34 rfl (lv_at hl 0 rfl) ?_
    refine wx_get (v := .int (σ8 71 0)) (C := "WidthCampaignsModel") (T := wx_TM) (N' := 29) hx hb hts wi_M hown hK hP 71 (by decide) rfl rfl 0 (by decide) wt_630 (fun _ h9 => h9) rfl wd_M_change_35 ?_
    refine lv_topi (fun v9 ev9 => ?_)
    have hf := wc_st_e ev9 hf
    refine lv_if_le (tgt := 43) hx hb wd_M_change_38 (by decide) (fun c10 => ?_) (fun c10 => ?_)
    · have hf := wc_t c10 hf
      refine lv_aload_n hx hb wd_M_change_43 rfl (lv_at hl 0 rfl) ?_
      refine lv_aload_n hx hb wd_M_change_44 rfl (lv_at hl 0 rfl) ?_
      refine wx_get (v := .ref (ad 85)) (C := "WidthCampaignsModel") (T := wx_TM) (N' := 29) hx hb hts wi_M hown hK hP 71 (by decide) rfl rfl 23 (by decide) wt_653 (fun _ h9 => h9) rfl wd_M_change_45 ?_
      refine lv_aload_n hx hb wd_M_change_48 rfl (lv_at hl 0 rfl) ?_
      refine wx_get (v := .int (σ8 71 1)) (C := "WidthCampaignsModel") (T := wx_TM) (N' := 29) hx hb hts wi_M hown hK hP 71 (by decide) rfl rfl 1 (by decide) wt_631 (fun _ h9 => h9) rfl wd_M_change_49 ?_
      refine lv_topi (fun v11 ev11 => ?_)
      have hf := wc_st_e ev11 hf
      obtain ⟨σ12, hq, hf⟩ := wc_b1_e hf
      refine wx_callv (va_runV (As := [.ref (ad 85), .int v11]) (rest := []) ⟨hx, hb, hml, hown, hts⟩ (wm_M_reckon l D ad cI cZ cJ cG _ 85 (Or.inl rfl) v11 σ8 _ hq) (wx_cwV 2 hts wt_785 wt_784 wp_39 wt_7 wt_782 wh_M_reckon rfl rfl ⟨Nat.le_of_ble_eq_true rfl, Nat.le_of_ble_eq_true rfl⟩) (wx_preV hK hP hD hS hA hC (by decide) rfl rfl) rfl rfl hl.1 rfl (lv_room (Nat.le_of_ble_eq_true rfl)) wd_M_change_52 ⟨Nat.le_of_ble_eq_true rfl, Nat.le_of_ble_eq_true rfl⟩) hD hS hA (fun H locs hP hD hS => ?_)
      refine lv_aload_n hx hb wd_M_change_55 rfl (lv_at hl 0 rfl) ?_
      refine wx_get (v := .ref (ad 87)) (C := "WidthCampaignsModel") (T := wx_TM) (N' := 29) hx hb hts wi_M hown hK hP 71 (by decide) rfl rfl 28 (by decide) wt_658 (fun _ h9 => h9) rfl wd_M_change_56 ?_
      refine lv_iload_n hx hb wd_M_change_59 rfl (lv_at hl 1 rfl) ?_
      obtain ⟨h13, hf⟩ := wc_gd_e hf
      refine wx_zald hx hb hK hP 87 (n := 9) (by decide) rfl (wc_in_e h13) wd_M_change_60 ?_
      refine lv_topi (fun v14 ev14 => ?_)
      have hf := wc_st_e ev14 hf
      obtain ⟨h15, hf⟩ := wc_gd_e hf
      exact wx_zret hx hb hr (wc_z_e h15) hlocks hf hP hS wd_M_change_61
    · have hf := wc_f c10 hf
      refine lv_iconst (v := 0) hx hb wd_M_change_41 (by decide) ?_
      exact wx_zret hx hb hr narrow_b0 hlocks hf hP hS wd_M_change_42
  unfold wf_M_change at hf
  refine lv_aload_n hx hb wd_M_change_0 rfl (lv_at hl 0 rfl) ?_
  refine lv_aload_n hx hb wd_M_change_1 rfl (lv_at hl 0 rfl) ?_
  refine wx_get (v := .int (σ 71 22)) (C := "WidthCampaignsModel") (T := wx_TM) (N' := 29) hx hb hts wi_M hown hK hP 71 (by decide) rfl rfl 22 (by decide) wt_652 (fun _ h9 => h9) rfl wd_M_change_2 ?_
  refine lv_topi (fun v1 ev1 => ?_)
  have hf := wc_st_e ev1 hf
  refine lv_if_ne (tgt := 12) hx hb wd_M_change_5 (by decide) (fun c2 => ?_) (fun c2 => ?_)
  · have hf := wc_f c2 hf
    refine lv_iload_n hx hb wd_M_change_12 rfl (lv_at hl 1 rfl) ?_
    refine lv_iconst (v := 0) hx hb wd_M_change_13 (by decide) ?_
    refine lv_aload_n hx hb wd_M_change_14 rfl (lv_at hl 0 rfl) ?_
    refine wx_get (v := .int (σ 71 1)) (C := "WidthCampaignsModel") (T := wx_TM) (N' := 29) hx hb hts wi_M hown hK hP 71 (by decide) rfl rfl 1 (by decide) wt_631 (fun _ h9 => h9) rfl wd_M_change_15 ?_
    refine lv_topi (fun v3 ev3 => ?_)
    have hf := wc_st_e ev3 hf
    refine lv_iconst (v := 1) hx hb wd_M_change_18 (by decide) ?_
    refine lv_isub hx hb wd_M_change_19 ?_
    refine lv_topi (fun v4 ev4 => ?_)
    have hf := wc_st_e ev4 hf
    obtain ⟨r6, σ5, hq, hf⟩ := wc_b2_e hf
    refine wx_calli (va_runS (As := [.int a1, .int 0, .int v4]) (rest := [.ref (ad 71)]) ⟨hx, hb, hml, hown, hts⟩ (wm_M_in l D ad cI cZ cJ cG _ a1 0 v4 σ _ hq) (wx_cwS 3 hts wt_728 wt_727 wt_7 wt_726 wh_M_in rfl rfl ⟨Nat.le_of_ble_eq_true rfl, Nat.le_of_ble_eq_true rfl⟩) (wx_preS hK hP hD hS hA hC) rfl rfl hl.1 rfl (lv_room (Nat.le_of_ble_eq_true rfl)) wd_M_change_20 ⟨Nat.le_of_ble_eq_true rfl, Nat.le_of_ble_eq_true rfl⟩) hD hS hA (fun H locs hP hD hS => ?_)
    refine lv_if_ne (tgt := 30) hx hb wd_M_change_23 (by decide) (fun c7 => ?_) (fun c7 => ?_)
    · have hf := wc_f c7 hf
      refine lv_iconst (v := 0) hx hb wd_M_change_30 (by decide) ?_
      exact J31 a1 0 σ5 hf _ _ _ hP hD hS (lv_sub hl [0, 1] rfl)
    · have hf := wc_t c7 hf
      refine lv_iconst (v := 1) hx hb wd_M_change_26 (by decide) ?_
      refine lv_goto (tgt := 31) hx hb wd_M_change_27 (by decide) ?_
      exact J31 a1 1 σ5 hf _ _ _ hP hD hS (lv_sub hl [0, 1] rfl)
  · have hf := wc_t c2 hf
    refine lv_iconst (v := 2) hx hb wd_M_change_8 (by decide) ?_
    refine lv_goto (tgt := 31) hx hb wd_M_change_9 (by decide) ?_
    exact J31 a1 2 σ hf _ _ _ hP hD hS (lv_sub hl [0, 1] rfl)
set_option maxHeartbeats 4000000 in
set_option maxRecDepth 100000 in
theorem wm_M_jump (l : Launch) (D : va_G) (ad : Nat → Nat) (cI cZ cJ cG : ClassId) (sz : Nat) (a1 : Int32) (a2 : Int32) (σ : wc_S) (res : Int32 × wc_S) (hf : wf_M_jump a1 a2 σ = some res) : Met l wy_M_jump (wx_ws_M_jump) ({ frames := 2, cells := 0, slots := 0, locals := 48 }) (va_Pc [.ref (ad 71), .int a1, .int a2] (wx_pre D ad cI cZ cJ cG σ sz)) (wx_Qi D ad cI cZ cJ cG res (va_A (wx_W ad cI cZ cJ cG σ) sz)) 0 0 (va_A (wx_W ad cI cZ cJ cG σ) sz) := by
  refine wx_ofW (cc := prog_8_method_24_code) (maxL := 3) (ret := (some .int)) (Qc := fun A => wx_Qi D ad cI cZ cJ cG res A) [.ref (ad 71), .int a1, .int a2] (by decide) rfl (Nat.le_of_ble_eq_true rfl) ?_
  intro p e s m args below meth c A ls hin hl
  obtain ⟨hx, hb, hr, hts, hown, hlocks, hml, hA, hP, hK, hD, hC, hN, hS⟩ := hin
  have hl : lv_has ls 3 [(0, .ref (ad 71)), (1, .int a1), (2, .int a2)] := hl
  have J27 : ∀ (x1 : Int32) (x2 : Int32) (s1 : Int32) (σ : wc_S), wf_M_jump_27 x1 x2 s1 σ = some res → wx_Arr p l e ({ frames := 2, cells := 0, slots := 0, locals := 48 }) s m args below meth c D ad cI cZ cJ cG A (MQ below (wx_Qi D ad cI cZ cJ cG res A) args s 0 0 A) 3 0 0 27 [(0, .ref (ad 71)), (1, .int x1), (2, .int x2)] [.int s1, .ref (ad 71)] σ := by
    intro  x1 x2 s1 σ hf H locs ls hP hD hS hl
    unfold wf_M_jump_27 at hf
    refine lv_iconst (v := 1) hx hb wd_M_jump_27 (by decide) ?_
    refine lv_iconst (v := 1) hx hb wd_M_jump_28 (by decide) ?_
    obtain ⟨r5, σ4, hq, hf⟩ := wc_b2_e hf
    refine wx_calli (va_runV (As := [.int s1, .int 1, .int 1]) (rest := []) ⟨hx, hb, hml, hown, hts⟩ (wm_M_goes l D ad cI cZ cJ cG _ s1 1 1 σ _ hq) (wx_cwV 3 hts wt_732 wt_731 wp_32 wt_7 wt_729 wh_M_goes rfl rfl ⟨Nat.le_of_ble_eq_true rfl, Nat.le_of_ble_eq_true rfl⟩) (wx_preV hK hP hD hS hA hC (by decide) rfl rfl) rfl rfl hl.1 rfl (lv_room (Nat.le_of_ble_eq_true rfl)) wd_M_jump_29 ⟨Nat.le_of_ble_eq_true rfl, Nat.le_of_ble_eq_true rfl⟩) hD hS hA (fun H locs hP hD hS => ?_)
    refine lv_if_ne (tgt := 37) hx hb wd_M_jump_32 (by decide) (fun c6 => ?_) (fun c6 => ?_)
    · have hf := wc_f c6 hf
      refine lv_aload_n hx hb wd_M_jump_37 rfl (lv_at hl 0 rfl) ?_
      refine lv_iload_n hx hb wd_M_jump_38 rfl (lv_at hl 1 rfl) ?_
      refine lv_iload_n hx hb wd_M_jump_39 rfl (lv_at hl 2 rfl) ?_
      obtain ⟨r8, σ7, hq, hf⟩ := wc_b2_e hf
      refine wx_calli (va_runV (As := [.int x1, .int x2]) (rest := []) ⟨hx, hb, hml, hown, hts⟩ (wm_M_jumpOf l D ad cI cZ cJ cG _ x1 x2 σ4 _ hq) (wx_cwV 2 hts wt_777 wt_776 wp_37 wt_7 wt_774 wh_M_jumpOf rfl rfl ⟨Nat.le_of_ble_eq_true rfl, Nat.le_of_ble_eq_true rfl⟩) (wx_preV hK hP hD hS hA hC (by decide) rfl rfl) rfl rfl hl.1 rfl (lv_room (Nat.le_of_ble_eq_true rfl)) wd_M_jump_40 ⟨Nat.le_of_ble_eq_true rfl, Nat.le_of_ble_eq_true rfl⟩) hD hS hA (fun H locs hP hD hS => ?_)
      exact wx_iret hx hb hr hlocks hf hP hS wd_M_jump_43
    · have hf := wc_t c6 hf
      refine lv_iconst (v := 0) hx hb wd_M_jump_35 (by decide) ?_
      exact wx_iret hx hb hr hlocks hf hP hS wd_M_jump_36
  have J26 : ∀ (x1 : Int32) (x2 : Int32) (σ : wc_S), wf_M_jump_26 x1 x2 σ = some res → wx_Arr p l e ({ frames := 2, cells := 0, slots := 0, locals := 48 }) s m args below meth c D ad cI cZ cJ cG A (MQ below (wx_Qi D ad cI cZ cJ cG res A) args s 0 0 A) 3 0 0 26 [(0, .ref (ad 71)), (1, .int x1), (2, .int x2)] [.ref (ad 71)] σ := by
    intro  x1 x2 σ hf H locs ls hP hD hS hl
    unfold wf_M_jump_26 at hf
    refine lv_iconst (v := 0) hx hb wd_M_jump_26 (by decide) ?_
    exact J27 x1 x2 0 σ hf _ _ _ hP hD hS (lv_sub hl [0, 1, 2] rfl)
  unfold wf_M_jump at hf
  refine lv_aload_n hx hb wd_M_jump_0 rfl (lv_at hl 0 rfl) ?_
  refine lv_aload_n hx hb wd_M_jump_1 rfl (lv_at hl 0 rfl) ?_
  refine lv_iload_n hx hb wd_M_jump_2 rfl (lv_at hl 1 rfl) ?_
  obtain ⟨r2, σ1, hq, hf⟩ := wc_b2_e hf
  refine wx_calli (va_runV (As := [.int a1]) (rest := [.ref (ad 71)]) ⟨hx, hb, hml, hown, hts⟩ (wm_M_isCoil l D ad cI cZ cJ cG _ a1 σ _ hq) (wx_cwV 1 hts wt_752 wt_751 wp_34 wt_7 wt_749 wh_M_isCoil rfl rfl ⟨Nat.le_of_ble_eq_true rfl, Nat.le_of_ble_eq_true rfl⟩) (wx_preV hK hP hD hS hA hC (by decide) rfl rfl) rfl rfl hl.1 rfl (lv_room (Nat.le_of_ble_eq_true rfl)) wd_M_jump_3 ⟨Nat.le_of_ble_eq_true rfl, Nat.le_of_ble_eq_true rfl⟩) hD hS hA (fun H locs hP hD hS => ?_)
  refine lv_if_eq (tgt := 26) hx hb wd_M_jump_6 (by decide) (fun c3 => ?_) (fun c3 => ?_)
  · have hf := wc_t c3 hf
    exact J26 a1 a2 σ1 hf _ _ _ hP hD hS (lv_sub hl [0, 1, 2] rfl)
  · have hf := wc_f c3 hf
    refine lv_aload_n hx hb wd_M_jump_9 rfl (lv_at hl 0 rfl) ?_
    refine lv_iload_n hx hb wd_M_jump_10 rfl (lv_at hl 2 rfl) ?_
    obtain ⟨r10, σ9, hq, hf⟩ := wc_b2_e hf
    refine wx_calli (va_runV (As := [.int a2]) (rest := [.ref (ad 71)]) ⟨hx, hb, hml, hown, hts⟩ (wm_M_isCoil l D ad cI cZ cJ cG _ a2 σ1 _ hq) (wx_cwV 1 hts wt_752 wt_751 wp_34 wt_7 wt_749 wh_M_isCoil rfl rfl ⟨Nat.le_of_ble_eq_true rfl, Nat.le_of_ble_eq_true rfl⟩) (wx_preV hK hP hD hS hA hC (by decide) rfl rfl) rfl rfl hl.1 rfl (lv_room (Nat.le_of_ble_eq_true rfl)) wd_M_jump_11 ⟨Nat.le_of_ble_eq_true rfl, Nat.le_of_ble_eq_true rfl⟩) hD hS hA (fun H locs hP hD hS => ?_)
    refine lv_if_eq (tgt := 26) hx hb wd_M_jump_14 (by decide) (fun c11 => ?_) (fun c11 => ?_)
    · have hf := wc_t c11 hf
      exact J26 a1 a2 σ9 hf _ _ _ hP hD hS (lv_sub hl [0, 1, 2] rfl)
    · have hf := wc_f c11 hf
      refine lv_iload_n hx hb wd_M_jump_17 rfl (lv_at hl 1 rfl) ?_
      refine lv_iload_n hx hb wd_M_jump_18 rfl (lv_at hl 2 rfl) ?_
      refine lv_icmp_eq (tgt := 26) hx hb wd_M_jump_19 (by decide) (fun c12 => ?_) (fun c12 => ?_)
      · have hf := wc_t c12 hf
        exact J26 a1 a2 σ9 hf _ _ _ hP hD hS (lv_sub hl [0, 1, 2] rfl)
      · have hf := wc_f c12 hf
        refine lv_iconst (v := 1) hx hb wd_M_jump_22 (by decide) ?_
        refine lv_goto (tgt := 27) hx hb wd_M_jump_23 (by decide) ?_
        exact J27 a1 a2 1 σ9 hf _ _ _ hP hD hS (lv_sub hl [0, 1, 2] rfl)
set_option maxHeartbeats 4000000 in
set_option maxRecDepth 100000 in
theorem wm_M_bound (l : Launch) (D : va_G) (ad : Nat → Nat) (cI cZ cJ cG : ClassId) (sz : Nat) (σ : wc_S) (res : Int32 × wc_S) (hf : wf_M_bound  σ = some res) : Met l wy_M_bound (wx_ws_M_bound) ({ frames := 2, cells := 0, slots := 0, locals := 48 }) (va_Pc [.ref (ad 71)] (wx_pre D ad cI cZ cJ cG σ sz)) (wx_Qi D ad cI cZ cJ cG res (va_A (wx_W ad cI cZ cJ cG σ) sz)) 0 0 (va_A (wx_W ad cI cZ cJ cG σ) sz) := by
  refine wx_ofW (cc := prog_8_method_25_code) (maxL := 7) (ret := (some .int)) (Qc := fun A => wx_Qi D ad cI cZ cJ cG res A) [.ref (ad 71)] (by decide) rfl (Nat.le_of_ble_eq_true rfl) ?_
  intro p e s m args below meth c A ls hin hl
  obtain ⟨hx, hb, hr, hts, hown, hlocks, hml, hA, hP, hK, hD, hC, hN, hS⟩ := hin
  have hl : lv_has ls 7 [(0, .ref (ad 71))] := hl
  have J101 : ∀ (k11 : Int32 → Int32 → Int32 → wc_S → Option (Int32 × wc_S)) (hk11 : (∀ (x1 : Int32) (x2 : Int32) (x3 : Int32) (σ : wc_S), k11 x1 x2 x3 σ = some res → wx_Arr p l e ({ frames := 2, cells := 0, slots := 0, locals := 48 }) s m args below meth c D ad cI cZ cJ cG A (MQ below (wx_Qi D ad cI cZ cJ cG res A) args s 0 0 A) 7 0 0 11 [(0, .ref (ad 71)), (1, .int x1), (2, .int x2), (3, .int x3)] [] σ)) (x1 : Int32) (x2 : Int32) (x3 : Int32) (σ : wc_S), wf_M_bound_101 k11 x1 x2 x3 σ = some res → wx_Arr p l e ({ frames := 2, cells := 0, slots := 0, locals := 48 }) s m args below meth c D ad cI cZ cJ cG A (MQ below (wx_Qi D ad cI cZ cJ cG res A) args s 0 0 A) 7 0 0 101 [(0, .ref (ad 71)), (1, .int x1), (2, .int x2), (3, .int x3)] [] σ := by
    intro k11 hk11 x1 x2 x3 σ hf H locs ls hP hD hS hl
    unfold wf_M_bound_101 at hf
    obtain ⟨v10, ev10⟩ : ∃ y : Int32, y = x3 + 1 := ⟨_, rfl⟩
    have hf := wc_st_e ev10 hf
    refine lv_iinc (v := v10) (lv' := [(3, .int v10), (0, .ref (ad 71)), (1, .int x1), (2, .int x2)]) hx hb wd_M_bound_101 hl (k := 3) rfl (by rw [ev10]; rfl) (by decide) rfl (fun ls hl => ?_)
    refine lv_goto (tgt := 11) hx hb wd_M_bound_104 (by decide) ?_
    exact hk11 x1 x2 v10 σ hf _ _ _ hP hD hS (lv_sub hl [1, 2, 3, 0] rfl)
  have J87 : ∀ (k11 : Int32 → Int32 → Int32 → wc_S → Option (Int32 × wc_S)) (hk11 : (∀ (x1 : Int32) (x2 : Int32) (x3 : Int32) (σ : wc_S), k11 x1 x2 x3 σ = some res → wx_Arr p l e ({ frames := 2, cells := 0, slots := 0, locals := 48 }) s m args below meth c D ad cI cZ cJ cG A (MQ below (wx_Qi D ad cI cZ cJ cG res A) args s 0 0 A) 7 0 0 11 [(0, .ref (ad 71)), (1, .int x1), (2, .int x2), (3, .int x3)] [] σ)) (x1 : Int32) (x2 : Int32) (x3 : Int32) (x4 : Int32) (σ : wc_S), wf_M_bound_87 k11 x1 x2 x3 x4 σ = some res → wx_Arr p l e ({ frames := 2, cells := 0, slots := 0, locals := 48 }) s m args below meth c D ad cI cZ cJ cG A (MQ below (wx_Qi D ad cI cZ cJ cG res A) args s 0 0 A) 7 0 0 87 [(0, .ref (ad 71)), (1, .int x1), (2, .int x2), (3, .int x3), (4, .int x4)] [] σ := by
    intro k11 hk11 x1 x2 x3 x4 σ hf H locs ls hP hD hS hl
    unfold wf_M_bound_87 at hf
    refine lv_iload_n hx hb wd_M_bound_87 rfl (lv_at hl 1 rfl) ?_
    refine lv_iload hx hb wd_M_bound_88 (lv_at hl 4 rfl) ?_
    refine lv_iadd hx hb wd_M_bound_90 ?_
    refine lv_topi (fun v8 ev8 => ?_)
    have hf := wc_st_e ev8 hf
    refine lv_istore_n (lv' := [(1, .int v8), (0, .ref (ad 71)), (2, .int x2), (3, .int x3), (4, .int x4)]) hx hb wd_M_bound_91 rfl hl (by decide) rfl (fun ls hl => ?_)
    refine lv_iload hx hb wd_M_bound_92 (lv_at hl 4 rfl) ?_
    refine lv_iload_n hx hb wd_M_bound_94 rfl (lv_at hl 2 rfl) ?_
    refine lv_icmp_le (tgt := 101) hx hb wd_M_bound_95 (by decide) (fun c9 => ?_) (fun c9 => ?_)
    · have hf := wc_t c9 hf
      exact J101 k11 hk11 v8 x2 x3 σ hf _ _ _ hP hD hS (lv_sub hl [1, 0, 2, 3] rfl)
    · have hf := wc_f c9 hf
      refine lv_iload hx hb wd_M_bound_98 (lv_at hl 4 rfl) ?_
      refine lv_istore_n (lv' := [(2, .int x4), (1, .int v8), (0, .ref (ad 71)), (3, .int x3), (4, .int x4)]) hx hb wd_M_bound_100 rfl hl (by decide) rfl (fun ls hl => ?_)
      exact J101 k11 hk11 v8 x4 x3 σ hf _ _ _ hP hD hS (lv_sub hl [2, 1, 0, 3] rfl)
  have J73 : ∀ (k11 : Int32 → Int32 → Int32 → wc_S → Option (Int32 × wc_S)) (hk11 : (∀ (x1 : Int32) (x2 : Int32) (x3 : Int32) (σ : wc_S), k11 x1 x2 x3 σ = some res → wx_Arr p l e ({ frames := 2, cells := 0, slots := 0, locals := 48 }) s m args below meth c D ad cI cZ cJ cG A (MQ below (wx_Qi D ad cI cZ cJ cG res A) args s 0 0 A) 7 0 0 11 [(0, .ref (ad 71)), (1, .int x1), (2, .int x2), (3, .int x3)] [] σ)) (k25 : Int32 → Int32 → Int32 → Int32 → Int32 → wc_S → Option (Int32 × wc_S)) (hk25 : (∀ (x1 : Int32) (x2 : Int32) (x3 : Int32) (x4 : Int32) (x5 : Int32) (σ : wc_S), k25 x1 x2 x3 x4 x5 σ = some res → wx_Arr p l e ({ frames := 2, cells := 0, slots := 0, locals := 48 }) s m args below meth c D ad cI cZ cJ cG A (MQ below (wx_Qi D ad cI cZ cJ cG res A) args s 0 0 A) 7 0 0 25 [(0, .ref (ad 71)), (1, .int x1), (2, .int x2), (3, .int x3), (4, .int x4), (5, .int x5)] [] σ)) (x1 : Int32) (x2 : Int32) (x3 : Int32) (x4 : Int32) (x5 : Int32) (σ : wc_S), wf_M_bound_73 k11 k25 x1 x2 x3 x4 x5 σ = some res → wx_Arr p l e ({ frames := 2, cells := 0, slots := 0, locals := 48 }) s m args below meth c D ad cI cZ cJ cG A (MQ below (wx_Qi D ad cI cZ cJ cG res A) args s 0 0 A) 7 0 0 73 [(0, .ref (ad 71)), (1, .int x1), (2, .int x2), (3, .int x3), (4, .int x4), (5, .int x5)] [] σ := by
    intro k11 hk11 k25 hk25 x1 x2 x3 x4 x5 σ hf H locs ls hP hD hS hl
    unfold wf_M_bound_73 at hf
    obtain ⟨v15, ev15⟩ : ∃ y : Int32, y = x5 + 1 := ⟨_, rfl⟩
    have hf := wc_st_e ev15 hf
    refine lv_iinc (v := v15) (lv' := [(5, .int v15), (0, .ref (ad 71)), (1, .int x1), (2, .int x2), (3, .int x3), (4, .int x4)]) hx hb wd_M_bound_73 hl (k := 5) rfl (by rw [ev15]; rfl) (by decide) rfl (fun ls hl => ?_)
    refine lv_goto (tgt := 25) hx hb wd_M_bound_76 (by decide) ?_
    exact hk25 x1 x2 x3 x4 v15 σ hf _ _ _ hP hD hS (lv_sub hl [1, 2, 3, 4, 5, 0] rfl)
  have J69 : ∀ (k11 : Int32 → Int32 → Int32 → wc_S → Option (Int32 × wc_S)) (hk11 : (∀ (x1 : Int32) (x2 : Int32) (x3 : Int32) (σ : wc_S), k11 x1 x2 x3 σ = some res → wx_Arr p l e ({ frames := 2, cells := 0, slots := 0, locals := 48 }) s m args below meth c D ad cI cZ cJ cG A (MQ below (wx_Qi D ad cI cZ cJ cG res A) args s 0 0 A) 7 0 0 11 [(0, .ref (ad 71)), (1, .int x1), (2, .int x2), (3, .int x3)] [] σ)) (k25 : Int32 → Int32 → Int32 → Int32 → Int32 → wc_S → Option (Int32 × wc_S)) (hk25 : (∀ (x1 : Int32) (x2 : Int32) (x3 : Int32) (x4 : Int32) (x5 : Int32) (σ : wc_S), k25 x1 x2 x3 x4 x5 σ = some res → wx_Arr p l e ({ frames := 2, cells := 0, slots := 0, locals := 48 }) s m args below meth c D ad cI cZ cJ cG A (MQ below (wx_Qi D ad cI cZ cJ cG res A) args s 0 0 A) 7 0 0 25 [(0, .ref (ad 71)), (1, .int x1), (2, .int x2), (3, .int x3), (4, .int x4), (5, .int x5)] [] σ)) (x1 : Int32) (x2 : Int32) (x3 : Int32) (x5 : Int32) (x6 : Int32) (σ : wc_S), wf_M_bound_69 k11 k25 x1 x2 x3 x5 x6 σ = some res → wx_Arr p l e ({ frames := 2, cells := 0, slots := 0, locals := 48 }) s m args below meth c D ad cI cZ cJ cG A (MQ below (wx_Qi D ad cI cZ cJ cG res A) args s 0 0 A) 7 0 0 69 [(0, .ref (ad 71)), (1, .int x1), (2, .int x2), (3, .int x3), (5, .int x5), (6, .int x6)] [] σ := by
    intro k11 hk11 k25 hk25 x1 x2 x3 x5 x6 σ hf H locs ls hP hD hS hl
    unfold wf_M_bound_69 at hf
    refine lv_iload hx hb wd_M_bound_69 (lv_at hl 5 rfl) ?_
    refine lv_istore (lv' := [(4, .int x6), (0, .ref (ad 71)), (1, .int x1), (2, .int x2), (3, .int x3), (5, .int x5), (6, .int x6)]) hx hb wd_M_bound_71 hl (by decide) rfl (fun ls hl => ?_)
    exact J73 k11 hk11 k25 hk25 x1 x2 x3 x6 x5 σ hf _ _ _ hP hD hS (lv_sub hl [1, 2, 3, 4, 0, 5] rfl)
  have J25 : ∀ (k11 : Int32 → Int32 → Int32 → wc_S → Option (Int32 × wc_S)) (hk11 : (∀ (x1 : Int32) (x2 : Int32) (x3 : Int32) (σ : wc_S), k11 x1 x2 x3 σ = some res → wx_Arr p l e ({ frames := 2, cells := 0, slots := 0, locals := 48 }) s m args below meth c D ad cI cZ cJ cG A (MQ below (wx_Qi D ad cI cZ cJ cG res A) args s 0 0 A) 7 0 0 11 [(0, .ref (ad 71)), (1, .int x1), (2, .int x2), (3, .int x3)] [] σ)) (n : Nat) (x1 : Int32) (x2 : Int32) (x3 : Int32) (x4 : Int32) (x5 : Int32) (σ : wc_S), wf_M_bound_25 k11 n x1 x2 x3 x4 x5 σ = some res → wx_Arr p l e ({ frames := 2, cells := 0, slots := 0, locals := 48 }) s m args below meth c D ad cI cZ cJ cG A (MQ below (wx_Qi D ad cI cZ cJ cG res A) args s 0 0 A) 7 0 0 25 [(0, .ref (ad 71)), (1, .int x1), (2, .int x2), (3, .int x3), (4, .int x4), (5, .int x5)] [] σ := by
    intro k11 hk11 n
    induction n with
    | zero => intro x1 x2 x3 x4 x5 σ hf; exact absurd hf (by intro h9; cases h9)
    | succ n hk25 =>
      intro x1 x2 x3 x4 x5 σ hf H locs ls hP hD hS hl
      have hf : wf_M_bound_25_b k11 (wf_M_bound_25 k11 n) x1 x2 x3 x4 x5 σ = some res := hf
      unfold wf_M_bound_25_b at hf
      refine lv_iload hx hb wd_M_bound_25 (lv_at hl 5 rfl) ?_
      refine lv_aload_n hx hb wd_M_bound_27 rfl (lv_at hl 0 rfl) ?_
      refine wx_get (v := .int (σ 71 1)) (C := "WidthCampaignsModel") (T := wx_TM) (N' := 29) hx hb hts wi_M hown hK hP 71 (by decide) rfl rfl 1 (by decide) wt_631 (fun _ h9 => h9) rfl wd_M_bound_28 ?_
      refine lv_topi (fun v5 ev5 => ?_)
      have hf := wc_st_e ev5 hf
      refine lv_icmp_ge (tgt := 79) hx hb wd_M_bound_31 (by decide) (fun c6 => ?_) (fun c6 => ?_)
      · have hf := wc_t c6 hf
        refine lv_iload hx hb wd_M_bound_79 (lv_at hl 4 rfl) ?_
        refine lv_if_ge (tgt := 87) hx hb wd_M_bound_81 (by decide) (fun c7 => ?_) (fun c7 => ?_)
        · have hf := wc_t c7 hf
          exact J87 k11 hk11 x1 x2 x3 x4 σ hf _ _ _ hP hD hS (lv_sub hl [0, 1, 2, 3, 4] rfl)
        · have hf := wc_f c7 hf
          refine lv_iconst (v := 0) hx hb wd_M_bound_84 (by decide) ?_
          refine lv_istore (lv' := [(4, .int 0), (0, .ref (ad 71)), (1, .int x1), (2, .int x2), (3, .int x3), (5, .int x5)]) hx hb wd_M_bound_85 hl (by decide) rfl (fun ls hl => ?_)
          exact J87 k11 hk11 x1 x2 x3 0 σ hf _ _ _ hP hD hS (lv_sub hl [1, 2, 3, 4, 0] rfl)
      · have hf := wc_f c6 hf
        refine lv_iload hx hb wd_M_bound_34 (lv_at hl 5 rfl) ?_
        refine lv_iload_n hx hb wd_M_bound_36 rfl (lv_at hl 3 rfl) ?_
        refine lv_icmp_ne (tgt := 43) hx hb wd_M_bound_37 (by decide) (fun c11 => ?_) (fun c11 => ?_)
        · have hf := wc_f c11 hf
          refine lv_aload_n hx hb wd_M_bound_43 rfl (lv_at hl 0 rfl) ?_
          refine lv_iload hx hb wd_M_bound_44 (lv_at hl 5 rfl) ?_
          refine lv_iload_n hx hb wd_M_bound_46 rfl (lv_at hl 3 rfl) ?_
          obtain ⟨r13, σ12, hq, hf⟩ := wc_b2_e hf
          refine wx_calli (va_runV (As := [.int x5, .int x3]) (rest := []) ⟨hx, hb, hml, hown, hts⟩ (wm_M_jumpOf l D ad cI cZ cJ cG _ x5 x3 σ _ hq) (wx_cwV 2 hts wt_777 wt_776 wp_37 wt_7 wt_774 wh_M_jumpOf rfl rfl ⟨Nat.le_of_ble_eq_true rfl, Nat.le_of_ble_eq_true rfl⟩) (wx_preV hK hP hD hS hA hC (by decide) rfl rfl) rfl rfl hl.1 rfl (lv_room (Nat.le_of_ble_eq_true rfl)) wd_M_bound_47 ⟨Nat.le_of_ble_eq_true rfl, Nat.le_of_ble_eq_true rfl⟩) hD hS hA (fun H locs hP hD hS => ?_)
          refine lv_istore (lv' := [(6, .int r13), (0, .ref (ad 71)), (1, .int x1), (2, .int x2), (3, .int x3), (4, .int x4), (5, .int x5)]) hx hb wd_M_bound_50 hl (by decide) rfl (fun ls hl => ?_)
          refine lv_iload hx hb wd_M_bound_52 (lv_at hl 0 rfl) ?_
          refine lv_if_lt (tgt := 73) hx hb wd_M_bound_54 (by decide) (fun c14 => ?_) (fun c14 => ?_)
          · have hf := wc_t c14 hf
            exact J73 k11 hk11 (wf_M_bound_25 k11 n) hk25 x1 x2 x3 x4 x5 σ12 hf _ _ _ hP hD hS (lv_sub hl [1, 2, 3, 4, 5, 6] rfl)
          · have hf := wc_f c14 hf
            refine lv_iload hx hb wd_M_bound_57 (lv_at hl 5 rfl) ?_
            refine lv_if_lt (tgt := 69) hx hb wd_M_bound_59 (by decide) (fun c16 => ?_) (fun c16 => ?_)
            · have hf := wc_t c16 hf
              exact J69 k11 hk11 (wf_M_bound_25 k11 n) hk25 x1 x2 x3 x5 r13 σ12 hf _ _ _ hP hD hS (lv_sub hl [1, 2, 3, 4, 6, 0] rfl)
            · have hf := wc_f c16 hf
              refine lv_iload hx hb wd_M_bound_62 (lv_at hl 0 rfl) ?_
              refine lv_iload hx hb wd_M_bound_64 (lv_at hl 5 rfl) ?_
              refine lv_icmp_ge (tgt := 73) hx hb wd_M_bound_66 (by decide) (fun c17 => ?_) (fun c17 => ?_)
              · have hf := wc_t c17 hf
                exact J73 k11 hk11 (wf_M_bound_25 k11 n) hk25 x1 x2 x3 x4 x5 σ12 hf _ _ _ hP hD hS (lv_sub hl [1, 2, 3, 4, 5, 6] rfl)
              · have hf := wc_f c17 hf
                exact J69 k11 hk11 (wf_M_bound_25 k11 n) hk25 x1 x2 x3 x5 r13 σ12 hf _ _ _ hP hD hS (lv_sub hl [1, 2, 3, 4, 6, 0] rfl)
        · have hf := wc_t c11 hf
          refine lv_goto (tgt := 73) hx hb wd_M_bound_40 (by decide) ?_
          exact J73 k11 hk11 (wf_M_bound_25 k11 n) hk25 x1 x2 x3 x4 x5 σ hf _ _ _ hP hD hS (lv_sub hl [0, 1, 2, 3, 4, 5] rfl)
  have J11 : ∀ (n : Nat) (x1 : Int32) (x2 : Int32) (x3 : Int32) (σ : wc_S), wf_M_bound_11 n x1 x2 x3 σ = some res → wx_Arr p l e ({ frames := 2, cells := 0, slots := 0, locals := 48 }) s m args below meth c D ad cI cZ cJ cG A (MQ below (wx_Qi D ad cI cZ cJ cG res A) args s 0 0 A) 7 0 0 11 [(0, .ref (ad 71)), (1, .int x1), (2, .int x2), (3, .int x3)] [] σ := by
    intro  n
    induction n with
    | zero => intro x1 x2 x3 σ hf; exact absurd hf (by intro h9; cases h9)
    | succ n hk11 =>
      intro x1 x2 x3 σ hf H locs ls hP hD hS hl
      have hf : wf_M_bound_11_b (wf_M_bound_11 n) x1 x2 x3 σ = some res := hf
      unfold wf_M_bound_11_b at hf
      refine lv_iload_n hx hb wd_M_bound_11 rfl (lv_at hl 3 rfl) ?_
      refine lv_aload_n hx hb wd_M_bound_12 rfl (lv_at hl 0 rfl) ?_
      refine wx_get (v := .int (σ 71 1)) (C := "WidthCampaignsModel") (T := wx_TM) (N' := 29) hx hb hts wi_M hown hK hP 71 (by decide) rfl rfl 1 (by decide) wt_631 (fun _ h9 => h9) rfl wd_M_bound_13 ?_
      refine lv_topi (fun v2 ev2 => ?_)
      have hf := wc_st_e ev2 hf
      refine lv_icmp_ge (tgt := 107) hx hb wd_M_bound_16 (by decide) (fun c3 => ?_) (fun c3 => ?_)
      · have hf := wc_t c3 hf
        refine lv_iload_n hx hb wd_M_bound_107 rfl (lv_at hl 1 rfl) ?_
        refine lv_iload_n hx hb wd_M_bound_108 rfl (lv_at hl 2 rfl) ?_
        refine lv_isub hx hb wd_M_bound_109 ?_
        refine lv_topi (fun v4 ev4 => ?_)
        have hf := wc_st_e ev4 hf
        exact wx_iret hx hb hr hlocks hf hP hS wd_M_bound_110
      · have hf := wc_f c3 hf
        refine lv_iconst (v := (-1)) hx hb wd_M_bound_19 (by decide) ?_
        refine lv_istore (lv' := [(4, .int (-1)), (0, .ref (ad 71)), (1, .int x1), (2, .int x2), (3, .int x3)]) hx hb wd_M_bound_20 hl (by decide) rfl (fun ls hl => ?_)
        refine lv_iconst (v := 0) hx hb wd_M_bound_22 (by decide) ?_
        refine lv_istore (lv' := [(5, .int 0), (4, .int (-1)), (0, .ref (ad 71)), (1, .int x1), (2, .int x2), (3, .int x3)]) hx hb wd_M_bound_23 hl (by decide) rfl (fun ls hl => ?_)
        exact J25 (wf_M_bound_11 n) hk11 16 x1 x2 x3 (-1) 0 σ hf _ _ _ hP hD hS (lv_sub hl [2, 3, 4, 5, 1, 0] rfl)
  unfold wf_M_bound at hf
  refine lv_aload_n hx hb wd_M_bound_0 rfl (lv_at hl 0 rfl) ?_
  refine lv_iconst (v := 0) hx hb wd_M_bound_1 (by decide) ?_
  refine wx_put (x := 0) (ty := .int) (C := "WidthCampaignsModel") (T := wx_TM) (N' := 29) hx hb hts wi_M wx_tM wx_toM wx_nM hown hK hP hD hS 71 (by decide) (fun _ => rfl) rfl 0 (by decide) wt_630 (fun _ h9 => h9) rfl (by decide +kernel) rfl rfl (Nat.le_of_ble_eq_true rfl) rfl wd_M_bound_2 (fun σ1 H locs eσ1 hP hD hS => ?_)
  have hf := wc_st_e eσ1 hf
  refine lv_iconst (v := 0) hx hb wd_M_bound_5 (by decide) ?_
  refine lv_istore_n (lv' := [(1, .int 0), (0, .ref (ad 71))]) hx hb wd_M_bound_6 rfl hl (by decide) rfl (fun ls hl => ?_)
  refine lv_iconst (v := 0) hx hb wd_M_bound_7 (by decide) ?_
  refine lv_istore_n (lv' := [(2, .int 0), (1, .int 0), (0, .ref (ad 71))]) hx hb wd_M_bound_8 rfl hl (by decide) rfl (fun ls hl => ?_)
  refine lv_iconst (v := 0) hx hb wd_M_bound_9 (by decide) ?_
  refine lv_istore_n (lv' := [(3, .int 0), (2, .int 0), (1, .int 0), (0, .ref (ad 71))]) hx hb wd_M_bound_10 rfl hl (by decide) rfl (fun ls hl => ?_)
  exact J11 16 0 0 0 σ1 hf _ _ _ hP hD hS (lv_sub hl [3, 2, 1, 0] rfl)
set_option maxHeartbeats 4000000 in
set_option maxRecDepth 100000 in
theorem wm_M_isGood (l : Launch) (D : va_G) (ad : Nat → Nat) (cI cZ cJ cG : ClassId) (sz : Nat) (k1 : Nat) (hk1_ : k1 = 85 ∨ k1 = 86) (σ : wc_S) (res : Int32 × wc_S) (hf : wf_M_isGood k1 σ = some res) : Met l wy_M_isGood (wx_ws_M_isGood) ({ frames := 3, cells := 0, slots := 0, locals := 72 }) (va_Pc [.ref (ad 71), .ref (ad k1)] (wx_pre D ad cI cZ cJ cG σ sz)) (wx_Qi D ad cI cZ cJ cG res (va_A (wx_W ad cI cZ cJ cG σ) sz)) 0 0 (va_A (wx_W ad cI cZ cJ cG σ) sz) := by
  refine wx_ofW (cc := prog_8_method_26_code) (maxL := 3) (ret := (some .boolean)) (Qc := fun A => wx_Qi D ad cI cZ cJ cG res A) [.ref (ad 71), .ref (ad k1)] (by decide) rfl (Nat.le_of_ble_eq_true rfl) ?_
  intro p e s m args below meth c A ls hin hl
  obtain ⟨hx, hb, hr, hts, hown, hlocks, hml, hA, hP, hK, hD, hC, hN, hS⟩ := hin
  have hl : lv_has ls 3 [(0, .ref (ad 71)), (1, .ref (ad k1))] := hl
  have J2 : ∀ (n : Nat) (x2 : Int32) (σ : wc_S), wf_M_isGood_2 k1 n x2 σ = some res → wx_Arr p l e ({ frames := 3, cells := 0, slots := 0, locals := 72 }) s m args below meth c D ad cI cZ cJ cG A (MQ below (wx_Qi D ad cI cZ cJ cG res A) args s 0 0 A) 3 0 0 2 [(0, .ref (ad 71)), (1, .ref (ad k1)), (2, .int x2)] [] σ := by
    intro  n
    induction n with
    | zero => intro x2 σ hf; exact absurd hf (by intro h9; cases h9)
    | succ n hk2 =>
      intro x2 σ hf H locs ls hP hD hS hl
      have hf : wf_M_isGood_2_b k1 (wf_M_isGood_2 k1 n) x2 σ = some res := hf
      unfold wf_M_isGood_2_b at hf
      refine lv_iload_n hx hb wd_M_isGood_2 rfl (lv_at hl 2 rfl) ?_
      refine lv_aload_n hx hb wd_M_isGood_3 rfl (lv_at hl 0 rfl) ?_
      refine wx_get (v := .int (σ 71 1)) (C := "WidthCampaignsModel") (T := wx_TM) (N' := 29) hx hb hts wi_M hown hK hP 71 (by decide) rfl rfl 1 (by decide) wt_631 (fun _ h9 => h9) rfl wd_M_isGood_4 ?_
      refine lv_topi (fun v1 ev1 => ?_)
      have hf := wc_st_e ev1 hf
      refine lv_icmp_ge (tgt := 27) hx hb wd_M_isGood_7 (by decide) (fun c2 => ?_) (fun c2 => ?_)
      · have hf := wc_t c2 hf
        refine lv_iconst (v := 1) hx hb wd_M_isGood_27 (by decide) ?_
        exact wx_zret hx hb hr narrow_b1 hlocks hf hP hS wd_M_isGood_28
      · have hf := wc_f c2 hf
        refine lv_aload_n hx hb wd_M_isGood_10 rfl (lv_at hl 0 rfl) ?_
        refine lv_aload_n hx hb wd_M_isGood_11 rfl (lv_at hl 1 rfl) ?_
        refine lv_iload_n hx hb wd_M_isGood_12 rfl (lv_at hl 2 rfl) ?_
        obtain ⟨r4, σ3, hq, hf⟩ := wc_b2_e hf
        refine wx_calli (va_runV (As := [.ref (ad k1), .int x2]) (rest := []) ⟨hx, hb, hml, hown, hts⟩ (wm_M_mayBe l D ad cI cZ cJ cG _ k1 hk1_ x2 σ _ hq) (wx_cwV 2 hts wt_773 wt_772 wp_36 wt_7 wt_770 wh_M_mayBe rfl rfl ⟨Nat.le_of_ble_eq_true rfl, Nat.le_of_ble_eq_true rfl⟩) (wx_preV hK hP hD hS hA hC (by decide) rfl rfl) rfl rfl hl.1 rfl (lv_room (Nat.le_of_ble_eq_true rfl)) wd_M_isGood_13 ⟨Nat.le_of_ble_eq_true rfl, Nat.le_of_ble_eq_true rfl⟩) hD hS hA (fun H locs hP hD hS => ?_)
        refine lv_if_ne (tgt := 21) hx hb wd_M_isGood_16 (by decide) (fun c5 => ?_) (fun c5 => ?_)
        · have hf := wc_f c5 hf
          obtain ⟨v6, ev6⟩ : ∃ y : Int32, y = x2 + 1 := ⟨_, rfl⟩
          have hf := wc_st_e ev6 hf
          refine lv_iinc (v := v6) (lv' := [(2, .int v6), (0, .ref (ad 71)), (1, .ref (ad k1))]) hx hb wd_M_isGood_21 hl (k := 2) rfl (by rw [ev6]; rfl) (by decide) rfl (fun ls hl => ?_)
          refine lv_goto (tgt := 2) hx hb wd_M_isGood_24 (by decide) ?_
          exact hk2 v6 σ3 hf _ _ _ hP hD hS (lv_sub hl [1, 2, 0] rfl)
        · have hf := wc_t c5 hf
          refine lv_iconst (v := 0) hx hb wd_M_isGood_19 (by decide) ?_
          exact wx_zret hx hb hr narrow_b0 hlocks hf hP hS wd_M_isGood_20
  unfold wf_M_isGood at hf
  refine lv_iconst (v := 0) hx hb wd_M_isGood_0 (by decide) ?_
  refine lv_istore_n (lv' := [(2, .int 0), (0, .ref (ad 71)), (1, .ref (ad k1))]) hx hb wd_M_isGood_1 rfl hl (by decide) rfl (fun ls hl => ?_)
  exact J2 16 0 σ hf _ _ _ hP hD hS (lv_sub hl [1, 2, 0] rfl)
set_option maxHeartbeats 4000000 in
set_option maxRecDepth 100000 in
theorem wm_M_tell (l : Launch) (D : va_G) (ad : Nat → Nat) (cI cZ cJ cG : ClassId) (sz : Nat) (a1 : Int64) (σ : wc_S) (res : wc_S) (hf : wf_M_tell a1 σ = some res) : Met l wy_M_tell (wx_ws_M_tell) ({ frames := 4, cells := 0, slots := 0, locals := 94 }) (va_Pc [.ref (ad 71), .long a1] (wx_pre D ad cI cZ cJ cG σ sz)) (wx_Qv D ad cI cZ cJ cG res (va_A (wx_W ad cI cZ cJ cG σ) sz)) 0 0 (va_A (wx_W ad cI cZ cJ cG σ) sz) := by
  refine wx_ofW (cc := prog_8_method_27_code) (maxL := 5) (ret := none) (Qc := fun A => wx_Qv D ad cI cZ cJ cG res A) [.ref (ad 71), .long a1] (by decide) rfl (Nat.le_of_ble_eq_true rfl) ?_
  intro p e s m args below meth c A ls hin hl
  obtain ⟨hx, hb, hr, hts, hown, hlocks, hml, hA, hP, hK, hD, hC, hN, hS⟩ := hin
  have hl : lv_has ls 5 [(0, .ref (ad 71)), (1, .long a1)] := hl
  have J108 : ∀ (n : Nat) (x4 : Int32) (σ : wc_S), wf_M_tell_108 n x4 σ = some res → wx_Arr p l e ({ frames := 4, cells := 0, slots := 0, locals := 94 }) s m args below meth c D ad cI cZ cJ cG A (MQ below (wx_Qv D ad cI cZ cJ cG res A) args s 0 0 A) 5 0 0 108 [(0, .ref (ad 71)), (4, .int x4)] [] σ := by
    intro  n
    induction n with
    | zero => intro x4 σ hf; exact absurd hf (by intro h9; cases h9)
    | succ n hk108 =>
      intro x4 σ hf H locs ls hP hD hS hl
      have hf : wf_M_tell_108_b (wf_M_tell_108 n) x4 σ = some res := hf
      unfold wf_M_tell_108_b at hf
      refine lv_iload hx hb wd_M_tell_108 (lv_at hl 1 rfl) ?_
      refine lv_aload_n hx hb wd_M_tell_110 rfl (lv_at hl 0 rfl) ?_
      refine wx_get (v := .int (σ 71 1)) (C := "WidthCampaignsModel") (T := wx_TM) (N' := 29) hx hb hts wi_M hown hK hP 71 (by decide) rfl rfl 1 (by decide) wt_631 (fun _ h9 => h9) rfl wd_M_tell_111 ?_
      refine lv_topi (fun v8 ev8 => ?_)
      have hf := wc_st_e ev8 hf
      refine lv_icmp_ge (tgt := 137) hx hb wd_M_tell_114 (by decide) (fun c9 => ?_) (fun c9 => ?_)
      · have hf := wc_t c9 hf
        exact wx_vret hx hb hr hlocks hf hP hS wd_M_tell_137
      · have hf := wc_f c9 hf
        refine lv_aload_n hx hb wd_M_tell_117 rfl (lv_at hl 0 rfl) ?_
        refine wx_get (v := .ref (ad 85)) (C := "WidthCampaignsModel") (T := wx_TM) (N' := 29) hx hb hts wi_M hown hK hP 71 (by decide) rfl rfl 23 (by decide) wt_653 (fun _ h9 => h9) rfl wd_M_tell_118 ?_
        refine lv_iload hx hb wd_M_tell_121 (lv_at hl 1 rfl) ?_
        refine lv_aload_n hx hb wd_M_tell_123 rfl (lv_at hl 0 rfl) ?_
        refine wx_get (v := .ref (ad 86)) (C := "WidthCampaignsModel") (T := wx_TM) (N' := 29) hx hb hts wi_M hown hK hP 71 (by decide) rfl rfl 24 (by decide) wt_654 (fun _ h9 => h9) rfl wd_M_tell_124 ?_
        refine lv_iload hx hb wd_M_tell_127 (lv_at hl 1 rfl) ?_
        obtain ⟨h10, hf⟩ := wc_gd_e hf
        refine wx_iald hx hb hK hP 86 (n := 9) (by decide) rfl (wc_in_e h10) wd_M_tell_129 ?_
        refine lv_topi (fun v11 ev11 => ?_)
        have hf := wc_st_e ev11 hf
        obtain ⟨h12, hf⟩ := wc_gd_e hf
        refine wx_iast hx hb hK hP hD hS 85 (n := 9) (by decide) (fun _ => rfl) h12 wd_M_tell_130 (fun σ13 H locs eσ13 hP hD hS => ?_)
        have hf := wc_st_e eσ13 hf
        obtain ⟨v14, ev14⟩ : ∃ y : Int32, y = x4 + 1 := ⟨_, rfl⟩
        have hf := wc_st_e ev14 hf
        refine lv_iinc (v := v14) (lv' := [(4, .int v14), (0, .ref (ad 71))]) hx hb wd_M_tell_131 hl (k := 1) rfl (by rw [ev14]; rfl) (by decide) rfl (fun ls hl => ?_)
        refine lv_goto (tgt := 108) hx hb wd_M_tell_134 (by decide) ?_
        exact hk108 v14 σ13 hf _ _ _ hP hD hS (lv_sub hl [1, 0] rfl)
  have J92 : ∀ (s1 : Int32) (s2 : Int32) (σ : wc_S), wf_M_tell_92 s1 s2 σ = some res → wx_Arr p l e ({ frames := 4, cells := 0, slots := 0, locals := 94 }) s m args below meth c D ad cI cZ cJ cG A (MQ below (wx_Qv D ad cI cZ cJ cG res A) args s 0 0 A) 5 0 0 92 [(0, .ref (ad 71))] [.int s2, .int s1, .ref (ad 71)] σ := by
    intro  s1 s2 σ hf H locs ls hP hD hS hl
    unfold wf_M_tell_92 at hf
    refine lv_iconst (v := 1) hx hb wd_M_tell_92 (by decide) ?_
    obtain ⟨r5, σ4, hq, hf⟩ := wc_b2_e hf
    refine wx_calli (va_runV (As := [.int s1, .int s2, .int 1]) (rest := []) ⟨hx, hb, hml, hown, hts⟩ (wm_M_goes l D ad cI cZ cJ cG _ s1 s2 1 σ _ hq) (wx_cwV 3 hts wt_732 wt_731 wp_32 wt_7 wt_729 wh_M_goes rfl rfl ⟨Nat.le_of_ble_eq_true rfl, Nat.le_of_ble_eq_true rfl⟩) (wx_preV hK hP hD hS hA hC (by decide) rfl rfl) rfl rfl hl.1 rfl (lv_room (Nat.le_of_ble_eq_true rfl)) wd_M_tell_93 ⟨Nat.le_of_ble_eq_true rfl, Nat.le_of_ble_eq_true rfl⟩) hD hS hA (fun H locs hP hD hS => ?_)
    refine lv_if_ne (tgt := 100) hx hb wd_M_tell_96 (by decide) (fun c6 => ?_) (fun c6 => ?_)
    · have hf := wc_f c6 hf
      refine lv_aload_n hx hb wd_M_tell_100 rfl (lv_at hl 0 rfl) ?_
      refine lv_iconst (v := 1) hx hb wd_M_tell_101 (by decide) ?_
      refine wx_put (x := 1) (ty := .boolean) (C := "WidthCampaignsModel") (T := wx_TM) (N' := 29) hx hb hts wi_M wx_tM wx_toM wx_nM hown hK hP hD hS 71 (by decide) (fun _ => rfl) rfl 22 (by decide) wt_652 (fun _ h9 => h9) rfl (by decide +kernel) narrow_b1 rfl (Nat.le_of_ble_eq_true rfl) rfl wd_M_tell_102 (fun σ7 H locs eσ7 hP hD hS => ?_)
      have hf := wc_st_e eσ7 hf
      refine lv_iconst (v := 0) hx hb wd_M_tell_105 (by decide) ?_
      refine lv_istore (lv' := [(4, .int 0), (0, .ref (ad 71))]) hx hb wd_M_tell_106 hl (by decide) rfl (fun ls hl => ?_)
      exact J108 16 0 σ7 hf _ _ _ hP hD hS (lv_sub hl [1, 0] rfl)
    · have hf := wc_t c6 hf
      exact wx_vret hx hb hr hlocks hf hP hS wd_M_tell_99
  have J91 : ∀ (s1 : Int32) (σ : wc_S), wf_M_tell_91 s1 σ = some res → wx_Arr p l e ({ frames := 4, cells := 0, slots := 0, locals := 94 }) s m args below meth c D ad cI cZ cJ cG A (MQ below (wx_Qv D ad cI cZ cJ cG res A) args s 0 0 A) 5 0 0 91 [(0, .ref (ad 71))] [.int s1, .ref (ad 71)] σ := by
    intro  s1 σ hf H locs ls hP hD hS hl
    unfold wf_M_tell_91 at hf
    refine lv_iconst (v := 0) hx hb wd_M_tell_91 (by decide) ?_
    exact J92 s1 0 σ hf _ _ _ hP hD hS (lv_sub hl [0] rfl)
  have J64 : ∀ (k5 : Int64 → Int32 → Int32 → wc_S → Option wc_S) (hk5 : (∀ (x1 : Int64) (x3 : Int32) (x4 : Int32) (σ : wc_S), k5 x1 x3 x4 σ = some res → wx_Arr p l e ({ frames := 4, cells := 0, slots := 0, locals := 94 }) s m args below meth c D ad cI cZ cJ cG A (MQ below (wx_Qv D ad cI cZ cJ cG res A) args s 0 0 A) 5 0 0 5 [(0, .ref (ad 71)), (1, .long x1), (3, .int x3), (4, .int x4)] [] σ)) (x1 : Int64) (x3 : Int32) (x4 : Int32) (σ : wc_S), wf_M_tell_64 k5 x1 x3 x4 σ = some res → wx_Arr p l e ({ frames := 4, cells := 0, slots := 0, locals := 94 }) s m args below meth c D ad cI cZ cJ cG A (MQ below (wx_Qv D ad cI cZ cJ cG res A) args s 0 0 A) 5 0 0 64 [(0, .ref (ad 71)), (1, .long x1), (3, .int x3), (4, .int x4)] [] σ := by
    intro k5 hk5 x1 x3 x4 σ hf H locs ls hP hD hS hl
    unfold wf_M_tell_64 at hf
    obtain ⟨v28, ev28⟩ : ∃ y : Int32, y = x4 + 1 := ⟨_, rfl⟩
    have hf := wc_st_e ev28 hf
    refine lv_iinc (v := v28) (lv' := [(4, .int v28), (0, .ref (ad 71)), (1, .long x1), (3, .int x3)]) hx hb wd_M_tell_64 hl (k := 3) rfl (by rw [ev28]; rfl) (by decide) rfl (fun ls hl => ?_)
    refine lv_goto (tgt := 5) hx hb wd_M_tell_67 (by decide) ?_
    exact hk5 x1 x3 v28 σ hf _ _ _ hP hD hS (lv_sub hl [1, 2, 3, 0] rfl)
  have J62 : ∀ (k5 : Int64 → Int32 → Int32 → wc_S → Option wc_S) (hk5 : (∀ (x1 : Int64) (x3 : Int32) (x4 : Int32) (σ : wc_S), k5 x1 x3 x4 σ = some res → wx_Arr p l e ({ frames := 4, cells := 0, slots := 0, locals := 94 }) s m args below meth c D ad cI cZ cJ cG A (MQ below (wx_Qv D ad cI cZ cJ cG res A) args s 0 0 A) 5 0 0 5 [(0, .ref (ad 71)), (1, .long x1), (3, .int x3), (4, .int x4)] [] σ)) (x1 : Int64) (x4 : Int32) (σ : wc_S), wf_M_tell_62 k5 x1 x4 σ = some res → wx_Arr p l e ({ frames := 4, cells := 0, slots := 0, locals := 94 }) s m args below meth c D ad cI cZ cJ cG A (MQ below (wx_Qv D ad cI cZ cJ cG res A) args s 0 0 A) 5 0 0 62 [(0, .ref (ad 71)), (1, .long x1), (4, .int x4)] [] σ := by
    intro k5 hk5 x1 x4 σ hf H locs ls hP hD hS hl
    unfold wf_M_tell_62 at hf
    refine lv_iconst (v := 0) hx hb wd_M_tell_62 (by decide) ?_
    refine lv_istore_n (lv' := [(3, .int 0), (0, .ref (ad 71)), (1, .long x1), (4, .int x4)]) hx hb wd_M_tell_63 rfl hl (by decide) rfl (fun ls hl => ?_)
    exact J64 k5 hk5 x1 0 x4 σ hf _ _ _ hP hD hS (lv_sub hl [1, 2, 0, 3] rfl)
  have J5 : ∀ (n : Nat) (x1 : Int64) (x3 : Int32) (x4 : Int32) (σ : wc_S), wf_M_tell_5 n x1 x3 x4 σ = some res → wx_Arr p l e ({ frames := 4, cells := 0, slots := 0, locals := 94 }) s m args below meth c D ad cI cZ cJ cG A (MQ below (wx_Qv D ad cI cZ cJ cG res A) args s 0 0 A) 5 0 0 5 [(0, .ref (ad 71)), (1, .long x1), (3, .int x3), (4, .int x4)] [] σ := by
    intro  n
    induction n with
    | zero => intro x1 x3 x4 σ hf; exact absurd hf (by intro h9; cases h9)
    | succ n hk5 =>
      intro x1 x3 x4 σ hf H locs ls hP hD hS hl
      have hf : wf_M_tell_5_b (wf_M_tell_5 n) x1 x3 x4 σ = some res := hf
      unfold wf_M_tell_5_b at hf
      refine lv_iload hx hb wd_M_tell_5 (lv_at hl 3 rfl) ?_
      refine lv_aload_n hx hb wd_M_tell_7 rfl (lv_at hl 0 rfl) ?_
      refine wx_get (v := .int (σ 71 1)) (C := "WidthCampaignsModel") (T := wx_TM) (N' := 29) hx hb hts wi_M hown hK hP 71 (by decide) rfl rfl 1 (by decide) wt_631 (fun _ h9 => h9) rfl wd_M_tell_8 ?_
      refine lv_topi (fun v1 ev1 => ?_)
      have hf := wc_st_e ev1 hf
      refine lv_icmp_ge (tgt := 70) hx hb wd_M_tell_11 (by decide) (fun c2 => ?_) (fun c2 => ?_)
      · have hf := wc_t c2 hf
        refine lv_aload_n hx hb wd_M_tell_70 rfl (lv_at hl 0 rfl) ?_
        refine lv_iload_n hx hb wd_M_tell_71 rfl (lv_at hl 2 rfl) ?_
        refine lv_iload_n hx hb wd_M_tell_72 rfl (lv_at hl 2 rfl) ?_
        refine lv_if_eq (tgt := 91) hx hb wd_M_tell_73 (by decide) (fun c3 => ?_) (fun c3 => ?_)
        · have hf := wc_t c3 hf
          exact J91 x3 σ hf _ _ _ hP hD hS (lv_sub hl [0] rfl)
        · have hf := wc_f c3 hf
          refine lv_aload_n hx hb wd_M_tell_76 rfl (lv_at hl 0 rfl) ?_
          refine lv_aload_n hx hb wd_M_tell_77 rfl (lv_at hl 0 rfl) ?_
          refine wx_get (v := .ref (ad 86)) (C := "WidthCampaignsModel") (T := wx_TM) (N' := 29) hx hb hts wi_M hown hK hP 71 (by decide) rfl rfl 24 (by decide) wt_654 (fun _ h9 => h9) rfl wd_M_tell_78 ?_
          obtain ⟨r16, σ15, hq, hf⟩ := wc_b2_e hf
          refine wx_calli (va_runV (As := [.ref (ad 86)]) (rest := [.int x3, .ref (ad 71)]) ⟨hx, hb, hml, hown, hts⟩ (wm_M_isGood l D ad cI cZ cJ cG _ 86 (Or.inr rfl) σ _ hq) (wx_cwV 1 hts wt_822 wt_821 wp_41 wt_7 wt_819 wh_M_isGood rfl rfl ⟨Nat.le_of_ble_eq_true rfl, Nat.le_of_ble_eq_true rfl⟩) (wx_preV hK hP hD hS hA hC (by decide) rfl rfl) rfl rfl hl.1 rfl (lv_room (Nat.le_of_ble_eq_true rfl)) wd_M_tell_81 ⟨Nat.le_of_ble_eq_true rfl, Nat.le_of_ble_eq_true rfl⟩) hD hS hA (fun H locs hP hD hS => ?_)
          refine lv_if_eq (tgt := 91) hx hb wd_M_tell_84 (by decide) (fun c17 => ?_) (fun c17 => ?_)
          · have hf := wc_t c17 hf
            exact J91 x3 σ15 hf _ _ _ hP hD hS (lv_sub hl [0] rfl)
          · have hf := wc_f c17 hf
            refine lv_iconst (v := 1) hx hb wd_M_tell_87 (by decide) ?_
            refine lv_goto (tgt := 92) hx hb wd_M_tell_88 (by decide) ?_
            exact J92 x3 1 σ15 hf _ _ _ hP hD hS (lv_sub hl [0] rfl)
      · have hf := wc_f c2 hf
        refine lv_aload_n hx hb wd_M_tell_14 rfl (lv_at hl 0 rfl) ?_
        refine wx_get (v := .ref (ad 86)) (C := "WidthCampaignsModel") (T := wx_TM) (N' := 29) hx hb hts wi_M hown hK hP 71 (by decide) rfl rfl 24 (by decide) wt_654 (fun _ h9 => h9) rfl wd_M_tell_15 ?_
        refine lv_iload hx hb wd_M_tell_18 (lv_at hl 3 rfl) ?_
        refine lv_lload_n hx hb wd_M_tell_20 rfl (lv_at hl 1 rfl) ?_
        refine lv_iconst (v := 4) hx hb wd_M_tell_21 (by decide) ?_
        refine lv_iload hx hb wd_M_tell_22 (lv_at hl 3 rfl) ?_
        refine lv_imul hx hb wd_M_tell_24 ?_
        refine lv_topi (fun v18 ev18 => ?_)
        have hf := wc_st_e ev18 hf
        refine lv_lshr hx hb wd_M_tell_25 rfl ?_
        refine lv_topl (fun v19 ev19 => ?_)
        have hf := wc_st_e ev19 hf
        refine lv_ldc2 (v := 15) hx hb hown (wx_hw hts wt_818) wd_M_tell_26 ?_
        refine lv_land hx hb wd_M_tell_29 ?_
        refine lv_topl (fun v20 ev20 => ?_)
        have hf := wc_st_e ev20 hf
        refine lv_l2i hx hb wd_M_tell_30 rfl ?_
        refine lv_topi (fun v21 ev21 => ?_)
        have hf := wc_st_e ev21 hf
        obtain ⟨h22, hf⟩ := wc_gd_e hf
        refine wx_iast hx hb hK hP hD hS 86 (n := 9) (by decide) (fun _ => rfl) h22 wd_M_tell_31 (fun σ23 H locs eσ23 hP hD hS => ?_)
        have hf := wc_st_e eσ23 hf
        refine lv_aload_n hx hb wd_M_tell_32 rfl (lv_at hl 0 rfl) ?_
        refine wx_get (v := .ref (ad 86)) (C := "WidthCampaignsModel") (T := wx_TM) (N' := 29) hx hb hts wi_M hown hK hP 71 (by decide) rfl rfl 24 (by decide) wt_654 (fun _ h9 => h9) rfl wd_M_tell_33 ?_
        refine lv_iload hx hb wd_M_tell_36 (lv_at hl 3 rfl) ?_
        obtain ⟨h24, hf⟩ := wc_gd_e hf
        refine wx_iald hx hb hK hP 86 (n := 9) (by decide) rfl (wc_in_e h24) wd_M_tell_38 ?_
        refine lv_topi (fun v25 ev25 => ?_)
        have hf := wc_st_e ev25 hf
        refine lv_aload_n hx hb wd_M_tell_39 rfl (lv_at hl 0 rfl) ?_
        refine wx_get (v := .int (σ23 71 1)) (C := "WidthCampaignsModel") (T := wx_TM) (N' := 29) hx hb hts wi_M hown hK hP 71 (by decide) rfl rfl 1 (by decide) wt_631 (fun _ h9 => h9) rfl wd_M_tell_40 ?_
        refine lv_topi (fun v26 ev26 => ?_)
        have hf := wc_st_e ev26 hf
        refine lv_icmp_ge (tgt := 62) hx hb wd_M_tell_43 (by decide) (fun c27 => ?_) (fun c27 => ?_)
        · have hf := wc_t c27 hf
          exact J62 (wf_M_tell_5 n) hk5 x1 x4 σ23 hf _ _ _ hP hD hS (lv_sub hl [0, 1, 3] rfl)
        · have hf := wc_f c27 hf
          refine lv_aload_n hx hb wd_M_tell_46 rfl (lv_at hl 0 rfl) ?_
          refine lv_aload_n hx hb wd_M_tell_47 rfl (lv_at hl 0 rfl) ?_
          refine wx_get (v := .ref (ad 86)) (C := "WidthCampaignsModel") (T := wx_TM) (N' := 29) hx hb hts wi_M hown hK hP 71 (by decide) rfl rfl 24 (by decide) wt_654 (fun _ h9 => h9) rfl wd_M_tell_48 ?_
          refine lv_iload hx hb wd_M_tell_51 (lv_at hl 3 rfl) ?_
          obtain ⟨h29, hf⟩ := wc_gd_e hf
          refine wx_iald hx hb hK hP 86 (n := 9) (by decide) rfl (wc_in_e h29) wd_M_tell_53 ?_
          refine lv_topi (fun v30 ev30 => ?_)
          have hf := wc_st_e ev30 hf
          refine lv_iload hx hb wd_M_tell_54 (lv_at hl 3 rfl) ?_
          obtain ⟨r32, σ31, hq, hf⟩ := wc_b2_e hf
          refine wx_calli (va_runV (As := [.int v30, .int x4]) (rest := []) ⟨hx, hb, hml, hown, hts⟩ (wm_M_stands l D ad cI cZ cJ cG _ v30 x4 σ23 _ hq) (wx_cwV 2 hts wt_769 wt_768 wp_35 wt_7 wt_766 wh_M_stands rfl rfl ⟨Nat.le_of_ble_eq_true rfl, Nat.le_of_ble_eq_true rfl⟩) (wx_preV hK hP hD hS hA hC (by decide) rfl rfl) rfl rfl hl.1 rfl (lv_room (Nat.le_of_ble_eq_true rfl)) wd_M_tell_56 ⟨Nat.le_of_ble_eq_true rfl, Nat.le_of_ble_eq_true rfl⟩) hD hS hA (fun H locs hP hD hS => ?_)
          refine lv_if_eq (tgt := 64) hx hb wd_M_tell_59 (by decide) (fun c33 => ?_) (fun c33 => ?_)
          · have hf := wc_t c33 hf
            exact J64 (wf_M_tell_5 n) hk5 x1 x3 x4 σ31 hf _ _ _ hP hD hS (lv_sub hl [0, 1, 2, 3] rfl)
          · have hf := wc_f c33 hf
            exact J62 (wf_M_tell_5 n) hk5 x1 x4 σ31 hf _ _ _ hP hD hS (lv_sub hl [0, 1, 3] rfl)
  unfold wf_M_tell at hf
  refine lv_iconst (v := 1) hx hb wd_M_tell_0 (by decide) ?_
  refine lv_istore_n (lv' := [(3, .int 1), (0, .ref (ad 71)), (1, .long a1)]) hx hb wd_M_tell_1 rfl hl (by decide) rfl (fun ls hl => ?_)
  refine lv_iconst (v := 0) hx hb wd_M_tell_2 (by decide) ?_
  refine lv_istore (lv' := [(4, .int 0), (3, .int 1), (0, .ref (ad 71)), (1, .long a1)]) hx hb wd_M_tell_3 hl (by decide) rfl (fun ls hl => ?_)
  exact J5 16 a1 1 0 σ hf _ _ _ hP hD hS (lv_sub hl [2, 3, 1, 0] rfl)
set_option maxHeartbeats 4000000 in
set_option maxRecDepth 100000 in
theorem wm_M_swaps (l : Launch) (D : va_G) (ad : Nat → Nat) (cI cZ cJ cG : ClassId) (sz : Nat) (a1 : Int32) (a2 : Int32) (σ : wc_S) (res : Int32 × wc_S) (hf : wf_M_swaps a1 a2 σ = some res) : Met l wy_M_swaps (wx_ws_M_swaps) ({ frames := 4, cells := 0, slots := 0, locals := 94 }) (va_Pc [.ref (ad 71), .int a1, .int a2] (wx_pre D ad cI cZ cJ cG σ sz)) (wx_Qi D ad cI cZ cJ cG res (va_A (wx_W ad cI cZ cJ cG σ) sz)) 0 0 (va_A (wx_W ad cI cZ cJ cG σ) sz) := by
  refine wx_ofW (cc := prog_8_method_28_code) (maxL := 5) (ret := (some .boolean)) (Qc := fun A => wx_Qi D ad cI cZ cJ cG res A) [.ref (ad 71), .int a1, .int a2] (by decide) rfl (Nat.le_of_ble_eq_true rfl) ?_
  intro p e s m args below meth c A ls hin hl
  obtain ⟨hx, hb, hr, hts, hown, hlocks, hml, hA, hP, hK, hD, hC, hN, hS⟩ := hin
  have hl : lv_has ls 5 [(0, .ref (ad 71)), (1, .int a1), (2, .int a2)] := hl
  have J111 : ∀ (n : Nat) (x4 : Int32) (σ : wc_S), wf_M_swaps_111 n x4 σ = some res → wx_Arr p l e ({ frames := 4, cells := 0, slots := 0, locals := 94 }) s m args below meth c D ad cI cZ cJ cG A (MQ below (wx_Qi D ad cI cZ cJ cG res A) args s 0 0 A) 5 0 0 111 [(0, .ref (ad 71)), (4, .int x4)] [] σ := by
    intro  n
    induction n with
    | zero => intro x4 σ hf; exact absurd hf (by intro h9; cases h9)
    | succ n hk111 =>
      intro x4 σ hf H locs ls hP hD hS hl
      have hf : wf_M_swaps_111_b (wf_M_swaps_111 n) x4 σ = some res := hf
      unfold wf_M_swaps_111_b at hf
      refine lv_iload hx hb wd_M_swaps_111 (lv_at hl 1 rfl) ?_
      refine lv_aload_n hx hb wd_M_swaps_113 rfl (lv_at hl 0 rfl) ?_
      refine wx_get (v := .int (σ 71 1)) (C := "WidthCampaignsModel") (T := wx_TM) (N' := 29) hx hb hts wi_M hown hK hP 71 (by decide) rfl rfl 1 (by decide) wt_631 (fun _ h9 => h9) rfl wd_M_swaps_114 ?_
      refine lv_topi (fun v21 ev21 => ?_)
      have hf := wc_st_e ev21 hf
      refine lv_icmp_ge (tgt := 140) hx hb wd_M_swaps_117 (by decide) (fun c22 => ?_) (fun c22 => ?_)
      · have hf := wc_t c22 hf
        refine lv_iconst (v := 1) hx hb wd_M_swaps_140 (by decide) ?_
        exact wx_zret hx hb hr narrow_b1 hlocks hf hP hS wd_M_swaps_141
      · have hf := wc_f c22 hf
        refine lv_aload_n hx hb wd_M_swaps_120 rfl (lv_at hl 0 rfl) ?_
        refine wx_get (v := .ref (ad 85)) (C := "WidthCampaignsModel") (T := wx_TM) (N' := 29) hx hb hts wi_M hown hK hP 71 (by decide) rfl rfl 23 (by decide) wt_653 (fun _ h9 => h9) rfl wd_M_swaps_121 ?_
        refine lv_iload hx hb wd_M_swaps_124 (lv_at hl 1 rfl) ?_
        refine lv_aload_n hx hb wd_M_swaps_126 rfl (lv_at hl 0 rfl) ?_
        refine wx_get (v := .ref (ad 86)) (C := "WidthCampaignsModel") (T := wx_TM) (N' := 29) hx hb hts wi_M hown hK hP 71 (by decide) rfl rfl 24 (by decide) wt_654 (fun _ h9 => h9) rfl wd_M_swaps_127 ?_
        refine lv_iload hx hb wd_M_swaps_130 (lv_at hl 1 rfl) ?_
        obtain ⟨h23, hf⟩ := wc_gd_e hf
        refine wx_iald hx hb hK hP 86 (n := 9) (by decide) rfl (wc_in_e h23) wd_M_swaps_132 ?_
        refine lv_topi (fun v24 ev24 => ?_)
        have hf := wc_st_e ev24 hf
        obtain ⟨h25, hf⟩ := wc_gd_e hf
        refine wx_iast hx hb hK hP hD hS 85 (n := 9) (by decide) (fun _ => rfl) h25 wd_M_swaps_133 (fun σ26 H locs eσ26 hP hD hS => ?_)
        have hf := wc_st_e eσ26 hf
        obtain ⟨v27, ev27⟩ : ∃ y : Int32, y = x4 + 1 := ⟨_, rfl⟩
        have hf := wc_st_e ev27 hf
        refine lv_iinc (v := v27) (lv' := [(4, .int v27), (0, .ref (ad 71))]) hx hb wd_M_swaps_134 hl (k := 1) rfl (by rw [ev27]; rfl) (by decide) rfl (fun ls hl => ?_)
        refine lv_goto (tgt := 111) hx hb wd_M_swaps_137 (by decide) ?_
        exact hk111 v27 σ26 hf _ _ _ hP hD hS (lv_sub hl [1, 0] rfl)
  have J20 : ∀ (n : Nat) (x1 : Int32) (x2 : Int32) (x3 : Int32) (x4 : Int32) (σ : wc_S), wf_M_swaps_20 n x1 x2 x3 x4 σ = some res → wx_Arr p l e ({ frames := 4, cells := 0, slots := 0, locals := 94 }) s m args below meth c D ad cI cZ cJ cG A (MQ below (wx_Qi D ad cI cZ cJ cG res A) args s 0 0 A) 5 0 0 20 [(0, .ref (ad 71)), (1, .int x1), (2, .int x2), (3, .int x3), (4, .int x4)] [] σ := by
    intro  n
    induction n with
    | zero => intro x1 x2 x3 x4 σ hf; exact absurd hf (by intro h9; cases h9)
    | succ n hk20 =>
      intro x1 x2 x3 x4 σ hf H locs ls hP hD hS hl
      have hf : wf_M_swaps_20_b (wf_M_swaps_20 n) x1 x2 x3 x4 σ = some res := hf
      unfold wf_M_swaps_20_b at hf
      refine lv_iload hx hb wd_M_swaps_20 (lv_at hl 4 rfl) ?_
      refine lv_aload_n hx hb wd_M_swaps_22 rfl (lv_at hl 0 rfl) ?_
      refine wx_get (v := .int (σ 71 1)) (C := "WidthCampaignsModel") (T := wx_TM) (N' := 29) hx hb hts wi_M hown hK hP 71 (by decide) rfl rfl 1 (by decide) wt_631 (fun _ h9 => h9) rfl wd_M_swaps_23 ?_
      refine lv_topi (fun v4 ev4 => ?_)
      have hf := wc_st_e ev4 hf
      refine lv_icmp_ge (tgt := 49) hx hb wd_M_swaps_26 (by decide) (fun c5 => ?_) (fun c5 => ?_)
      · have hf := wc_t c5 hf
        refine lv_aload_n hx hb wd_M_swaps_49 rfl (lv_at hl 0 rfl) ?_
        refine wx_get (v := .ref (ad 86)) (C := "WidthCampaignsModel") (T := wx_TM) (N' := 29) hx hb hts wi_M hown hK hP 71 (by decide) rfl rfl 24 (by decide) wt_654 (fun _ h9 => h9) rfl wd_M_swaps_50 ?_
        refine lv_iload_n hx hb wd_M_swaps_53 rfl (lv_at hl 1 rfl) ?_
        refine lv_aload_n hx hb wd_M_swaps_54 rfl (lv_at hl 0 rfl) ?_
        refine wx_get (v := .ref (ad 85)) (C := "WidthCampaignsModel") (T := wx_TM) (N' := 29) hx hb hts wi_M hown hK hP 71 (by decide) rfl rfl 23 (by decide) wt_653 (fun _ h9 => h9) rfl wd_M_swaps_55 ?_
        refine lv_iload_n hx hb wd_M_swaps_58 rfl (lv_at hl 2 rfl) ?_
        obtain ⟨h6, hf⟩ := wc_gd_e hf
        refine wx_iald hx hb hK hP 85 (n := 9) (by decide) rfl (wc_in_e h6) wd_M_swaps_59 ?_
        refine lv_topi (fun v7 ev7 => ?_)
        have hf := wc_st_e ev7 hf
        obtain ⟨h8, hf⟩ := wc_gd_e hf
        refine wx_iast hx hb hK hP hD hS 86 (n := 9) (by decide) (fun _ => rfl) h8 wd_M_swaps_60 (fun σ9 H locs eσ9 hP hD hS => ?_)
        have hf := wc_st_e eσ9 hf
        refine lv_aload_n hx hb wd_M_swaps_61 rfl (lv_at hl 0 rfl) ?_
        refine wx_get (v := .ref (ad 86)) (C := "WidthCampaignsModel") (T := wx_TM) (N' := 29) hx hb hts wi_M hown hK hP 71 (by decide) rfl rfl 24 (by decide) wt_654 (fun _ h9 => h9) rfl wd_M_swaps_62 ?_
        refine lv_iload_n hx hb wd_M_swaps_65 rfl (lv_at hl 2 rfl) ?_
        refine lv_aload_n hx hb wd_M_swaps_66 rfl (lv_at hl 0 rfl) ?_
        refine wx_get (v := .ref (ad 85)) (C := "WidthCampaignsModel") (T := wx_TM) (N' := 29) hx hb hts wi_M hown hK hP 71 (by decide) rfl rfl 23 (by decide) wt_653 (fun _ h9 => h9) rfl wd_M_swaps_67 ?_
        refine lv_iload_n hx hb wd_M_swaps_70 rfl (lv_at hl 1 rfl) ?_
        obtain ⟨h10, hf⟩ := wc_gd_e hf
        refine wx_iald hx hb hK hP 85 (n := 9) (by decide) rfl (wc_in_e h10) wd_M_swaps_71 ?_
        refine lv_topi (fun v11 ev11 => ?_)
        have hf := wc_st_e ev11 hf
        obtain ⟨h12, hf⟩ := wc_gd_e hf
        refine wx_iast hx hb hK hP hD hS 86 (n := 9) (by decide) (fun _ => rfl) h12 wd_M_swaps_72 (fun σ13 H locs eσ13 hP hD hS => ?_)
        have hf := wc_st_e eσ13 hf
        refine lv_aload_n hx hb wd_M_swaps_73 rfl (lv_at hl 0 rfl) ?_
        refine lv_aload_n hx hb wd_M_swaps_74 rfl (lv_at hl 0 rfl) ?_
        refine wx_get (v := .ref (ad 86)) (C := "WidthCampaignsModel") (T := wx_TM) (N' := 29) hx hb hts wi_M hown hK hP 71 (by decide) rfl rfl 24 (by decide) wt_654 (fun _ h9 => h9) rfl wd_M_swaps_75 ?_
        obtain ⟨r15, σ14, hq, hf⟩ := wc_b2_e hf
        refine wx_calli (va_runV (As := [.ref (ad 86)]) (rest := []) ⟨hx, hb, hml, hown, hts⟩ (wm_M_isGood l D ad cI cZ cJ cG _ 86 (Or.inr rfl) σ13 _ hq) (wx_cwV 1 hts wt_822 wt_821 wp_41 wt_7 wt_819 wh_M_isGood rfl rfl ⟨Nat.le_of_ble_eq_true rfl, Nat.le_of_ble_eq_true rfl⟩) (wx_preV hK hP hD hS hA hC (by decide) rfl rfl) rfl rfl hl.1 rfl (lv_room (Nat.le_of_ble_eq_true rfl)) wd_M_swaps_78 ⟨Nat.le_of_ble_eq_true rfl, Nat.le_of_ble_eq_true rfl⟩) hD hS hA (fun H locs hP hD hS => ?_)
        refine lv_if_ne (tgt := 86) hx hb wd_M_swaps_81 (by decide) (fun c16 => ?_) (fun c16 => ?_)
        · have hf := wc_f c16 hf
          refine lv_aload_n hx hb wd_M_swaps_86 rfl (lv_at hl 0 rfl) ?_
          refine lv_aload_n hx hb wd_M_swaps_87 rfl (lv_at hl 0 rfl) ?_
          refine wx_get (v := .ref (ad 86)) (C := "WidthCampaignsModel") (T := wx_TM) (N' := 29) hx hb hts wi_M hown hK hP 71 (by decide) rfl rfl 24 (by decide) wt_654 (fun _ h9 => h9) rfl wd_M_swaps_88 ?_
          refine lv_aload_n hx hb wd_M_swaps_91 rfl (lv_at hl 0 rfl) ?_
          refine wx_get (v := .int (σ14 71 1)) (C := "WidthCampaignsModel") (T := wx_TM) (N' := 29) hx hb hts wi_M hown hK hP 71 (by decide) rfl rfl 1 (by decide) wt_631 (fun _ h9 => h9) rfl wd_M_swaps_92 ?_
          refine lv_topi (fun v17 ev17 => ?_)
          have hf := wc_st_e ev17 hf
          obtain ⟨σ18, hq, hf⟩ := wc_b1_e hf
          refine wx_callv (va_runV (As := [.ref (ad 86), .int v17]) (rest := []) ⟨hx, hb, hml, hown, hts⟩ (wm_M_reckon l D ad cI cZ cJ cG _ 86 (Or.inr rfl) v17 σ14 _ hq) (wx_cwV 2 hts wt_785 wt_784 wp_39 wt_7 wt_782 wh_M_reckon rfl rfl ⟨Nat.le_of_ble_eq_true rfl, Nat.le_of_ble_eq_true rfl⟩) (wx_preV hK hP hD hS hA hC (by decide) rfl rfl) rfl rfl hl.1 rfl (lv_room (Nat.le_of_ble_eq_true rfl)) wd_M_swaps_95 ⟨Nat.le_of_ble_eq_true rfl, Nat.le_of_ble_eq_true rfl⟩) hD hS hA (fun H locs hP hD hS => ?_)
          refine lv_aload_n hx hb wd_M_swaps_98 rfl (lv_at hl 0 rfl) ?_
          refine wx_get (v := .int (σ18 71 25)) (C := "WidthCampaignsModel") (T := wx_TM) (N' := 29) hx hb hts wi_M hown hK hP 71 (by decide) rfl rfl 25 (by decide) wt_655 (fun _ h9 => h9) rfl wd_M_swaps_99 ?_
          refine lv_topi (fun v19 ev19 => ?_)
          have hf := wc_st_e ev19 hf
          refine lv_iload_n hx hb wd_M_swaps_102 rfl (lv_at hl 3 rfl) ?_
          refine lv_icmp_lt (tgt := 108) hx hb wd_M_swaps_103 (by decide) (fun c20 => ?_) (fun c20 => ?_)
          · have hf := wc_t c20 hf
            refine lv_iconst (v := 0) hx hb wd_M_swaps_108 (by decide) ?_
            refine lv_istore (lv' := [(4, .int 0), (0, .ref (ad 71)), (1, .int x1), (2, .int x2), (3, .int x3)]) hx hb wd_M_swaps_109 hl (by decide) rfl (fun ls hl => ?_)
            exact J111 16 0 σ18 hf _ _ _ hP hD hS (lv_sub hl [1, 0] rfl)
          · have hf := wc_f c20 hf
            refine lv_iconst (v := 0) hx hb wd_M_swaps_106 (by decide) ?_
            exact wx_zret hx hb hr narrow_b0 hlocks hf hP hS wd_M_swaps_107
        · have hf := wc_t c16 hf
          refine lv_iconst (v := 0) hx hb wd_M_swaps_84 (by decide) ?_
          exact wx_zret hx hb hr narrow_b0 hlocks hf hP hS wd_M_swaps_85
      · have hf := wc_f c5 hf
        refine lv_aload_n hx hb wd_M_swaps_29 rfl (lv_at hl 0 rfl) ?_
        refine wx_get (v := .ref (ad 86)) (C := "WidthCampaignsModel") (T := wx_TM) (N' := 29) hx hb hts wi_M hown hK hP 71 (by decide) rfl rfl 24 (by decide) wt_654 (fun _ h9 => h9) rfl wd_M_swaps_30 ?_
        refine lv_iload hx hb wd_M_swaps_33 (lv_at hl 4 rfl) ?_
        refine lv_aload_n hx hb wd_M_swaps_35 rfl (lv_at hl 0 rfl) ?_
        refine wx_get (v := .ref (ad 85)) (C := "WidthCampaignsModel") (T := wx_TM) (N' := 29) hx hb hts wi_M hown hK hP 71 (by decide) rfl rfl 23 (by decide) wt_653 (fun _ h9 => h9) rfl wd_M_swaps_36 ?_
        refine lv_iload hx hb wd_M_swaps_39 (lv_at hl 4 rfl) ?_
        obtain ⟨h28, hf⟩ := wc_gd_e hf
        refine wx_iald hx hb hK hP 85 (n := 9) (by decide) rfl (wc_in_e h28) wd_M_swaps_41 ?_
        refine lv_topi (fun v29 ev29 => ?_)
        have hf := wc_st_e ev29 hf
        obtain ⟨h30, hf⟩ := wc_gd_e hf
        refine wx_iast hx hb hK hP hD hS 86 (n := 9) (by decide) (fun _ => rfl) h30 wd_M_swaps_42 (fun σ31 H locs eσ31 hP hD hS => ?_)
        have hf := wc_st_e eσ31 hf
        obtain ⟨v32, ev32⟩ : ∃ y : Int32, y = x4 + 1 := ⟨_, rfl⟩
        have hf := wc_st_e ev32 hf
        refine lv_iinc (v := v32) (lv' := [(4, .int v32), (0, .ref (ad 71)), (1, .int x1), (2, .int x2), (3, .int x3)]) hx hb wd_M_swaps_43 hl (k := 4) rfl (by rw [ev32]; rfl) (by decide) rfl (fun ls hl => ?_)
        refine lv_goto (tgt := 20) hx hb wd_M_swaps_46 (by decide) ?_
        exact hk20 x1 x2 x3 v32 σ31 hf _ _ _ hP hD hS (lv_sub hl [1, 2, 3, 4, 0] rfl)
  unfold wf_M_swaps at hf
  refine lv_aload_n hx hb wd_M_swaps_0 rfl (lv_at hl 0 rfl) ?_
  refine lv_aload_n hx hb wd_M_swaps_1 rfl (lv_at hl 0 rfl) ?_
  refine wx_get (v := .ref (ad 85)) (C := "WidthCampaignsModel") (T := wx_TM) (N' := 29) hx hb hts wi_M hown hK hP 71 (by decide) rfl rfl 23 (by decide) wt_653 (fun _ h9 => h9) rfl wd_M_swaps_2 ?_
  refine lv_aload_n hx hb wd_M_swaps_5 rfl (lv_at hl 0 rfl) ?_
  refine wx_get (v := .int (σ 71 1)) (C := "WidthCampaignsModel") (T := wx_TM) (N' := 29) hx hb hts wi_M hown hK hP 71 (by decide) rfl rfl 1 (by decide) wt_631 (fun _ h9 => h9) rfl wd_M_swaps_6 ?_
  refine lv_topi (fun v1 ev1 => ?_)
  have hf := wc_st_e ev1 hf
  obtain ⟨σ2, hq, hf⟩ := wc_b1_e hf
  refine wx_callv (va_runV (As := [.ref (ad 85), .int v1]) (rest := []) ⟨hx, hb, hml, hown, hts⟩ (wm_M_reckon l D ad cI cZ cJ cG _ 85 (Or.inl rfl) v1 σ _ hq) (wx_cwV 2 hts wt_785 wt_784 wp_39 wt_7 wt_782 wh_M_reckon rfl rfl ⟨Nat.le_of_ble_eq_true rfl, Nat.le_of_ble_eq_true rfl⟩) (wx_preV hK hP hD hS hA hC (by decide) rfl rfl) rfl rfl hl.1 rfl (lv_room (Nat.le_of_ble_eq_true rfl)) wd_M_swaps_9 ⟨Nat.le_of_ble_eq_true rfl, Nat.le_of_ble_eq_true rfl⟩) hD hS hA (fun H locs hP hD hS => ?_)
  refine lv_aload_n hx hb wd_M_swaps_12 rfl (lv_at hl 0 rfl) ?_
  refine wx_get (v := .int (σ2 71 25)) (C := "WidthCampaignsModel") (T := wx_TM) (N' := 29) hx hb hts wi_M hown hK hP 71 (by decide) rfl rfl 25 (by decide) wt_655 (fun _ h9 => h9) rfl wd_M_swaps_13 ?_
  refine lv_topi (fun v3 ev3 => ?_)
  have hf := wc_st_e ev3 hf
  refine lv_istore_n (lv' := [(3, .int v3), (0, .ref (ad 71)), (1, .int a1), (2, .int a2)]) hx hb wd_M_swaps_16 rfl hl (by decide) rfl (fun ls hl => ?_)
  refine lv_iconst (v := 0) hx hb wd_M_swaps_17 (by decide) ?_
  refine lv_istore (lv' := [(4, .int 0), (3, .int v3), (0, .ref (ad 71)), (1, .int a1), (2, .int a2)]) hx hb wd_M_swaps_18 hl (by decide) rfl (fun ls hl => ?_)
  exact J20 16 a1 a2 v3 0 σ2 hf _ _ _ hP hD hS (lv_sub hl [2, 3, 4, 1, 0] rfl)
set_option maxHeartbeats 4000000 in
set_option maxRecDepth 100000 in
theorem wm_M_better (l : Launch) (D : va_G) (ad : Nat → Nat) (cI cZ cJ cG : ClassId) (sz : Nat) (σ : wc_S) (res : Int32 × wc_S) (hf : wf_M_better  σ = some res) : Met l wy_M_better (wx_ws_M_better) ({ frames := 5, cells := 0, slots := 0, locals := 118 }) (va_Pc [.ref (ad 71)] (wx_pre D ad cI cZ cJ cG σ sz)) (wx_Qi D ad cI cZ cJ cG res (va_A (wx_W ad cI cZ cJ cG σ) sz)) 0 0 (va_A (wx_W ad cI cZ cJ cG σ) sz) := by
  refine wx_ofW (cc := prog_8_method_29_code) (maxL := 3) (ret := (some .boolean)) (Qc := fun A => wx_Qi D ad cI cZ cJ cG res A) [.ref (ad 71)] (by decide) rfl (Nat.le_of_ble_eq_true rfl) ?_
  intro p e s m args below meth c A ls hin hl
  obtain ⟨hx, hb, hr, hts, hown, hlocks, hml, hA, hP, hK, hD, hC, hN, hS⟩ := hin
  have hl : lv_has ls 3 [(0, .ref (ad 71))] := hl
  have J14 : ∀ (k2 : Int32 → wc_S → Option (Int32 × wc_S)) (hk2 : (∀ (x1 : Int32) (σ : wc_S), k2 x1 σ = some res → wx_Arr p l e ({ frames := 5, cells := 0, slots := 0, locals := 118 }) s m args below meth c D ad cI cZ cJ cG A (MQ below (wx_Qi D ad cI cZ cJ cG res A) args s 0 0 A) 3 0 0 2 [(0, .ref (ad 71)), (1, .int x1)] [] σ)) (n : Nat) (x1 : Int32) (x2 : Int32) (σ : wc_S), wf_M_better_14 k2 n x1 x2 σ = some res → wx_Arr p l e ({ frames := 5, cells := 0, slots := 0, locals := 118 }) s m args below meth c D ad cI cZ cJ cG A (MQ below (wx_Qi D ad cI cZ cJ cG res A) args s 0 0 A) 3 0 0 14 [(0, .ref (ad 71)), (1, .int x1), (2, .int x2)] [] σ := by
    intro k2 hk2 n
    induction n with
    | zero => intro x1 x2 σ hf; exact absurd hf (by intro h9; cases h9)
    | succ n hk14 =>
      intro x1 x2 σ hf H locs ls hP hD hS hl
      have hf : wf_M_better_14_b k2 (wf_M_better_14 k2 n) x1 x2 σ = some res := hf
      unfold wf_M_better_14_b at hf
      refine lv_iload_n hx hb wd_M_better_14 rfl (lv_at hl 2 rfl) ?_
      refine lv_aload_n hx hb wd_M_better_15 rfl (lv_at hl 0 rfl) ?_
      refine wx_get (v := .int (σ 71 1)) (C := "WidthCampaignsModel") (T := wx_TM) (N' := 29) hx hb hts wi_M hown hK hP 71 (by decide) rfl rfl 1 (by decide) wt_631 (fun _ h9 => h9) rfl wd_M_better_16 ?_
      refine lv_topi (fun v4 ev4 => ?_)
      have hf := wc_st_e ev4 hf
      refine lv_icmp_ge (tgt := 39) hx hb wd_M_better_19 (by decide) (fun c5 => ?_) (fun c5 => ?_)
      · have hf := wc_t c5 hf
        obtain ⟨v6, ev6⟩ : ∃ y : Int32, y = x1 + 1 := ⟨_, rfl⟩
        have hf := wc_st_e ev6 hf
        refine lv_iinc (v := v6) (lv' := [(1, .int v6), (0, .ref (ad 71)), (2, .int x2)]) hx hb wd_M_better_39 hl (k := 1) rfl (by rw [ev6]; rfl) (by decide) rfl (fun ls hl => ?_)
        refine lv_goto (tgt := 2) hx hb wd_M_better_42 (by decide) ?_
        exact hk2 v6 σ hf _ _ _ hP hD hS (lv_sub hl [1, 0] rfl)
      · have hf := wc_f c5 hf
        refine lv_aload_n hx hb wd_M_better_22 rfl (lv_at hl 0 rfl) ?_
        refine lv_iload_n hx hb wd_M_better_23 rfl (lv_at hl 1 rfl) ?_
        refine lv_iload_n hx hb wd_M_better_24 rfl (lv_at hl 2 rfl) ?_
        obtain ⟨r8, σ7, hq, hf⟩ := wc_b2_e hf
        refine wx_calli (va_runV (As := [.int x1, .int x2]) (rest := []) ⟨hx, hb, hml, hown, hts⟩ (wm_M_swaps l D ad cI cZ cJ cG _ x1 x2 σ _ hq) (wx_cwV 2 hts wt_834 wt_833 wp_43 wt_7 wt_831 wh_M_swaps rfl rfl ⟨Nat.le_of_ble_eq_true rfl, Nat.le_of_ble_eq_true rfl⟩) (wx_preV hK hP hD hS hA hC (by decide) rfl rfl) rfl rfl hl.1 rfl (lv_room (Nat.le_of_ble_eq_true rfl)) wd_M_better_25 ⟨Nat.le_of_ble_eq_true rfl, Nat.le_of_ble_eq_true rfl⟩) hD hS hA (fun H locs hP hD hS => ?_)
        refine lv_if_eq (tgt := 33) hx hb wd_M_better_28 (by decide) (fun c9 => ?_) (fun c9 => ?_)
        · have hf := wc_t c9 hf
          obtain ⟨v10, ev10⟩ : ∃ y : Int32, y = x2 + 1 := ⟨_, rfl⟩
          have hf := wc_st_e ev10 hf
          refine lv_iinc (v := v10) (lv' := [(2, .int v10), (0, .ref (ad 71)), (1, .int x1)]) hx hb wd_M_better_33 hl (k := 2) rfl (by rw [ev10]; rfl) (by decide) rfl (fun ls hl => ?_)
          refine lv_goto (tgt := 14) hx hb wd_M_better_36 (by decide) ?_
          exact hk14 x1 v10 σ7 hf _ _ _ hP hD hS (lv_sub hl [1, 2, 0] rfl)
        · have hf := wc_f c9 hf
          refine lv_iconst (v := 1) hx hb wd_M_better_31 (by decide) ?_
          exact wx_zret hx hb hr narrow_b1 hlocks hf hP hS wd_M_better_32
  have J2 : ∀ (n : Nat) (x1 : Int32) (σ : wc_S), wf_M_better_2 n x1 σ = some res → wx_Arr p l e ({ frames := 5, cells := 0, slots := 0, locals := 118 }) s m args below meth c D ad cI cZ cJ cG A (MQ below (wx_Qi D ad cI cZ cJ cG res A) args s 0 0 A) 3 0 0 2 [(0, .ref (ad 71)), (1, .int x1)] [] σ := by
    intro  n
    induction n with
    | zero => intro x1 σ hf; exact absurd hf (by intro h9; cases h9)
    | succ n hk2 =>
      intro x1 σ hf H locs ls hP hD hS hl
      have hf : wf_M_better_2_b (wf_M_better_2 n) x1 σ = some res := hf
      unfold wf_M_better_2_b at hf
      refine lv_iload_n hx hb wd_M_better_2 rfl (lv_at hl 1 rfl) ?_
      refine lv_aload_n hx hb wd_M_better_3 rfl (lv_at hl 0 rfl) ?_
      refine wx_get (v := .int (σ 71 1)) (C := "WidthCampaignsModel") (T := wx_TM) (N' := 29) hx hb hts wi_M hown hK hP 71 (by decide) rfl rfl 1 (by decide) wt_631 (fun _ h9 => h9) rfl wd_M_better_4 ?_
      refine lv_topi (fun v1 ev1 => ?_)
      have hf := wc_st_e ev1 hf
      refine lv_icmp_ge (tgt := 45) hx hb wd_M_better_7 (by decide) (fun c2 => ?_) (fun c2 => ?_)
      · have hf := wc_t c2 hf
        refine lv_iconst (v := 0) hx hb wd_M_better_45 (by decide) ?_
        exact wx_zret hx hb hr narrow_b0 hlocks hf hP hS wd_M_better_46
      · have hf := wc_f c2 hf
        refine lv_iload_n hx hb wd_M_better_10 rfl (lv_at hl 1 rfl) ?_
        refine lv_iconst (v := 1) hx hb wd_M_better_11 (by decide) ?_
        refine lv_iadd hx hb wd_M_better_12 ?_
        refine lv_topi (fun v3 ev3 => ?_)
        have hf := wc_st_e ev3 hf
        refine lv_istore_n (lv' := [(2, .int v3), (0, .ref (ad 71)), (1, .int x1)]) hx hb wd_M_better_13 rfl hl (by decide) rfl (fun ls hl => ?_)
        exact J14 (wf_M_better_2 n) hk2 16 x1 v3 σ hf _ _ _ hP hD hS (lv_sub hl [1, 2, 0] rfl)
  unfold wf_M_better at hf
  refine lv_iconst (v := 0) hx hb wd_M_better_0 (by decide) ?_
  refine lv_istore_n (lv' := [(1, .int 0), (0, .ref (ad 71))]) hx hb wd_M_better_1 rfl hl (by decide) rfl (fun ls hl => ?_)
  exact J2 16 0 σ hf _ _ _ hP hD hS (lv_sub hl [1, 0] rfl)
set_option maxHeartbeats 4000000 in
set_option maxRecDepth 100000 in
theorem wm_M_improve (l : Launch) (D : va_G) (ad : Nat → Nat) (cI cZ cJ cG : ClassId) (sz : Nat) (a1 : Int32) (σ : wc_S) (res : Int32 × wc_S) (hf : wf_M_improve a1 σ = some res) : Met l wy_M_improve (wx_ws_M_improve) ({ frames := 6, cells := 0, slots := 0, locals := 140 }) (va_Pc [.ref (ad 71), .int a1] (wx_pre D ad cI cZ cJ cG σ sz)) (wx_Qi D ad cI cZ cJ cG res (va_A (wx_W ad cI cZ cJ cG σ) sz)) 0 0 (va_A (wx_W ad cI cZ cJ cG σ) sz) := by
  refine wx_ofW (cc := prog_8_method_30_code) (maxL := 3) (ret := (some .int)) (Qc := fun A => wx_Qi D ad cI cZ cJ cG res A) [.ref (ad 71), .int a1] (by decide) rfl (Nat.le_of_ble_eq_true rfl) ?_
  intro p e s m args below meth c A ls hin hl
  obtain ⟨hx, hb, hr, hts, hown, hlocks, hml, hA, hP, hK, hD, hC, hN, hS⟩ := hin
  have hl : lv_has ls 3 [(0, .ref (ad 71)), (1, .int a1)] := hl
  have J23 : ∀ (n : Nat) (x1 : Int32) (x2 : Int32) (σ : wc_S), wf_M_improve_23 n x1 x2 σ = some res → wx_Arr p l e ({ frames := 6, cells := 0, slots := 0, locals := 140 }) s m args below meth c D ad cI cZ cJ cG A (MQ below (wx_Qi D ad cI cZ cJ cG res A) args s 0 0 A) 3 0 0 23 [(0, .ref (ad 71)), (1, .int x1), (2, .int x2)] [] σ := by
    intro  n
    induction n with
    | zero => intro x1 x2 σ hf; exact absurd hf (by intro h9; cases h9)
    | succ n hk23 =>
      intro x1 x2 σ hf H locs ls hP hD hS hl
      have hf : wf_M_improve_23_b (wf_M_improve_23 n) x1 x2 σ = some res := hf
      unfold wf_M_improve_23_b at hf
      refine lv_iload_n hx hb wd_M_improve_23 rfl (lv_at hl 2 rfl) ?_
      refine lv_iload_n hx hb wd_M_improve_24 rfl (lv_at hl 1 rfl) ?_
      refine lv_icmp_ge (tgt := 41) hx hb wd_M_improve_25 (by decide) (fun c7 => ?_) (fun c7 => ?_)
      · have hf := wc_t c7 hf
        refine lv_iload_n hx hb wd_M_improve_41 rfl (lv_at hl 2 rfl) ?_
        exact wx_iret hx hb hr hlocks hf hP hS wd_M_improve_42
      · have hf := wc_f c7 hf
        refine lv_aload_n hx hb wd_M_improve_28 rfl (lv_at hl 0 rfl) ?_
        obtain ⟨r9, σ8, hq, hf⟩ := wc_b2_e hf
        refine wx_calli (va_runV (As := []) (rest := []) ⟨hx, hb, hml, hown, hts⟩ (wm_M_better l D ad cI cZ cJ cG _ σ _ hq) (wx_cwV 0 hts wt_830 wt_829 wp_42 wt_7 wt_827 wh_M_better rfl rfl ⟨Nat.le_of_ble_eq_true rfl, Nat.le_of_ble_eq_true rfl⟩) (wx_preV hK hP hD hS hA hC (by decide) rfl rfl) rfl rfl hl.1 rfl (lv_room (Nat.le_of_ble_eq_true rfl)) wd_M_improve_29 ⟨Nat.le_of_ble_eq_true rfl, Nat.le_of_ble_eq_true rfl⟩) hD hS hA (fun H locs hP hD hS => ?_)
        refine lv_if_eq (tgt := 41) hx hb wd_M_improve_32 (by decide) (fun c10 => ?_) (fun c10 => ?_)
        · have hf := wc_t c10 hf
          refine lv_iload_n hx hb wd_M_improve_41 rfl (lv_at hl 2 rfl) ?_
          exact wx_iret hx hb hr hlocks hf hP hS wd_M_improve_42
        · have hf := wc_f c10 hf
          obtain ⟨v11, ev11⟩ : ∃ y : Int32, y = x2 + 1 := ⟨_, rfl⟩
          have hf := wc_st_e ev11 hf
          refine lv_iinc (v := v11) (lv' := [(2, .int v11), (0, .ref (ad 71)), (1, .int x1)]) hx hb wd_M_improve_35 hl (k := 2) rfl (by rw [ev11]; rfl) (by decide) rfl (fun ls hl => ?_)
          refine lv_goto (tgt := 23) hx hb wd_M_improve_38 (by decide) ?_
          exact hk23 x1 v11 σ8 hf _ _ _ hP hD hS (lv_sub hl [1, 2, 0] rfl)
  unfold wf_M_improve at hf
  refine lv_aload_n hx hb wd_M_improve_0 rfl (lv_at hl 0 rfl) ?_
  refine lv_aload_n hx hb wd_M_improve_1 rfl (lv_at hl 0 rfl) ?_
  refine wx_get (v := .int (σ 71 22)) (C := "WidthCampaignsModel") (T := wx_TM) (N' := 29) hx hb hts wi_M hown hK hP 71 (by decide) rfl rfl 22 (by decide) wt_652 (fun _ h9 => h9) rfl wd_M_improve_2 ?_
  refine lv_topi (fun v1 ev1 => ?_)
  have hf := wc_st_e ev1 hf
  refine lv_iload_n hx hb wd_M_improve_5 rfl (lv_at hl 1 rfl) ?_
  refine lv_iconst (v := 0) hx hb wd_M_improve_6 (by decide) ?_
  refine lv_bipush (v := 100) hx hb wd_M_improve_7 (by decide) ?_
  obtain ⟨r3, σ2, hq, hf⟩ := wc_b2_e hf
  refine wx_calli (va_runS (As := [.int a1, .int 0, .int 100]) (rest := [.int v1, .ref (ad 71)]) ⟨hx, hb, hml, hown, hts⟩ (wm_M_in l D ad cI cZ cJ cG _ a1 0 100 σ _ hq) (wx_cwS 3 hts wt_728 wt_727 wt_7 wt_726 wh_M_in rfl rfl ⟨Nat.le_of_ble_eq_true rfl, Nat.le_of_ble_eq_true rfl⟩) (wx_preS hK hP hD hS hA hC) rfl rfl hl.1 rfl (lv_room (Nat.le_of_ble_eq_true rfl)) wd_M_improve_9 ⟨Nat.le_of_ble_eq_true rfl, Nat.le_of_ble_eq_true rfl⟩) hD hS hA (fun H locs hP hD hS => ?_)
  refine lv_iconst (v := 1) hx hb wd_M_improve_12 (by decide) ?_
  obtain ⟨r5, σ4, hq, hf⟩ := wc_b2_e hf
  refine wx_calli (va_runV (As := [.int v1, .int r3, .int 1]) (rest := []) ⟨hx, hb, hml, hown, hts⟩ (wm_M_goes l D ad cI cZ cJ cG _ v1 r3 1 σ2 _ hq) (wx_cwV 3 hts wt_732 wt_731 wp_32 wt_7 wt_729 wh_M_goes rfl rfl ⟨Nat.le_of_ble_eq_true rfl, Nat.le_of_ble_eq_true rfl⟩) (wx_preV hK hP hD hS hA hC (by decide) rfl rfl) rfl rfl hl.1 rfl (lv_room (Nat.le_of_ble_eq_true rfl)) wd_M_improve_13 ⟨Nat.le_of_ble_eq_true rfl, Nat.le_of_ble_eq_true rfl⟩) hD hS hA (fun H locs hP hD hS => ?_)
  refine lv_if_ne (tgt := 21) hx hb wd_M_improve_16 (by decide) (fun c6 => ?_) (fun c6 => ?_)
  · have hf := wc_f c6 hf
    refine lv_iconst (v := 0) hx hb wd_M_improve_21 (by decide) ?_
    refine lv_istore_n (lv' := [(2, .int 0), (0, .ref (ad 71)), (1, .int a1)]) hx hb wd_M_improve_22 rfl hl (by decide) rfl (fun ls hl => ?_)
    exact J23 128 a1 0 σ4 hf _ _ _ hP hD hS (lv_sub hl [1, 2, 0] rfl)
  · have hf := wc_t c6 hf
    refine lv_iconst (v := 0) hx hb wd_M_improve_19 (by decide) ?_
    exact wx_iret hx hb hr hlocks hf hP hS wd_M_improve_20
