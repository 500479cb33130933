set_option maxHeartbeats 4000000 in
set_option maxRecDepth 100000 in
theorem wm_L_isWornWith (l : Launch) (D : va_G) (ad : Nat → Nat) (cI cZ cJ cG : ClassId) (sz : Nat) (b : Nat) (hb_ : b = 30 ∨ b = 49) (a1 : Int32) (σ : wc_S) (res : Int32 × wc_S) (hf : wf_L_isWornWith b a1 σ = some res) : Met l wy_L_isWornWith (wx_ws_L_isWornWith) ({ frames := 1, cells := 0, slots := 0, locals := 23 }) (va_Pc [.ref (ad b), .int a1] (wx_pre D ad cI cZ cJ cG σ sz)) (wx_Qi D ad cI cZ cJ cG res (va_A (wx_W ad cI cZ cJ cG σ) sz)) 0 0 (va_A (wx_W ad cI cZ cJ cG σ) sz) := by
  refine wx_ofW (cc := prog_3_method_11_code) (maxL := 4) (ret := (some .boolean)) (Qc := fun A => wx_Qi D ad cI cZ cJ cG res A) [.ref (ad b), .int a1] (by decide) rfl (Nat.le_of_ble_eq_true rfl) ?_
  intro p e s m args below meth c A ls hin hl
  obtain ⟨hx, hb, hr, hts, hown, hlocks, hml, hA, hP, hK, hD, hC, hN, hS⟩ := hin
  have hl : lv_has ls 4 [(0, .ref (ad b)), (1, .int a1)] := hl
  have J33 : ∀ (n : Nat) (x1 : Int32) (x2 : Int32) (σ : wc_S), wf_L_isWornWith_33 b n x1 x2 σ = some res → wx_Arr p l e ({ frames := 1, cells := 0, slots := 0, locals := 23 }) s m args below meth c D ad cI cZ cJ cG A (MQ below (wx_Qi D ad cI cZ cJ cG res A) args s 0 0 A) 4 0 0 33 [(0, .ref (ad b)), (1, .int x1), (2, .int x2)] [] σ := by
    intro  n
    induction n with
    | zero => intro x1 x2 σ hf; exact absurd hf (by intro h9; cases h9)
    | succ n hk33 =>
      intro x1 x2 σ hf H locs ls hP hD hS hl
      have hf : wf_L_isWornWith_33_b b (wf_L_isWornWith_33 b n) x1 x2 σ = some res := hf
      unfold wf_L_isWornWith_33_b at hf
      refine lv_iload_n hx hb wd_L_isWornWith_33 rfl (lv_at hl 2 rfl) ?_
      refine lv_aload_n hx hb wd_L_isWornWith_34 rfl (lv_at hl 0 rfl) ?_
      refine wx_get (v := .ref (ad 1)) (C := "WidthCampaigns$Line") (T := wx_TL) (N' := 10) hx hb hts wi_L hown hK hP b (wx_Ll0 hb_) (wx_L0 hb_ _) rfl 0 (by decide) wt_153 (fun _ h9 => h9) rfl wd_L_isWornWith_35 ?_
      refine wx_getN (v := .ref (ad 26)) (C := "WidthCampaigns$Plant") (T := wx_TP) (N' := 15) hx hb hts wi_P hown hK hP 1 (by decide) rfl rfl 9 (by decide) (hN.1 _ (List.mem_of_getElem? (i := 9) rfl) #[]) (fun _ h9 => h9) rfl wd_L_isWornWith_38 ?_
      refine wx_getN (v := .int (σ 26 3)) (C := "WidthCampaigns$WidthGroups") (T := wx_TG) (N' := 4) hx hb hts wi_G hown hK hP 26 (by decide) rfl rfl 3 (by decide) (hN.1 _ (List.mem_of_getElem? (i := 10) rfl) #[]) (fun _ h9 => h9) rfl wd_L_isWornWith_41 ?_
      refine lv_topi (fun v9 ev9 => ?_)
      have hf := wc_st_e ev9 hf
      refine lv_icmp_ge (tgt := 93) hx hb wd_L_isWornWith_44 (by decide) (fun c10 => ?_) (fun c10 => ?_)
      · have hf := wc_t c10 hf
        refine lv_iconst (v := 0) hx hb wd_L_isWornWith_93 (by decide) ?_
        exact wx_zret hx hb hr narrow_b0 hlocks hf hP hS wd_L_isWornWith_94
      · have hf := wc_f c10 hf
        refine lv_aload_n hx hb wd_L_isWornWith_47 rfl (lv_at hl 0 rfl) ?_
        refine wx_get (v := .ref (ad (b + 8))) (C := "WidthCampaigns$Line") (T := wx_TL) (N' := 10) hx hb hts wi_L hown hK hP b (wx_Ll0 hb_) (wx_L0 hb_ _) rfl 8 (by decide) wt_164 (fun _ h9 => h9) rfl wd_L_isWornWith_48 ?_
        refine lv_aload_n hx hb wd_L_isWornWith_51 rfl (lv_at hl 0 rfl) ?_
        refine wx_get (v := .int (σ b 9)) (C := "WidthCampaigns$Line") (T := wx_TL) (N' := 10) hx hb hts wi_L hown hK hP b (wx_Ll0 hb_) (wx_L0 hb_ _) rfl 9 (by decide) wt_165 (fun _ h9 => h9) rfl wd_L_isWornWith_52 ?_
        refine lv_topi (fun v11 ev11 => ?_)
        have hf := wc_st_e ev11 hf
        obtain ⟨h12, hf⟩ := wc_gd_e hf
        refine wx_aald (bs := (b + 9)) hx hb hK hP (b + 8) (n := 10) (wx_Ll8 hb_) (wx_L8 hb_ _) h12 wd_L_isWornWith_55 ?_
        refine lv_iload_n hx hb wd_L_isWornWith_56 rfl (lv_at hl 2 rfl) ?_
        obtain ⟨h13, hf⟩ := wc_gd_e hf
        refine wx_iald hx hb hK hP (b + 9 + v11.toNatClampNeg) (n := 4) (wx_gLl hb_ h12) (wx_gL hb_ h12 _) (wc_in_e h13) wd_L_isWornWith_57 ?_
        refine lv_topi (fun v14 ev14 => ?_)
        have hf := wc_st_e ev14 hf
        refine lv_aload_n hx hb wd_L_isWornWith_58 rfl (lv_at hl 0 rfl) ?_
        refine wx_get (v := .ref (ad 1)) (C := "WidthCampaigns$Line") (T := wx_TL) (N' := 10) hx hb hts wi_L hown hK hP b (wx_Ll0 hb_) (wx_L0 hb_ _) rfl 0 (by decide) wt_153 (fun _ h9 => h9) rfl wd_L_isWornWith_59 ?_
        refine lv_iload_n hx hb wd_L_isWornWith_62 rfl (lv_at hl 2 rfl) ?_
        refine lv_iload_n hx hb wd_L_isWornWith_63 rfl (lv_at hl 1 rfl) ?_
        obtain ⟨r16, σ15, hq, hf⟩ := wc_b2_e hf
        refine wx_calli (va_runVN (As := [.int x2, .int x1]) (rest := [.int v14]) ⟨hx, hb, hml, hown, hts⟩ (wm_P_kilometresInGroup l D ad cI cZ cJ cG _ x2 x1 σ _ hq) (wx_cwN 2 hts wt_501 wt_500 wp_20 wt_2 (hN.1 _ (List.mem_of_getElem? (i := 11) rfl) #[]) wh_P_kilometresInGroup rfl rfl ⟨Nat.le_of_ble_eq_true rfl, Nat.le_of_ble_eq_true rfl⟩) (wx_preV hK hP hD hS hA hC (by decide) rfl rfl) rfl rfl hl.1 rfl (lv_room (Nat.le_of_ble_eq_true rfl)) wd_L_isWornWith_64 ⟨Nat.le_of_ble_eq_true rfl, Nat.le_of_ble_eq_true rfl⟩) hD hS hA (fun H locs hP hD hS => ?_)
        refine lv_iadd hx hb wd_L_isWornWith_67 ?_
        refine lv_topi (fun v17 ev17 => ?_)
        have hf := wc_st_e ev17 hf
        refine lv_istore_n (lv' := [(3, .int v17), (0, .ref (ad b)), (1, .int x1), (2, .int x2)]) hx hb wd_L_isWornWith_68 rfl hl (by decide) rfl (fun ls hl => ?_)
        refine lv_iload_n hx hb wd_L_isWornWith_69 rfl (lv_at hl 0 rfl) ?_
        refine lv_aload_n hx hb wd_L_isWornWith_70 rfl (lv_at hl 1 rfl) ?_
        refine wx_get (v := .ref (ad 1)) (C := "WidthCampaigns$Line") (T := wx_TL) (N' := 10) hx hb hts wi_L hown hK hP b (wx_Ll0 hb_) (wx_L0 hb_ _) rfl 0 (by decide) wt_153 (fun _ h9 => h9) rfl wd_L_isWornWith_71 ?_
        refine wx_getN (v := .ref (ad 26)) (C := "WidthCampaigns$Plant") (T := wx_TP) (N' := 15) hx hb hts wi_P hown hK hP 1 (by decide) rfl rfl 9 (by decide) (hN.1 _ (List.mem_of_getElem? (i := 9) rfl) #[]) (fun _ h9 => h9) rfl wd_L_isWornWith_74 ?_
        refine wx_getN (v := .ref (ad 29)) (C := "WidthCampaigns$WidthGroups") (T := wx_TG) (N' := 4) hx hb hts wi_G hown hK hP 26 (by decide) rfl rfl 2 (by decide) (hN.1 _ (List.mem_of_getElem? (i := 12) rfl) #[]) (fun _ h9 => h9) rfl wd_L_isWornWith_77 ?_
        refine lv_iload_n hx hb wd_L_isWornWith_80 rfl (lv_at hl 3 rfl) ?_
        obtain ⟨h18, hf⟩ := wc_gd_e hf
        refine wx_iald hx hb hK hP 29 (n := 4) (by decide) rfl (wc_in_e h18) wd_L_isWornWith_81 ?_
        refine lv_topi (fun v19 ev19 => ?_)
        have hf := wc_st_e ev19 hf
        refine lv_icmp_le (tgt := 87) hx hb wd_L_isWornWith_82 (by decide) (fun c20 => ?_) (fun c20 => ?_)
        · have hf := wc_t c20 hf
          obtain ⟨v21, ev21⟩ : ∃ y : Int32, y = x2 + 1 := ⟨_, rfl⟩
          have hf := wc_st_e ev21 hf
          refine lv_iinc (v := v21) (lv' := [(2, .int v21), (3, .int v17), (0, .ref (ad b)), (1, .int x1)]) hx hb wd_L_isWornWith_87 hl (k := 3) rfl (by rw [ev21]; rfl) (by decide) rfl (fun ls hl => ?_)
          refine lv_goto (tgt := 33) hx hb wd_L_isWornWith_90 (by decide) ?_
          exact hk33 x1 v21 σ15 hf _ _ _ hP hD hS (lv_sub hl [2, 3, 0] rfl)
        · have hf := wc_f c20 hf
          refine lv_iconst (v := 1) hx hb wd_L_isWornWith_85 (by decide) ?_
          exact wx_zret hx hb hr narrow_b1 hlocks hf hP hS wd_L_isWornWith_86
  unfold wf_L_isWornWith at hf
  refine lv_aload_n hx hb wd_L_isWornWith_0 rfl (lv_at hl 0 rfl) ?_
  refine wx_get (v := .ref (ad (b + 7))) (C := "WidthCampaigns$Line") (T := wx_TL) (N' := 10) hx hb hts wi_L hown hK hP b (wx_Ll0 hb_) (wx_L0 hb_ _) rfl 7 (by decide) wt_163 (fun _ h9 => h9) rfl wd_L_isWornWith_1 ?_
  refine lv_aload_n hx hb wd_L_isWornWith_4 rfl (lv_at hl 0 rfl) ?_
  refine wx_get (v := .int (σ b 9)) (C := "WidthCampaigns$Line") (T := wx_TL) (N' := 10) hx hb hts wi_L hown hK hP b (wx_Ll0 hb_) (wx_L0 hb_ _) rfl 9 (by decide) wt_165 (fun _ h9 => h9) rfl wd_L_isWornWith_5 ?_
  refine lv_topi (fun v1 ev1 => ?_)
  have hf := wc_st_e ev1 hf
  obtain ⟨h2, hf⟩ := wc_gd_e hf
  refine wx_iald hx hb hK hP (b + 7) (n := 10) (wx_Ll7 hb_) (wx_L7 hb_ _) (wc_in_e h2) wd_L_isWornWith_8 ?_
  refine lv_topi (fun v3 ev3 => ?_)
  have hf := wc_st_e ev3 hf
  refine lv_aload_n hx hb wd_L_isWornWith_9 rfl (lv_at hl 0 rfl) ?_
  refine wx_get (v := .ref (ad 1)) (C := "WidthCampaigns$Line") (T := wx_TL) (N' := 10) hx hb hts wi_L hown hK hP b (wx_Ll0 hb_) (wx_L0 hb_ _) rfl 0 (by decide) wt_153 (fun _ h9 => h9) rfl wd_L_isWornWith_10 ?_
  refine wx_getN (v := .ref (ad 5)) (C := "WidthCampaigns$Plant") (T := wx_TP) (N' := 15) hx hb hts wi_P hown hK hP 1 (by decide) rfl rfl 3 (by decide) (hN.1 _ (List.mem_of_getElem? (i := 7) rfl) #[]) (fun _ h9 => h9) rfl wd_L_isWornWith_13 ?_
  refine lv_iload_n hx hb wd_L_isWornWith_16 rfl (lv_at hl 1 rfl) ?_
  obtain ⟨h4, hf⟩ := wc_gd_e hf
  refine wx_iald hx hb hK hP 5 (n := 9) (by decide) rfl (wc_in_e h4) wd_L_isWornWith_17 ?_
  refine lv_topi (fun v5 ev5 => ?_)
  have hf := wc_st_e ev5 hf
  refine lv_iadd hx hb wd_L_isWornWith_18 ?_
  refine lv_topi (fun v6 ev6 => ?_)
  have hf := wc_st_e ev6 hf
  refine lv_aload_n hx hb wd_L_isWornWith_19 rfl (lv_at hl 0 rfl) ?_
  refine wx_get (v := .ref (ad 1)) (C := "WidthCampaigns$Line") (T := wx_TL) (N' := 10) hx hb hts wi_L hown hK hP b (wx_Ll0 hb_) (wx_L0 hb_ _) rfl 0 (by decide) wt_153 (fun _ h9 => h9) rfl wd_L_isWornWith_20 ?_
  refine wx_getN (v := .int (σ 1 12)) (C := "WidthCampaigns$Plant") (T := wx_TP) (N' := 15) hx hb hts wi_P hown hK hP 1 (by decide) rfl rfl 12 (by decide) (hN.1 _ (List.mem_of_getElem? (i := 8) rfl) #[]) (fun _ h9 => h9) rfl wd_L_isWornWith_23 ?_
  refine lv_topi (fun v7 ev7 => ?_)
  have hf := wc_st_e ev7 hf
  refine lv_icmp_le (tgt := 31) hx hb wd_L_isWornWith_26 (by decide) (fun c8 => ?_) (fun c8 => ?_)
  · have hf := wc_t c8 hf
    refine lv_iconst (v := 0) hx hb wd_L_isWornWith_31 (by decide) ?_
    refine lv_istore_n (lv' := [(2, .int 0), (0, .ref (ad b)), (1, .int a1)]) hx hb wd_L_isWornWith_32 rfl hl (by decide) rfl (fun ls hl => ?_)
    exact J33 16 a1 0 σ hf _ _ _ hP hD hS (lv_sub hl [1, 2, 0] rfl)
  · have hf := wc_f c8 hf
    refine lv_iconst (v := 1) hx hb wd_L_isWornWith_29 (by decide) ?_
    exact wx_zret hx hb hr narrow_b1 hlocks hf hP hS wd_L_isWornWith_30
set_option maxHeartbeats 4000000 in
set_option maxRecDepth 100000 in
theorem wm_L_countKilometres (l : Launch) (D : va_G) (ad : Nat → Nat) (cI cZ cJ cG : ClassId) (sz : Nat) (b : Nat) (hb_ : b = 30 ∨ b = 49) (a1 : Int32) (a2 : Int32) (σ : wc_S) (res : wc_S) (hf : wf_L_countKilometres b a1 a2 σ = some res) : Met l wy_L_countKilometres (wx_ws_L_countKilometres) ({ frames := 1, cells := 0, slots := 0, locals := 23 }) (va_Pc [.ref (ad b), .int a1, .int a2] (wx_pre D ad cI cZ cJ cG σ sz)) (wx_Qv D ad cI cZ cJ cG res (va_A (wx_W ad cI cZ cJ cG σ) sz)) 0 0 (va_A (wx_W ad cI cZ cJ cG σ) sz) := by
  refine wx_ofW (cc := prog_3_method_12_code) (maxL := 6) (ret := none) (Qc := fun A => wx_Qv D ad cI cZ cJ cG res A) [.ref (ad b), .int a1, .int a2] (by decide) rfl (Nat.le_of_ble_eq_true rfl) ?_
  intro p e s m args below meth c A ls hin hl
  obtain ⟨hx, hb, hr, hts, hown, hlocks, hml, hA, hP, hK, hD, hC, hN, hS⟩ := hin
  have hl : lv_has ls 6 [(0, .ref (ad b)), (1, .int a1), (2, .int a2)] := hl
  have J78 : ∀ (k43 : Int32 → Int32 → Int32 → Int32 → wc_S → Option wc_S) (hk43 : (∀ (x1 : Int32) (x2 : Int32) (x3 : Int32) (x4 : Int32) (σ : wc_S), k43 x1 x2 x3 x4 σ = some res → wx_Arr p l e ({ frames := 1, cells := 0, slots := 0, locals := 23 }) s m args below meth c D ad cI cZ cJ cG A (MQ below (wx_Qv D ad cI cZ cJ cG res A) args s 0 0 A) 6 0 0 43 [(0, .ref (ad b)), (1, .int x1), (2, .int x2), (3, .int x3), (4, .int x4)] [] σ)) (x1 : Int32) (x2 : Int32) (x3 : Int32) (x4 : Int32) (s0 : Int32) (σ : wc_S), wf_L_countKilometres_78 b k43 x1 x2 x3 x4 s0 σ = some res → wx_Arr p l e ({ frames := 1, cells := 0, slots := 0, locals := 23 }) s m args below meth c D ad cI cZ cJ cG A (MQ below (wx_Qv D ad cI cZ cJ cG res A) args s 0 0 A) 6 0 0 78 [(0, .ref (ad b)), (1, .int x1), (2, .int x2), (3, .int x3), (4, .int x4)] [.int s0] σ := by
    intro k43 hk43 x1 x2 x3 x4 s0 σ hf H locs ls hP hD hS hl
    unfold wf_L_countKilometres_78 at hf
    refine lv_istore (lv' := [(5, .int s0), (0, .ref (ad b)), (1, .int x1), (2, .int x2), (3, .int x3), (4, .int x4)]) hx hb wd_L_countKilometres_78 hl (by decide) rfl (fun ls hl => ?_)
    refine lv_aload_n hx hb wd_L_countKilometres_80 rfl (lv_at hl 1 rfl) ?_
    refine wx_get (v := .ref (ad (b + 8))) (C := "WidthCampaigns$Line") (T := wx_TL) (N' := 10) hx hb hts wi_L hown hK hP b (wx_Ll0 hb_) (wx_L0 hb_ _) rfl 8 (by decide) wt_164 (fun _ h9 => h9) rfl wd_L_countKilometres_81 ?_
    refine lv_iload_n hx hb wd_L_countKilometres_84 rfl (lv_at hl 4 rfl) ?_
    obtain ⟨h19, hf⟩ := wc_gd_e hf
    refine wx_aald (bs := (b + 9)) hx hb hK hP (b + 8) (n := 10) (wx_Ll8 hb_) (wx_L8 hb_ _) h19 wd_L_countKilometres_85 ?_
    refine lv_iload hx hb wd_L_countKilometres_86 (lv_at hl 5 rfl) ?_
    refine lv_iload hx hb wd_L_countKilometres_88 (lv_at hl 0 rfl) ?_
    refine lv_aload_n hx hb wd_L_countKilometres_90 rfl (lv_at hl 1 rfl) ?_
    refine wx_get (v := .ref (ad 1)) (C := "WidthCampaigns$Line") (T := wx_TL) (N' := 10) hx hb hts wi_L hown hK hP b (wx_Ll0 hb_) (wx_L0 hb_ _) rfl 0 (by decide) wt_153 (fun _ h9 => h9) rfl wd_L_countKilometres_91 ?_
    refine lv_iload hx hb wd_L_countKilometres_94 (lv_at hl 5 rfl) ?_
    refine lv_iload_n hx hb wd_L_countKilometres_96 rfl (lv_at hl 2 rfl) ?_
    obtain ⟨r21, σ20, hq, hf⟩ := wc_b2_e hf
    refine wx_calli (va_runVN (As := [.int x4, .int x1]) (rest := [.int s0, .int x4, .ref (ad (b + 9 + x3.toNatClampNeg))]) ⟨hx, hb, hml, hown, hts⟩ (wm_P_kilometresInGroup l D ad cI cZ cJ cG _ x4 x1 σ _ hq) (wx_cwN 2 hts wt_501 wt_500 wp_20 wt_2 (hN.1 _ (List.mem_of_getElem? (i := 11) rfl) #[]) wh_P_kilometresInGroup rfl rfl ⟨Nat.le_of_ble_eq_true rfl, Nat.le_of_ble_eq_true rfl⟩) (wx_preV hK hP hD hS hA hC (by decide) rfl rfl) rfl rfl hl.1 rfl (lv_room (Nat.le_of_ble_eq_true rfl)) wd_L_countKilometres_97 ⟨Nat.le_of_ble_eq_true rfl, Nat.le_of_ble_eq_true rfl⟩) hD hS hA (fun H locs hP hD hS => ?_)
    refine lv_iadd hx hb wd_L_countKilometres_100 ?_
    refine lv_topi (fun v22 ev22 => ?_)
    have hf := wc_st_e ev22 hf
    obtain ⟨h23, hf⟩ := wc_gd_e hf
    refine wx_iast hx hb hK hP hD hS (b + 9 + x3.toNatClampNeg) (n := 4) (wx_gLl hb_ h19) (fun _ => (wx_gL hb_ h19 _)) h23 wd_L_countKilometres_101 (fun σ24 H locs eσ24 hP hD hS => ?_)
    have hf := wc_st_e eσ24 hf
    obtain ⟨v25, ev25⟩ : ∃ y : Int32, y = x4 + 1 := ⟨_, rfl⟩
    have hf := wc_st_e ev25 hf
    refine lv_iinc (v := v25) (lv' := [(4, .int v25), (5, .int s0), (0, .ref (ad b)), (1, .int x1), (2, .int x2), (3, .int x3)]) hx hb wd_L_countKilometres_102 hl (k := 5) rfl (by rw [ev25]; rfl) (by decide) rfl (fun ls hl => ?_)
    refine lv_goto (tgt := 43) hx hb wd_L_countKilometres_105 (by decide) ?_
    exact hk43 x1 x2 x3 v25 σ24 hf _ _ _ hP hD hS (lv_sub hl [2, 3, 4, 5, 0] rfl)
  have J43 : ∀ (n : Nat) (x1 : Int32) (x2 : Int32) (x3 : Int32) (x4 : Int32) (σ : wc_S), wf_L_countKilometres_43 b n x1 x2 x3 x4 σ = some res → wx_Arr p l e ({ frames := 1, cells := 0, slots := 0, locals := 23 }) s m args below meth c D ad cI cZ cJ cG A (MQ below (wx_Qv D ad cI cZ cJ cG res A) args s 0 0 A) 6 0 0 43 [(0, .ref (ad b)), (1, .int x1), (2, .int x2), (3, .int x3), (4, .int x4)] [] σ := by
    intro  n
    induction n with
    | zero => intro x1 x2 x3 x4 σ hf; exact absurd hf (by intro h9; cases h9)
    | succ n hk43 =>
      intro x1 x2 x3 x4 σ hf H locs ls hP hD hS hl
      have hf : wf_L_countKilometres_43_b b (wf_L_countKilometres_43 b n) x1 x2 x3 x4 σ = some res := hf
      unfold wf_L_countKilometres_43_b at hf
      refine lv_iload hx hb wd_L_countKilometres_43 (lv_at hl 4 rfl) ?_
      refine lv_aload_n hx hb wd_L_countKilometres_45 rfl (lv_at hl 0 rfl) ?_
      refine wx_get (v := .ref (ad 1)) (C := "WidthCampaigns$Line") (T := wx_TL) (N' := 10) hx hb hts wi_L hown hK hP b (wx_Ll0 hb_) (wx_L0 hb_ _) rfl 0 (by decide) wt_153 (fun _ h9 => h9) rfl wd_L_countKilometres_46 ?_
      refine wx_getN (v := .ref (ad 26)) (C := "WidthCampaigns$Plant") (T := wx_TP) (N' := 15) hx hb hts wi_P hown hK hP 1 (by decide) rfl rfl 9 (by decide) (hN.1 _ (List.mem_of_getElem? (i := 9) rfl) #[]) (fun _ h9 => h9) rfl wd_L_countKilometres_49 ?_
      refine wx_getN (v := .int (σ 26 3)) (C := "WidthCampaigns$WidthGroups") (T := wx_TG) (N' := 4) hx hb hts wi_G hown hK hP 26 (by decide) rfl rfl 3 (by decide) (hN.1 _ (List.mem_of_getElem? (i := 10) rfl) #[]) (fun _ h9 => h9) rfl wd_L_countKilometres_52 ?_
      refine lv_topi (fun v12 ev12 => ?_)
      have hf := wc_st_e ev12 hf
      refine lv_icmp_ge (tgt := 108) hx hb wd_L_countKilometres_55 (by decide) (fun c13 => ?_) (fun c13 => ?_)
      · have hf := wc_t c13 hf
        exact wx_vret hx hb hr hlocks hf hP hS wd_L_countKilometres_108
      · have hf := wc_f c13 hf
        refine lv_iload_n hx hb wd_L_countKilometres_58 rfl (lv_at hl 2 rfl) ?_
        refine lv_if_eq (tgt := 66) hx hb wd_L_countKilometres_59 (by decide) (fun c14 => ?_) (fun c14 => ?_)
        · have hf := wc_t c14 hf
          refine lv_aload_n hx hb wd_L_countKilometres_66 rfl (lv_at hl 0 rfl) ?_
          refine wx_get (v := .ref (ad (b + 8))) (C := "WidthCampaigns$Line") (T := wx_TL) (N' := 10) hx hb hts wi_L hown hK hP b (wx_Ll0 hb_) (wx_L0 hb_ _) rfl 8 (by decide) wt_164 (fun _ h9 => h9) rfl wd_L_countKilometres_67 ?_
          refine lv_aload_n hx hb wd_L_countKilometres_70 rfl (lv_at hl 0 rfl) ?_
          refine wx_get (v := .int (σ b 9)) (C := "WidthCampaigns$Line") (T := wx_TL) (N' := 10) hx hb hts wi_L hown hK hP b (wx_Ll0 hb_) (wx_L0 hb_ _) rfl 9 (by decide) wt_165 (fun _ h9 => h9) rfl wd_L_countKilometres_71 ?_
          refine lv_topi (fun v15 ev15 => ?_)
          have hf := wc_st_e ev15 hf
          obtain ⟨h16, hf⟩ := wc_gd_e hf
          refine wx_aald (bs := (b + 9)) hx hb hK hP (b + 8) (n := 10) (wx_Ll8 hb_) (wx_L8 hb_ _) h16 wd_L_countKilometres_74 ?_
          refine lv_iload hx hb wd_L_countKilometres_75 (lv_at hl 4 rfl) ?_
          obtain ⟨h17, hf⟩ := wc_gd_e hf
          refine wx_iald hx hb hK hP (b + 9 + v15.toNatClampNeg) (n := 4) (wx_gLl hb_ h16) (wx_gL hb_ h16 _) (wc_in_e h17) wd_L_countKilometres_77 ?_
          refine lv_topi (fun v18 ev18 => ?_)
          have hf := wc_st_e ev18 hf
          exact J78 (wf_L_countKilometres_43 b n) hk43 x1 x2 x3 x4 v18 σ hf _ _ _ hP hD hS (lv_sub hl [0, 1, 2, 3, 4] rfl)
        · have hf := wc_f c14 hf
          refine lv_iconst (v := 0) hx hb wd_L_countKilometres_62 (by decide) ?_
          refine lv_goto (tgt := 78) hx hb wd_L_countKilometres_63 (by decide) ?_
          exact J78 (wf_L_countKilometres_43 b n) hk43 x1 x2 x3 x4 0 σ hf _ _ _ hP hD hS (lv_sub hl [0, 1, 2, 3, 4] rfl)
  have J29 : ∀ (x1 : Int32) (x2 : Int32) (x3 : Int32) (s1 : Int32) (s2 : Int32) (σ : wc_S), wf_L_countKilometres_29 b x1 x2 x3 s1 s2 σ = some res → wx_Arr p l e ({ frames := 1, cells := 0, slots := 0, locals := 23 }) s m args below meth c D ad cI cZ cJ cG A (MQ below (wx_Qv D ad cI cZ cJ cG res A) args s 0 0 A) 6 0 0 29 [(0, .ref (ad b)), (1, .int x1), (2, .int x2), (3, .int x3)] [.int s2, .int s1, .ref (ad (b + 7))] σ := by
    intro  x1 x2 x3 s1 s2 σ hf H locs ls hP hD hS hl
    unfold wf_L_countKilometres_29 at hf
    refine lv_aload_n hx hb wd_L_countKilometres_29 rfl (lv_at hl 0 rfl) ?_
    refine wx_get (v := .ref (ad 1)) (C := "WidthCampaigns$Line") (T := wx_TL) (N' := 10) hx hb hts wi_L hown hK hP b (wx_Ll0 hb_) (wx_L0 hb_ _) rfl 0 (by decide) wt_153 (fun _ h9 => h9) rfl wd_L_countKilometres_30 ?_
    refine wx_getN (v := .ref (ad 5)) (C := "WidthCampaigns$Plant") (T := wx_TP) (N' := 15) hx hb hts wi_P hown hK hP 1 (by decide) rfl rfl 3 (by decide) (hN.1 _ (List.mem_of_getElem? (i := 7) rfl) #[]) (fun _ h9 => h9) rfl wd_L_countKilometres_33 ?_
    refine lv_iload_n hx hb wd_L_countKilometres_36 rfl (lv_at hl 1 rfl) ?_
    obtain ⟨h7, hf⟩ := wc_gd_e hf
    refine wx_iald hx hb hK hP 5 (n := 9) (by decide) rfl (wc_in_e h7) wd_L_countKilometres_37 ?_
    refine lv_topi (fun v8 ev8 => ?_)
    have hf := wc_st_e ev8 hf
    refine lv_iadd hx hb wd_L_countKilometres_38 ?_
    refine lv_topi (fun v9 ev9 => ?_)
    have hf := wc_st_e ev9 hf
    obtain ⟨h10, hf⟩ := wc_gd_e hf
    refine wx_iast hx hb hK hP hD hS (b + 7) (n := 10) (wx_Ll7 hb_) (fun _ => (wx_L7 hb_ _)) h10 wd_L_countKilometres_39 (fun σ11 H locs eσ11 hP hD hS => ?_)
    have hf := wc_st_e eσ11 hf
    refine lv_iconst (v := 0) hx hb wd_L_countKilometres_40 (by decide) ?_
    refine lv_istore (lv' := [(4, .int 0), (0, .ref (ad b)), (1, .int x1), (2, .int x2), (3, .int x3)]) hx hb wd_L_countKilometres_41 hl (by decide) rfl (fun ls hl => ?_)
    exact J43 16 x1 x2 x3 0 σ11 hf _ _ _ hP hD hS (lv_sub hl [1, 2, 3, 4, 0] rfl)
  unfold wf_L_countKilometres at hf
  refine lv_aload_n hx hb wd_L_countKilometres_0 rfl (lv_at hl 0 rfl) ?_
  refine wx_get (v := .int (σ b 9)) (C := "WidthCampaigns$Line") (T := wx_TL) (N' := 10) hx hb hts wi_L hown hK hP b (wx_Ll0 hb_) (wx_L0 hb_ _) rfl 9 (by decide) wt_165 (fun _ h9 => h9) rfl wd_L_countKilometres_1 ?_
  refine lv_topi (fun v1 ev1 => ?_)
  have hf := wc_st_e ev1 hf
  refine lv_iconst (v := 1) hx hb wd_L_countKilometres_4 (by decide) ?_
  refine lv_iadd hx hb wd_L_countKilometres_5 ?_
  refine lv_topi (fun v2 ev2 => ?_)
  have hf := wc_st_e ev2 hf
  refine lv_istore_n (lv' := [(3, .int v2), (0, .ref (ad b)), (1, .int a1), (2, .int a2)]) hx hb wd_L_countKilometres_6 rfl hl (by decide) rfl (fun ls hl => ?_)
  refine lv_aload_n hx hb wd_L_countKilometres_7 rfl (lv_at hl 1 rfl) ?_
  refine wx_get (v := .ref (ad (b + 7))) (C := "WidthCampaigns$Line") (T := wx_TL) (N' := 10) hx hb hts wi_L hown hK hP b (wx_Ll0 hb_) (wx_L0 hb_ _) rfl 7 (by decide) wt_163 (fun _ h9 => h9) rfl wd_L_countKilometres_8 ?_
  refine lv_iload_n hx hb wd_L_countKilometres_11 rfl (lv_at hl 0 rfl) ?_
  refine lv_iload_n hx hb wd_L_countKilometres_12 rfl (lv_at hl 3 rfl) ?_
  refine lv_if_eq (tgt := 20) hx hb wd_L_countKilometres_13 (by decide) (fun c3 => ?_) (fun c3 => ?_)
  · have hf := wc_t c3 hf
    refine lv_aload_n hx hb wd_L_countKilometres_20 rfl (lv_at hl 1 rfl) ?_
    refine wx_get (v := .ref (ad (b + 7))) (C := "WidthCampaigns$Line") (T := wx_TL) (N' := 10) hx hb hts wi_L hown hK hP b (wx_Ll0 hb_) (wx_L0 hb_ _) rfl 7 (by decide) wt_163 (fun _ h9 => h9) rfl wd_L_countKilometres_21 ?_
    refine lv_aload_n hx hb wd_L_countKilometres_24 rfl (lv_at hl 1 rfl) ?_
    refine wx_get (v := .int (σ b 9)) (C := "WidthCampaigns$Line") (T := wx_TL) (N' := 10) hx hb hts wi_L hown hK hP b (wx_Ll0 hb_) (wx_L0 hb_ _) rfl 9 (by decide) wt_165 (fun _ h9 => h9) rfl wd_L_countKilometres_25 ?_
    refine lv_topi (fun v4 ev4 => ?_)
    have hf := wc_st_e ev4 hf
    obtain ⟨h5, hf⟩ := wc_gd_e hf
    refine wx_iald hx hb hK hP (b + 7) (n := 10) (wx_Ll7 hb_) (wx_L7 hb_ _) (wc_in_e h5) wd_L_countKilometres_28 ?_
    refine lv_topi (fun v6 ev6 => ?_)
    have hf := wc_st_e ev6 hf
    exact J29 a1 a2 v2 v2 v6 σ hf _ _ _ hP hD hS (lv_sub hl [1, 2, 3, 0] rfl)
  · have hf := wc_f c3 hf
    refine lv_iconst (v := 0) hx hb wd_L_countKilometres_16 (by decide) ?_
    refine lv_goto (tgt := 29) hx hb wd_L_countKilometres_17 (by decide) ?_
    exact J29 a1 a2 v2 v2 0 σ hf _ _ _ hP hD hS (lv_sub hl [1, 2, 3, 0] rfl)
