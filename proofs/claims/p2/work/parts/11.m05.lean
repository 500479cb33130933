set_option maxHeartbeats 4000000 in
set_option maxRecDepth 100000 in
theorem wm_W_takePairIfBetter (l : Launch) (D : va_G) (ad : Nat → Nat) (cI cZ cJ cG : ClassId) (sz : Nat) (a1 : Int32) (a2 : Int32) (σ : wc_S) (res : Int32 × wc_S) (hf : wf_W_takePairIfBetter a1 a2 σ = some res) : Met l wy_W_takePairIfBetter (wx_ws_W_takePairIfBetter) ({ frames := 4, cells := 0, slots := 0, locals := 92 }) (va_Pc [.ref (ad 0), .int a1, .int a2] (wx_pre D ad cI cZ cJ cG σ sz)) (wx_Qi D ad cI cZ cJ cG res (va_A (wx_W ad cI cZ cJ cG σ) sz)) 0 0 (va_A (wx_W ad cI cZ cJ cG σ) sz) := by
  refine wx_ofW (cc := prog_1_method_24_code) (maxL := 3) (ret := (some .boolean)) (Qc := fun A => wx_Qi D ad cI cZ cJ cG res A) [.ref (ad 0), .int a1, .int a2] (by decide) rfl (Nat.le_of_ble_eq_true rfl) ?_
  intro p e s m args below meth c A ls hin hl
  obtain ⟨hx, hb, hr, hts, hown, hlocks, hml, hA, hP, hK, hD, hC, hN, hS⟩ := hin
  have hl : lv_has ls 3 [(0, .ref (ad 0)), (1, .int a1), (2, .int a2)] := hl
  unfold wf_W_takePairIfBetter at hf
  refine lv_aload_n hx hb wd_W_takePairIfBetter_0 rfl (lv_at hl 0 rfl) ?_
  refine wx_get (v := .ref (ad 49)) (C := "WidthCampaigns") (T := wx_TW) (N' := 7) hx hb hts wi_W hown hK hP 0 (by decide) rfl rfl 2 (by decide) wt_221 (fun _ h9 => h9) rfl wd_W_takePairIfBetter_1 ?_
  refine wx_getN (v := .ref (ad 50)) (C := "WidthCampaigns$Line") (T := wx_TL) (N' := 10) hx hb hts wi_L hown hK hP 49 (by decide) rfl rfl 1 (by decide) (hN.1 _ (List.mem_of_getElem? (i := 25) rfl) #[]) (fun _ h9 => h9) rfl wd_W_takePairIfBetter_4 ?_
  refine lv_iconst (v := 0) hx hb wd_W_takePairIfBetter_7 (by decide) ?_
  refine lv_aload_n hx hb wd_W_takePairIfBetter_8 rfl (lv_at hl 0 rfl) ?_
  refine wx_get (v := .ref (ad 70)) (C := "WidthCampaigns") (T := wx_TW) (N' := 7) hx hb hts wi_W hown hK hP 0 (by decide) rfl rfl 4 (by decide) wt_223 (fun _ h9 => h9) rfl wd_W_takePairIfBetter_9 ?_
  refine lv_iconst (v := 0) hx hb wd_W_takePairIfBetter_12 (by decide) ?_
  refine lv_aload_n hx hb wd_W_takePairIfBetter_13 rfl (lv_at hl 0 rfl) ?_
  refine wx_get (v := .ref (ad 1)) (C := "WidthCampaigns") (T := wx_TW) (N' := 7) hx hb hts wi_W hown hK hP 0 (by decide) rfl rfl 0 (by decide) wt_219 (fun _ h9 => h9) rfl wd_W_takePairIfBetter_14 ?_
  refine wx_getN (v := .int (σ 1 10)) (C := "WidthCampaigns$Plant") (T := wx_TP) (N' := 15) hx hb hts wi_P hown hK hP 1 (by decide) rfl rfl 10 (by decide) (hN.1 _ (List.mem_of_getElem? (i := 24) rfl) #[]) (fun _ h9 => h9) rfl wd_W_takePairIfBetter_17 ?_
  refine lv_topi (fun v1 ev1 => ?_)
  have hf := wc_st_e ev1 hf
  obtain ⟨h2, hf⟩ := wc_gd_e hf
  refine wx_copy hx hb (hml.trans hl.1.symm) hown (wx_hw hts wt_623) (wx_hw hts wt_477) (wx_hw hts wt_476) (wx_hw hts wt_15) hK hP hD hS 50 70 (by decide) (by decide) (fun _ => rfl) (fun _ => rfl) h2 (Nat.le_of_ble_eq_true rfl) (Nat.le_of_ble_eq_true rfl) wd_W_takePairIfBetter_20 (fun σ3 H locs eσ3 hP hD hS => ?_)
  have hf := wc_st_e eσ3 hf
  refine lv_aload_n hx hb wd_W_takePairIfBetter_23 rfl (lv_at hl 0 rfl) ?_
  refine wx_get (v := .ref (ad 70)) (C := "WidthCampaigns") (T := wx_TW) (N' := 7) hx hb hts wi_W hown hK hP 0 (by decide) rfl rfl 4 (by decide) wt_223 (fun _ h9 => h9) rfl wd_W_takePairIfBetter_24 ?_
  refine lv_iload_n hx hb wd_W_takePairIfBetter_27 rfl (lv_at hl 1 rfl) ?_
  refine lv_aload_n hx hb wd_W_takePairIfBetter_28 rfl (lv_at hl 0 rfl) ?_
  refine wx_get (v := .ref (ad 49)) (C := "WidthCampaigns") (T := wx_TW) (N' := 7) hx hb hts wi_W hown hK hP 0 (by decide) rfl rfl 2 (by decide) wt_221 (fun _ h9 => h9) rfl wd_W_takePairIfBetter_29 ?_
  refine wx_getN (v := .ref (ad 50)) (C := "WidthCampaigns$Line") (T := wx_TL) (N' := 10) hx hb hts wi_L hown hK hP 49 (by decide) rfl rfl 1 (by decide) (hN.1 _ (List.mem_of_getElem? (i := 25) rfl) #[]) (fun _ h9 => h9) rfl wd_W_takePairIfBetter_32 ?_
  refine lv_iload_n hx hb wd_W_takePairIfBetter_35 rfl (lv_at hl 2 rfl) ?_
  obtain ⟨h4, hf⟩ := wc_gd_e hf
  refine wx_iald hx hb hK hP 50 (n := 9) (by decide) rfl (wc_in_e h4) wd_W_takePairIfBetter_36 ?_
  refine lv_topi (fun v5 ev5 => ?_)
  have hf := wc_st_e ev5 hf
  obtain ⟨h6, hf⟩ := wc_gd_e hf
  refine wx_iast hx hb hK hP hD hS 70 (n := 9) (by decide) (fun _ => rfl) h6 wd_W_takePairIfBetter_37 (fun σ7 H locs eσ7 hP hD hS => ?_)
  have hf := wc_st_e eσ7 hf
  refine lv_aload_n hx hb wd_W_takePairIfBetter_38 rfl (lv_at hl 0 rfl) ?_
  refine wx_get (v := .ref (ad 70)) (C := "WidthCampaigns") (T := wx_TW) (N' := 7) hx hb hts wi_W hown hK hP 0 (by decide) rfl rfl 4 (by decide) wt_223 (fun _ h9 => h9) rfl wd_W_takePairIfBetter_39 ?_
  refine lv_iload_n hx hb wd_W_takePairIfBetter_42 rfl (lv_at hl 2 rfl) ?_
  refine lv_aload_n hx hb wd_W_takePairIfBetter_43 rfl (lv_at hl 0 rfl) ?_
  refine wx_get (v := .ref (ad 49)) (C := "WidthCampaigns") (T := wx_TW) (N' := 7) hx hb hts wi_W hown hK hP 0 (by decide) rfl rfl 2 (by decide) wt_221 (fun _ h9 => h9) rfl wd_W_takePairIfBetter_44 ?_
  refine wx_getN (v := .ref (ad 50)) (C := "WidthCampaigns$Line") (T := wx_TL) (N' := 10) hx hb hts wi_L hown hK hP 49 (by decide) rfl rfl 1 (by decide) (hN.1 _ (List.mem_of_getElem? (i := 25) rfl) #[]) (fun _ h9 => h9) rfl wd_W_takePairIfBetter_47 ?_
  refine lv_iload_n hx hb wd_W_takePairIfBetter_50 rfl (lv_at hl 1 rfl) ?_
  obtain ⟨h8, hf⟩ := wc_gd_e hf
  refine wx_iald hx hb hK hP 50 (n := 9) (by decide) rfl (wc_in_e h8) wd_W_takePairIfBetter_51 ?_
  refine lv_topi (fun v9 ev9 => ?_)
  have hf := wc_st_e ev9 hf
  obtain ⟨h10, hf⟩ := wc_gd_e hf
  refine wx_iast hx hb hK hP hD hS 70 (n := 9) (by decide) (fun _ => rfl) h10 wd_W_takePairIfBetter_52 (fun σ11 H locs eσ11 hP hD hS => ?_)
  have hf := wc_st_e eσ11 hf
  refine lv_aload_n hx hb wd_W_takePairIfBetter_53 rfl (lv_at hl 0 rfl) ?_
  refine wx_get (v := .ref (ad 30)) (C := "WidthCampaigns") (T := wx_TW) (N' := 7) hx hb hts wi_W hown hK hP 0 (by decide) rfl rfl 1 (by decide) wt_220 (fun _ h9 => h9) rfl wd_W_takePairIfBetter_54 ?_
  refine lv_aload_n hx hb wd_W_takePairIfBetter_57 rfl (lv_at hl 0 rfl) ?_
  refine wx_get (v := .ref (ad 70)) (C := "WidthCampaigns") (T := wx_TW) (N' := 7) hx hb hts wi_W hown hK hP 0 (by decide) rfl rfl 4 (by decide) wt_223 (fun _ h9 => h9) rfl wd_W_takePairIfBetter_58 ?_
  obtain ⟨r13, σ12, hq, hf⟩ := wc_b2_e hf
  refine wx_calli (va_runVN (As := [.ref (ad 70)]) (rest := []) ⟨hx, hb, hml, hown, hts⟩ (wm_L_layAll l D ad cI cZ cJ cG _ 30 (Or.inl rfl) 70 (Or.inr rfl) σ11 _ hq) (wx_cwN 1 hts wt_517 wt_516 wp_24 wt_5 (hN.1 _ (List.mem_of_getElem? (i := 26) rfl) #[]) wh_L_layAll rfl rfl ⟨Nat.le_of_ble_eq_true rfl, Nat.le_of_ble_eq_true rfl⟩) (wx_preV hK hP hD hS hA hC (by decide) rfl rfl) rfl rfl hl.1 rfl (lv_room (Nat.le_of_ble_eq_true rfl)) wd_W_takePairIfBetter_61 ⟨Nat.le_of_ble_eq_true rfl, Nat.le_of_ble_eq_true rfl⟩) hD hS hA (fun H locs hP hD hS => ?_)
  refine lv_if_eq (tgt := 84) hx hb wd_W_takePairIfBetter_64 (by decide) (fun c14 => ?_) (fun c14 => ?_)
  · have hf := wc_t c14 hf
    refine lv_iconst (v := 0) hx hb wd_W_takePairIfBetter_84 (by decide) ?_
    exact wx_zret hx hb hr narrow_b0 hlocks hf hP hS wd_W_takePairIfBetter_85
  · have hf := wc_f c14 hf
    refine lv_aload_n hx hb wd_W_takePairIfBetter_67 rfl (lv_at hl 0 rfl) ?_
    refine wx_get (v := .ref (ad 30)) (C := "WidthCampaigns") (T := wx_TW) (N' := 7) hx hb hts wi_W hown hK hP 0 (by decide) rfl rfl 1 (by decide) wt_220 (fun _ h9 => h9) rfl wd_W_takePairIfBetter_68 ?_
    obtain ⟨r16, σ15, hq, hf⟩ := wc_b2_e hf
    refine wx_calli (va_runVN (As := []) (rest := []) ⟨hx, hb, hml, hown, hts⟩ (wm_L_penaltySoFar l D ad cI cZ cJ cG _ 30 (Or.inl rfl) σ12 _ hq) (wx_cwN 0 hts wt_474 wt_473 wp_14 wt_5 (hN.1 _ (List.mem_of_getElem? (i := 27) rfl) #[]) wh_L_penaltySoFar rfl rfl ⟨Nat.le_of_ble_eq_true rfl, Nat.le_of_ble_eq_true rfl⟩) (wx_preV hK hP hD hS hA hC (by decide) rfl rfl) rfl rfl hl.1 rfl (lv_room (Nat.le_of_ble_eq_true rfl)) wd_W_takePairIfBetter_71 ⟨Nat.le_of_ble_eq_true rfl, Nat.le_of_ble_eq_true rfl⟩) hD hS hA (fun H locs hP hD hS => ?_)
    refine lv_aload_n hx hb wd_W_takePairIfBetter_74 rfl (lv_at hl 0 rfl) ?_
    refine wx_get (v := .ref (ad 49)) (C := "WidthCampaigns") (T := wx_TW) (N' := 7) hx hb hts wi_W hown hK hP 0 (by decide) rfl rfl 2 (by decide) wt_221 (fun _ h9 => h9) rfl wd_W_takePairIfBetter_75 ?_
    obtain ⟨r18, σ17, hq, hf⟩ := wc_b2_e hf
    refine wx_calli (va_runVN (As := []) (rest := [.int r16]) ⟨hx, hb, hml, hown, hts⟩ (wm_L_penaltySoFar l D ad cI cZ cJ cG _ 49 (Or.inr rfl) σ15 _ hq) (wx_cwN 0 hts wt_474 wt_473 wp_14 wt_5 (hN.1 _ (List.mem_of_getElem? (i := 27) rfl) #[]) wh_L_penaltySoFar rfl rfl ⟨Nat.le_of_ble_eq_true rfl, Nat.le_of_ble_eq_true rfl⟩) (wx_preV hK hP hD hS hA hC (by decide) rfl rfl) rfl rfl hl.1 rfl (lv_room (Nat.le_of_ble_eq_true rfl)) wd_W_takePairIfBetter_78 ⟨Nat.le_of_ble_eq_true rfl, Nat.le_of_ble_eq_true rfl⟩) hD hS hA (fun H locs hP hD hS => ?_)
    refine lv_icmp_lt (tgt := 86) hx hb wd_W_takePairIfBetter_81 (by decide) (fun c19 => ?_) (fun c19 => ?_)
    · have hf := wc_t c19 hf
      refine lv_aload_n hx hb wd_W_takePairIfBetter_86 rfl (lv_at hl 0 rfl) ?_
      refine wx_get (v := .ref (ad 49)) (C := "WidthCampaigns") (T := wx_TW) (N' := 7) hx hb hts wi_W hown hK hP 0 (by decide) rfl rfl 2 (by decide) wt_221 (fun _ h9 => h9) rfl wd_W_takePairIfBetter_87 ?_
      refine lv_aload_n hx hb wd_W_takePairIfBetter_90 rfl (lv_at hl 0 rfl) ?_
      refine wx_get (v := .ref (ad 70)) (C := "WidthCampaigns") (T := wx_TW) (N' := 7) hx hb hts wi_W hown hK hP 0 (by decide) rfl rfl 4 (by decide) wt_223 (fun _ h9 => h9) rfl wd_W_takePairIfBetter_91 ?_
      obtain ⟨r21, σ20, hq, hf⟩ := wc_b2_e hf
      refine wx_calli (va_runVN (As := [.ref (ad 70)]) (rest := []) ⟨hx, hb, hml, hown, hts⟩ (wm_L_layAll l D ad cI cZ cJ cG _ 49 (Or.inr rfl) 70 (Or.inr rfl) σ17 _ hq) (wx_cwN 1 hts wt_517 wt_516 wp_24 wt_5 (hN.1 _ (List.mem_of_getElem? (i := 26) rfl) #[]) wh_L_layAll rfl rfl ⟨Nat.le_of_ble_eq_true rfl, Nat.le_of_ble_eq_true rfl⟩) (wx_preV hK hP hD hS hA hC (by decide) rfl rfl) rfl rfl hl.1 rfl (lv_room (Nat.le_of_ble_eq_true rfl)) wd_W_takePairIfBetter_94 ⟨Nat.le_of_ble_eq_true rfl, Nat.le_of_ble_eq_true rfl⟩) hD hS hA (fun H locs hP hD hS => ?_)
      refine lv_pop hx hb wd_W_takePairIfBetter_97 rfl ?_
      refine lv_iconst (v := 1) hx hb wd_W_takePairIfBetter_98 (by decide) ?_
      exact wx_zret hx hb hr narrow_b1 hlocks hf hP hS wd_W_takePairIfBetter_99
    · have hf := wc_f c19 hf
      refine lv_iconst (v := 0) hx hb wd_W_takePairIfBetter_84 (by decide) ?_
      exact wx_zret hx hb hr narrow_b0 hlocks hf hP hS wd_W_takePairIfBetter_85
set_option maxHeartbeats 4000000 in
set_option maxRecDepth 100000 in
theorem wm_W_takeFirstBetterPair (l : Launch) (D : va_G) (ad : Nat → Nat) (cI cZ cJ cG : ClassId) (sz : Nat) (σ : wc_S) (res : Int32 × wc_S) (hf : wf_W_takeFirstBetterPair  σ = some res) : Met l wy_W_takeFirstBetterPair (wx_ws_W_takeFirstBetterPair) ({ frames := 5, cells := 0, slots := 0, locals := 114 }) (va_Pc [.ref (ad 0)] (wx_pre D ad cI cZ cJ cG σ sz)) (wx_Qi D ad cI cZ cJ cG res (va_A (wx_W ad cI cZ cJ cG σ) sz)) 0 0 (va_A (wx_W ad cI cZ cJ cG σ) sz) := by
  refine wx_ofW (cc := prog_1_method_23_code) (maxL := 3) (ret := (some .boolean)) (Qc := fun A => wx_Qi D ad cI cZ cJ cG res A) [.ref (ad 0)] (by decide) rfl (Nat.le_of_ble_eq_true rfl) ?_
  intro p e s m args below meth c A ls hin hl
  obtain ⟨hx, hb, hr, hts, hown, hlocks, hml, hA, hP, hK, hD, hC, hN, hS⟩ := hin
  have hl : lv_has ls 3 [(0, .ref (ad 0))] := hl
  have J17 : ∀ (k2 : Int32 → wc_S → Option (Int32 × wc_S)) (hk2 : (∀ (x1 : Int32) (σ : wc_S), k2 x1 σ = some res → wx_Arr p l e ({ frames := 5, cells := 0, slots := 0, locals := 114 }) s m args below meth c D ad cI cZ cJ cG A (MQ below (wx_Qi D ad cI cZ cJ cG res A) args s 0 0 A) 3 0 0 2 [(0, .ref (ad 0)), (1, .int x1)] [] σ)) (n : Nat) (x1 : Int32) (x2 : Int32) (σ : wc_S), wf_W_takeFirstBetterPair_17 k2 n x1 x2 σ = some res → wx_Arr p l e ({ frames := 5, cells := 0, slots := 0, locals := 114 }) s m args below meth c D ad cI cZ cJ cG A (MQ below (wx_Qi D ad cI cZ cJ cG res A) args s 0 0 A) 3 0 0 17 [(0, .ref (ad 0)), (1, .int x1), (2, .int x2)] [] σ := by
    intro k2 hk2 n
    induction n with
    | zero => intro x1 x2 σ hf; exact absurd hf (by intro h9; cases h9)
    | succ n hk17 =>
      intro x1 x2 σ hf H locs ls hP hD hS hl
      have hf : wf_W_takeFirstBetterPair_17_b k2 (wf_W_takeFirstBetterPair_17 k2 n) x1 x2 σ = some res := hf
      unfold wf_W_takeFirstBetterPair_17_b at hf
      refine lv_iload_n hx hb wd_W_takeFirstBetterPair_17 rfl (lv_at hl 2 rfl) ?_
      refine lv_aload_n hx hb wd_W_takeFirstBetterPair_18 rfl (lv_at hl 0 rfl) ?_
      refine wx_get (v := .ref (ad 1)) (C := "WidthCampaigns") (T := wx_TW) (N' := 7) hx hb hts wi_W hown hK hP 0 (by decide) rfl rfl 0 (by decide) wt_219 (fun _ h9 => h9) rfl wd_W_takeFirstBetterPair_19 ?_
      refine wx_getN (v := .int (σ 1 10)) (C := "WidthCampaigns$Plant") (T := wx_TP) (N' := 15) hx hb hts wi_P hown hK hP 1 (by decide) rfl rfl 10 (by decide) (hN.1 _ (List.mem_of_getElem? (i := 24) rfl) #[]) (fun _ h9 => h9) rfl wd_W_takeFirstBetterPair_22 ?_
      refine lv_topi (fun v4 ev4 => ?_)
      have hf := wc_st_e ev4 hf
      refine lv_icmp_ge (tgt := 45) hx hb wd_W_takeFirstBetterPair_25 (by decide) (fun c5 => ?_) (fun c5 => ?_)
      · have hf := wc_t c5 hf
        obtain ⟨v6, ev6⟩ : ∃ y : Int32, y = x1 + 1 := ⟨_, rfl⟩
        have hf := wc_st_e ev6 hf
        refine lv_iinc (v := v6) (lv' := [(1, .int v6), (0, .ref (ad 0)), (2, .int x2)]) hx hb wd_W_takeFirstBetterPair_45 hl (k := 1) rfl (by rw [ev6]; rfl) (by decide) rfl (fun ls hl => ?_)
        refine lv_goto (tgt := 2) hx hb wd_W_takeFirstBetterPair_48 (by decide) ?_
        exact hk2 v6 σ hf _ _ _ hP hD hS (lv_sub hl [1, 0] rfl)
      · have hf := wc_f c5 hf
        refine lv_aload_n hx hb wd_W_takeFirstBetterPair_28 rfl (lv_at hl 0 rfl) ?_
        refine lv_iload_n hx hb wd_W_takeFirstBetterPair_29 rfl (lv_at hl 1 rfl) ?_
        refine lv_iload_n hx hb wd_W_takeFirstBetterPair_30 rfl (lv_at hl 2 rfl) ?_
        obtain ⟨r8, σ7, hq, hf⟩ := wc_b2_e hf
        refine wx_calli (va_runV (As := [.int x1, .int x2]) (rest := []) ⟨hx, hb, hml, hown, hts⟩ (wm_W_takePairIfBetter l D ad cI cZ cJ cG _ x1 x2 σ _ hq) (wx_cwV 2 hts wt_622 wt_621 wp_31 wt_1 wt_619 wh_W_takePairIfBetter rfl rfl ⟨Nat.le_of_ble_eq_true rfl, Nat.le_of_ble_eq_true rfl⟩) (wx_preV hK hP hD hS hA hC (by decide) rfl rfl) rfl rfl hl.1 rfl (lv_room (Nat.le_of_ble_eq_true rfl)) wd_W_takeFirstBetterPair_31 ⟨Nat.le_of_ble_eq_true rfl, Nat.le_of_ble_eq_true rfl⟩) hD hS hA (fun H locs hP hD hS => ?_)
        refine lv_if_eq (tgt := 39) hx hb wd_W_takeFirstBetterPair_34 (by decide) (fun c9 => ?_) (fun c9 => ?_)
        · have hf := wc_t c9 hf
          obtain ⟨v10, ev10⟩ : ∃ y : Int32, y = x2 + 1 := ⟨_, rfl⟩
          have hf := wc_st_e ev10 hf
          refine lv_iinc (v := v10) (lv' := [(2, .int v10), (0, .ref (ad 0)), (1, .int x1)]) hx hb wd_W_takeFirstBetterPair_39 hl (k := 2) rfl (by rw [ev10]; rfl) (by decide) rfl (fun ls hl => ?_)
          refine lv_goto (tgt := 17) hx hb wd_W_takeFirstBetterPair_42 (by decide) ?_
          exact hk17 x1 v10 σ7 hf _ _ _ hP hD hS (lv_sub hl [1, 2, 0] rfl)
        · have hf := wc_f c9 hf
          refine lv_iconst (v := 1) hx hb wd_W_takeFirstBetterPair_37 (by decide) ?_
          exact wx_zret hx hb hr narrow_b1 hlocks hf hP hS wd_W_takeFirstBetterPair_38
  have J2 : ∀ (n : Nat) (x1 : Int32) (σ : wc_S), wf_W_takeFirstBetterPair_2 n x1 σ = some res → wx_Arr p l e ({ frames := 5, cells := 0, slots := 0, locals := 114 }) s m args below meth c D ad cI cZ cJ cG A (MQ below (wx_Qi D ad cI cZ cJ cG res A) args s 0 0 A) 3 0 0 2 [(0, .ref (ad 0)), (1, .int x1)] [] σ := by
    intro  n
    induction n with
    | zero => intro x1 σ hf; exact absurd hf (by intro h9; cases h9)
    | succ n hk2 =>
      intro x1 σ hf H locs ls hP hD hS hl
      have hf : wf_W_takeFirstBetterPair_2_b (wf_W_takeFirstBetterPair_2 n) x1 σ = some res := hf
      unfold wf_W_takeFirstBetterPair_2_b at hf
      refine lv_iload_n hx hb wd_W_takeFirstBetterPair_2 rfl (lv_at hl 1 rfl) ?_
      refine lv_aload_n hx hb wd_W_takeFirstBetterPair_3 rfl (lv_at hl 0 rfl) ?_
      refine wx_get (v := .ref (ad 1)) (C := "WidthCampaigns") (T := wx_TW) (N' := 7) hx hb hts wi_W hown hK hP 0 (by decide) rfl rfl 0 (by decide) wt_219 (fun _ h9 => h9) rfl wd_W_takeFirstBetterPair_4 ?_
      refine wx_getN (v := .int (σ 1 10)) (C := "WidthCampaigns$Plant") (T := wx_TP) (N' := 15) hx hb hts wi_P hown hK hP 1 (by decide) rfl rfl 10 (by decide) (hN.1 _ (List.mem_of_getElem? (i := 24) rfl) #[]) (fun _ h9 => h9) rfl wd_W_takeFirstBetterPair_7 ?_
      refine lv_topi (fun v1 ev1 => ?_)
      have hf := wc_st_e ev1 hf
      refine lv_icmp_ge (tgt := 51) hx hb wd_W_takeFirstBetterPair_10 (by decide) (fun c2 => ?_) (fun c2 => ?_)
      · have hf := wc_t c2 hf
        refine lv_iconst (v := 0) hx hb wd_W_takeFirstBetterPair_51 (by decide) ?_
        exact wx_zret hx hb hr narrow_b0 hlocks hf hP hS wd_W_takeFirstBetterPair_52
      · have hf := wc_f c2 hf
        refine lv_iload_n hx hb wd_W_takeFirstBetterPair_13 rfl (lv_at hl 1 rfl) ?_
        refine lv_iconst (v := 1) hx hb wd_W_takeFirstBetterPair_14 (by decide) ?_
        refine lv_iadd hx hb wd_W_takeFirstBetterPair_15 ?_
        refine lv_topi (fun v3 ev3 => ?_)
        have hf := wc_st_e ev3 hf
        refine lv_istore_n (lv' := [(2, .int v3), (0, .ref (ad 0)), (1, .int x1)]) hx hb wd_W_takeFirstBetterPair_16 rfl hl (by decide) rfl (fun ls hl => ?_)
        exact J17 (wf_W_takeFirstBetterPair_2 n) hk2 16 x1 v3 σ hf _ _ _ hP hD hS (lv_sub hl [1, 2, 0] rfl)
  unfold wf_W_takeFirstBetterPair at hf
  refine lv_iconst (v := 0) hx hb wd_W_takeFirstBetterPair_0 (by decide) ?_
  refine lv_istore_n (lv' := [(1, .int 0), (0, .ref (ad 0))]) hx hb wd_W_takeFirstBetterPair_1 rfl hl (by decide) rfl (fun ls hl => ?_)
  exact J2 16 0 σ hf _ _ _ hP hD hS (lv_sub hl [1, 0] rfl)
set_option maxHeartbeats 4000000 in
set_option maxRecDepth 100000 in
theorem wm_W_bound (l : Launch) (D : va_G) (ad : Nat → Nat) (cI cZ cJ cG : ClassId) (sz : Nat) (σ : wc_S) (res : Int32 × wc_S) (hf : wf_W_bound  σ = some res) : Met l wy_W_bound (wx_ws_W_bound) ({ frames := 1, cells := 0, slots := 0, locals := 60 }) (va_Pc [.ref (ad 0)] (wx_pre D ad cI cZ cJ cG σ sz)) (wx_Qi D ad cI cZ cJ cG res (va_A (wx_W ad cI cZ cJ cG σ) sz)) 0 0 (va_A (wx_W ad cI cZ cJ cG σ) sz) := by
  refine wx_ofW (cc := prog_1_method_14_code) (maxL := 5) (ret := (some .int)) (Qc := fun A => wx_Qi D ad cI cZ cJ cG res A) [.ref (ad 0)] (by decide) rfl (Nat.le_of_ble_eq_true rfl) ?_
  intro p e s m args below meth c A ls hin hl
  obtain ⟨hx, hb, hr, hts, hown, hlocks, hml, hA, hP, hK, hD, hC, hN, hS⟩ := hin
  have hl : lv_has ls 5 [(0, .ref (ad 0))] := hl
  have J6 : ∀ (n : Nat) (x1 : Int32) (x2 : Int32) (x3 : Int32) (σ : wc_S), wf_W_bound_6 n x1 x2 x3 σ = some res → wx_Arr p l e ({ frames := 1, cells := 0, slots := 0, locals := 60 }) s m args below meth c D ad cI cZ cJ cG A (MQ below (wx_Qi D ad cI cZ cJ cG res A) args s 0 0 A) 5 0 0 6 [(0, .ref (ad 0)), (1, .int x1), (2, .int x2), (3, .int x3)] [] σ := by
    intro  n
    induction n with
    | zero => intro x1 x2 x3 σ hf; exact absurd hf (by intro h9; cases h9)
    | succ n hk6 =>
      intro x1 x2 x3 σ hf H locs ls hP hD hS hl
      have hf : wf_W_bound_6_b (wf_W_bound_6 n) x1 x2 x3 σ = some res := hf
      unfold wf_W_bound_6_b at hf
      refine lv_iload_n hx hb wd_W_bound_6 rfl (lv_at hl 3 rfl) ?_
      refine lv_aload_n hx hb wd_W_bound_7 rfl (lv_at hl 0 rfl) ?_
      refine wx_get (v := .ref (ad 1)) (C := "WidthCampaigns") (T := wx_TW) (N' := 7) hx hb hts wi_W hown hK hP 0 (by decide) rfl rfl 0 (by decide) wt_219 (fun _ h9 => h9) rfl wd_W_bound_8 ?_
      refine wx_getN (v := .int (σ 1 10)) (C := "WidthCampaigns$Plant") (T := wx_TP) (N' := 15) hx hb hts wi_P hown hK hP 1 (by decide) rfl rfl 10 (by decide) (hN.1 _ (List.mem_of_getElem? (i := 24) rfl) #[]) (fun _ h9 => h9) rfl wd_W_bound_11 ?_
      refine lv_topi (fun v1 ev1 => ?_)
      have hf := wc_st_e ev1 hf
      refine lv_icmp_ge (tgt := 45) hx hb wd_W_bound_14 (by decide) (fun c2 => ?_) (fun c2 => ?_)
      · have hf := wc_t c2 hf
        refine lv_iload_n hx hb wd_W_bound_45 rfl (lv_at hl 1 rfl) ?_
        refine lv_iload_n hx hb wd_W_bound_46 rfl (lv_at hl 2 rfl) ?_
        refine lv_isub hx hb wd_W_bound_47 ?_
        refine lv_topi (fun v3 ev3 => ?_)
        have hf := wc_st_e ev3 hf
        exact wx_iret hx hb hr hlocks hf hP hS wd_W_bound_48
      · have hf := wc_f c2 hf
        refine lv_aload_n hx hb wd_W_bound_17 rfl (lv_at hl 0 rfl) ?_
        refine wx_get (v := .ref (ad 1)) (C := "WidthCampaigns") (T := wx_TW) (N' := 7) hx hb hts wi_W hown hK hP 0 (by decide) rfl rfl 0 (by decide) wt_219 (fun _ h9 => h9) rfl wd_W_bound_18 ?_
        refine lv_iload_n hx hb wd_W_bound_21 rfl (lv_at hl 3 rfl) ?_
        obtain ⟨r5, σ4, hq, hf⟩ := wc_b2_e hf
        refine wx_calli (va_runVN (As := [.int x3]) (rest := []) ⟨hx, hb, hml, hown, hts⟩ (wm_P_leastJumpTo l D ad cI cZ cJ cG _ x3 σ _ hq) (wx_cwN 1 hts wt_248 wt_247 wp_0 wt_2 (hN.1 _ (List.mem_of_getElem? (i := 51) rfl) #[]) wh_P_leastJumpTo rfl rfl ⟨Nat.le_of_ble_eq_true rfl, Nat.le_of_ble_eq_true rfl⟩) (wx_preV hK hP hD hS hA hC (by decide) rfl rfl) rfl rfl hl.1 rfl (lv_room (Nat.le_of_ble_eq_true rfl)) wd_W_bound_22 ⟨Nat.le_of_ble_eq_true rfl, Nat.le_of_ble_eq_true rfl⟩) hD hS hA (fun H locs hP hD hS => ?_)
        refine lv_istore (lv' := [(4, .int r5), (0, .ref (ad 0)), (1, .int x1), (2, .int x2), (3, .int x3)]) hx hb wd_W_bound_25 hl (by decide) rfl (fun ls hl => ?_)
        refine lv_iload_n hx hb wd_W_bound_27 rfl (lv_at hl 2 rfl) ?_
        refine lv_iload hx hb wd_W_bound_28 (lv_at hl 0 rfl) ?_
        refine lv_iadd hx hb wd_W_bound_30 ?_
        refine lv_topi (fun v6 ev6 => ?_)
        have hf := wc_st_e ev6 hf
        refine lv_istore_n (lv' := [(1, .int v6), (4, .int r5), (0, .ref (ad 0)), (2, .int x2), (3, .int x3)]) hx hb wd_W_bound_31 rfl hl (by decide) rfl (fun ls hl => ?_)
        refine lv_iload_n hx hb wd_W_bound_32 rfl (lv_at hl 3 rfl) ?_
        refine lv_iload hx hb wd_W_bound_33 (lv_at hl 1 rfl) ?_
        refine va_mmax hx hb (hml.trans hl.1.symm) hown (wx_hw hts wt_249) (wx_hw hts wt_250) (wx_hw hts wt_13) (wx_hw hts wt_251) (Nat.le_of_ble_eq_true rfl) (Nat.le_of_ble_eq_true rfl) (Nat.le_of_ble_eq_true rfl) (Nat.le_of_ble_eq_true rfl) wd_W_bound_35 ?_
        refine lv_topi (fun v7 ev7 => ?_)
        have hf := wc_st_e ev7 hf
        refine lv_istore_n (lv' := [(2, .int v7), (1, .int v6), (4, .int r5), (0, .ref (ad 0)), (3, .int x3)]) hx hb wd_W_bound_38 rfl hl (by decide) rfl (fun ls hl => ?_)
        obtain ⟨v8, ev8⟩ : ∃ y : Int32, y = x3 + 1 := ⟨_, rfl⟩
        have hf := wc_st_e ev8 hf
        refine lv_iinc (v := v8) (lv' := [(3, .int v8), (2, .int v7), (1, .int v6), (4, .int r5), (0, .ref (ad 0))]) hx hb wd_W_bound_39 hl (k := 4) rfl (by rw [ev8]; rfl) (by decide) rfl (fun ls hl => ?_)
        refine lv_goto (tgt := 6) hx hb wd_W_bound_42 (by decide) ?_
        exact hk6 v6 v7 v8 σ4 hf _ _ _ hP hD hS (lv_sub hl [4, 2, 1, 0] rfl)
  unfold wf_W_bound at hf
  refine lv_iconst (v := 0) hx hb wd_W_bound_0 (by decide) ?_
  refine lv_istore_n (lv' := [(1, .int 0), (0, .ref (ad 0))]) hx hb wd_W_bound_1 rfl hl (by decide) rfl (fun ls hl => ?_)
  refine lv_iconst (v := 0) hx hb wd_W_bound_2 (by decide) ?_
  refine lv_istore_n (lv' := [(2, .int 0), (1, .int 0), (0, .ref (ad 0))]) hx hb wd_W_bound_3 rfl hl (by decide) rfl (fun ls hl => ?_)
  refine lv_iconst (v := 0) hx hb wd_W_bound_4 (by decide) ?_
  refine lv_istore_n (lv' := [(3, .int 0), (2, .int 0), (1, .int 0), (0, .ref (ad 0))]) hx hb wd_W_bound_5 rfl hl (by decide) rfl (fun ls hl => ?_)
  exact J6 16 0 0 0 σ hf _ _ _ hP hD hS (lv_sub hl [3, 2, 1, 0] rfl)
set_option maxHeartbeats 4000000 in
set_option maxRecDepth 100000 in
theorem wm_M_thrown (l : Launch) (D : va_G) (ad : Nat → Nat) (cI cZ cJ cG : ClassId) (sz : Nat) (σ : wc_S) (res : Int32 × wc_S) (hf : wf_M_thrown  σ = some res) : Met l wy_M_thrown (wx_ws_M_thrown) ({ frames := 0, cells := 0, slots := 0, locals := 0 }) (va_Pc [.ref (ad 71)] (wx_pre D ad cI cZ cJ cG σ sz)) (wx_Qi D ad cI cZ cJ cG res (va_A (wx_W ad cI cZ cJ cG σ) sz)) 0 0 (va_A (wx_W ad cI cZ cJ cG σ) sz) := by
  refine wx_ofW (cc := prog_8_method_2_code) (maxL := 1) (ret := (some .int)) (Qc := fun A => wx_Qi D ad cI cZ cJ cG res A) [.ref (ad 71)] (by decide) rfl (Nat.le_of_ble_eq_true rfl) ?_
  intro p e s m args below meth c A ls hin hl
  obtain ⟨hx, hb, hr, hts, hown, hlocks, hml, hA, hP, hK, hD, hC, hN, hS⟩ := hin
  have hl : lv_has ls 1 [(0, .ref (ad 71))] := hl
  unfold wf_M_thrown at hf
  refine lv_aload_n hx hb wd_M_thrown_0 rfl (lv_at hl 0 rfl) ?_
  refine wx_get (v := .int (σ 71 0)) (C := "WidthCampaignsModel") (T := wx_TM) (N' := 29) hx hb hts wi_M hown hK hP 71 (by decide) rfl rfl 0 (by decide) wt_630 (fun _ h9 => h9) rfl wd_M_thrown_1 ?_
  refine lv_topi (fun v1 ev1 => ?_)
  have hf := wc_st_e ev1 hf
  exact wx_iret hx hb hr hlocks hf hP hS wd_M_thrown_4
set_option maxHeartbeats 4000000 in
set_option maxRecDepth 100000 in
theorem wm_M_in (l : Launch) (D : va_G) (ad : Nat → Nat) (cI cZ cJ cG : ClassId) (sz : Nat) (a0 : Int32) (a1 : Int32) (a2 : Int32) (σ : wc_S) (res : Int32 × wc_S) (hf : wf_M_in a0 a1 a2 σ = some res) : Met l wy_M_in (wx_ws_M_in) ({ frames := 0, cells := 0, slots := 0, locals := 0 }) (va_Pc [.int a0, .int a1, .int a2] (wx_pre D ad cI cZ cJ cG σ sz)) (wx_Qi D ad cI cZ cJ cG res (va_A (wx_W ad cI cZ cJ cG σ) sz)) 0 0 (va_A (wx_W ad cI cZ cJ cG σ) sz) := by
  refine wx_ofW (cc := prog_8_method_3_code) (maxL := 3) (ret := (some .boolean)) (Qc := fun A => wx_Qi D ad cI cZ cJ cG res A) [.int a0, .int a1, .int a2] (by decide) rfl (Nat.le_of_ble_eq_true rfl) ?_
  intro p e s m args below meth c A ls hin hl
  obtain ⟨hx, hb, hr, hts, hown, hlocks, hml, hA, hP, hK, hD, hC, hN, hS⟩ := hin
  have hl : lv_has ls 3 [(0, .int a0), (1, .int a1), (2, .int a2)] := hl
  unfold wf_M_in at hf
  refine lv_iload_n hx hb wd_M_in_0 rfl (lv_at hl 0 rfl) ?_
  refine lv_iload_n hx hb wd_M_in_1 rfl (lv_at hl 1 rfl) ?_
  refine lv_icmp_lt (tgt := 14) hx hb wd_M_in_2 (by decide) (fun c1 => ?_) (fun c1 => ?_)
  · have hf := wc_t c1 hf
    refine lv_iconst (v := 0) hx hb wd_M_in_14 (by decide) ?_
    exact wx_zret hx hb hr narrow_b0 hlocks hf hP hS wd_M_in_15
  · have hf := wc_f c1 hf
    refine lv_iload_n hx hb wd_M_in_5 rfl (lv_at hl 0 rfl) ?_
    refine lv_iload_n hx hb wd_M_in_6 rfl (lv_at hl 2 rfl) ?_
    refine lv_icmp_gt (tgt := 14) hx hb wd_M_in_7 (by decide) (fun c2 => ?_) (fun c2 => ?_)
    · have hf := wc_t c2 hf
      refine lv_iconst (v := 0) hx hb wd_M_in_14 (by decide) ?_
      exact wx_zret hx hb hr narrow_b0 hlocks hf hP hS wd_M_in_15
    · have hf := wc_f c2 hf
      refine lv_iconst (v := 1) hx hb wd_M_in_10 (by decide) ?_
      refine lv_goto (tgt := 15) hx hb wd_M_in_11 (by decide) ?_
      exact wx_zret hx hb hr narrow_b1 hlocks hf hP hS wd_M_in_15
set_option maxHeartbeats 4000000 in
set_option maxRecDepth 100000 in
theorem wm_M_goes (l : Launch) (D : va_G) (ad : Nat → Nat) (cI cZ cJ cG : ClassId) (sz : Nat) (a1 : Int32) (a2 : Int32) (a3 : Int32) (σ : wc_S) (res : Int32 × wc_S) (hf : wf_M_goes a1 a2 a3 σ = some res) : Met l wy_M_goes (wx_ws_M_goes) ({ frames := 0, cells := 0, slots := 0, locals := 0 }) (va_Pc [.ref (ad 71), .int a1, .int a2, .int a3] (wx_pre D ad cI cZ cJ cG σ sz)) (wx_Qi D ad cI cZ cJ cG res (va_A (wx_W ad cI cZ cJ cG σ) sz)) 0 0 (va_A (wx_W ad cI cZ cJ cG σ) sz) := by
  refine wx_ofW (cc := prog_8_method_4_code) (maxL := 4) (ret := (some .boolean)) (Qc := fun A => wx_Qi D ad cI cZ cJ cG res A) [.ref (ad 71), .int a1, .int a2, .int a3] (by decide) rfl (Nat.le_of_ble_eq_true rfl) ?_
  intro p e s m args below meth c A ls hin hl
  obtain ⟨hx, hb, hr, hts, hown, hlocks, hml, hA, hP, hK, hD, hC, hN, hS⟩ := hin
  have hl : lv_has ls 4 [(0, .ref (ad 71)), (1, .int a1), (2, .int a2), (3, .int a3)] := hl
  have J26 : ∀ (s1 : Int32) (σ : wc_S), wf_M_goes_26 s1 σ = some res → wx_Arr p l e ({ frames := 0, cells := 0, slots := 0, locals := 0 }) s m args below meth c D ad cI cZ cJ cG A (MQ below (wx_Qi D ad cI cZ cJ cG res A) args s 0 0 A) 4 0 0 26 [(0, .ref (ad 71))] [.int s1, .ref (ad 71)] σ := by
    intro  s1 σ hf H locs ls hP hD hS hl
    unfold wf_M_goes_26 at hf
    refine wx_put (x := s1) (ty := .int) (C := "WidthCampaignsModel") (T := wx_TM) (N' := 29) hx hb hts wi_M wx_tM wx_toM wx_nM hown hK hP hD hS 71 (by decide) (fun _ => rfl) rfl 0 (by decide) wt_630 (fun _ h9 => h9) rfl (by decide +kernel) rfl rfl (Nat.le_of_ble_eq_true rfl) rfl wd_M_goes_26 (fun σ4 H locs eσ4 hP hD hS => ?_)
    have hf := wc_st_e eσ4 hf
    refine lv_aload_n hx hb wd_M_goes_29 rfl (lv_at hl 0 rfl) ?_
    refine wx_get (v := .int (σ4 71 0)) (C := "WidthCampaignsModel") (T := wx_TM) (N' := 29) hx hb hts wi_M hown hK hP 71 (by decide) rfl rfl 0 (by decide) wt_630 (fun _ h9 => h9) rfl wd_M_goes_30 ?_
    refine lv_topi (fun v5 ev5 => ?_)
    have hf := wc_st_e ev5 hf
    refine lv_if_ne (tgt := 40) hx hb wd_M_goes_33 (by decide) (fun c6 => ?_) (fun c6 => ?_)
    · have hf := wc_f c6 hf
      refine lv_iconst (v := 0) hx hb wd_M_goes_40 (by decide) ?_
      exact wx_zret hx hb hr narrow_b0 hlocks hf hP hS wd_M_goes_41
    · have hf := wc_t c6 hf
      refine lv_iconst (v := 1) hx hb wd_M_goes_36 (by decide) ?_
      refine lv_goto (tgt := 41) hx hb wd_M_goes_37 (by decide) ?_
      exact wx_zret hx hb hr narrow_b1 hlocks hf hP hS wd_M_goes_41
  unfold wf_M_goes at hf
  refine lv_aload_n hx hb wd_M_goes_0 rfl (lv_at hl 0 rfl) ?_
  refine lv_iload_n hx hb wd_M_goes_1 rfl (lv_at hl 1 rfl) ?_
  refine lv_if_ne (tgt := 9) hx hb wd_M_goes_2 (by decide) (fun c1 => ?_) (fun c1 => ?_)
  · have hf := wc_f c1 hf
    refine lv_iload_n hx hb wd_M_goes_9 rfl (lv_at hl 2 rfl) ?_
    refine lv_if_ne (tgt := 17) hx hb wd_M_goes_10 (by decide) (fun c2 => ?_) (fun c2 => ?_)
    · have hf := wc_f c2 hf
      refine lv_iload_n hx hb wd_M_goes_17 rfl (lv_at hl 3 rfl) ?_
      refine lv_if_ne (tgt := 25) hx hb wd_M_goes_18 (by decide) (fun c3 => ?_) (fun c3 => ?_)
      · have hf := wc_f c3 hf
        refine lv_iconst (v := 0) hx hb wd_M_goes_25 (by decide) ?_
        exact J26 0 σ hf _ _ _ hP hD hS (lv_sub hl [0] rfl)
      · have hf := wc_t c3 hf
        refine lv_iconst (v := 3) hx hb wd_M_goes_21 (by decide) ?_
        refine lv_goto (tgt := 26) hx hb wd_M_goes_22 (by decide) ?_
        exact J26 3 σ hf _ _ _ hP hD hS (lv_sub hl [0] rfl)
    · have hf := wc_t c2 hf
      refine lv_iconst (v := 2) hx hb wd_M_goes_13 (by decide) ?_
      refine lv_goto (tgt := 26) hx hb wd_M_goes_14 (by decide) ?_
      exact J26 2 σ hf _ _ _ hP hD hS (lv_sub hl [0] rfl)
  · have hf := wc_t c1 hf
    refine lv_iconst (v := 1) hx hb wd_M_goes_5 (by decide) ?_
    refine lv_goto (tgt := 26) hx hb wd_M_goes_6 (by decide) ?_
    exact J26 1 σ hf _ _ _ hP hD hS (lv_sub hl [0] rfl)
set_option maxHeartbeats 4000000 in
set_option maxRecDepth 100000 in
theorem wm_M_gone (l : Launch) (D : va_G) (ad : Nat → Nat) (cI cZ cJ cG : ClassId) (sz : Nat) (σ : wc_S) (res : wc_S) (hf : wf_M_gone  σ = some res) : Met l wy_M_gone (wx_ws_M_gone) ({ frames := 0, cells := 0, slots := 0, locals := 0 }) (va_Pc [.ref (ad 71)] (wx_pre D ad cI cZ cJ cG σ sz)) (wx_Qv D ad cI cZ cJ cG res (va_A (wx_W ad cI cZ cJ cG σ) sz)) 0 0 (va_A (wx_W ad cI cZ cJ cG σ) sz) := by
  refine wx_ofW (cc := prog_8_method_5_code) (maxL := 1) (ret := none) (Qc := fun A => wx_Qv D ad cI cZ cJ cG res A) [.ref (ad 71)] (by decide) rfl (Nat.le_of_ble_eq_true rfl) ?_
  intro p e s m args below meth c A ls hin hl
  obtain ⟨hx, hb, hr, hts, hown, hlocks, hml, hA, hP, hK, hD, hC, hN, hS⟩ := hin
  have hl : lv_has ls 1 [(0, .ref (ad 71))] := hl
  unfold wf_M_gone at hf
  refine lv_aload_n hx hb wd_M_gone_0 rfl (lv_at hl 0 rfl) ?_
  refine lv_iconst (v := 0) hx hb wd_M_gone_1 (by decide) ?_
  refine wx_put (x := 0) (ty := .boolean) (C := "WidthCampaignsModel") (T := wx_TM) (N' := 29) hx hb hts wi_M wx_tM wx_toM wx_nM hown hK hP hD hS 71 (by decide) (fun _ => rfl) rfl 20 (by decide) wt_650 (fun _ h9 => h9) rfl (by decide +kernel) narrow_b0 rfl (Nat.le_of_ble_eq_true rfl) rfl wd_M_gone_2 (fun σ1 H locs eσ1 hP hD hS => ?_)
  have hf := wc_st_e eσ1 hf
  refine lv_aload_n hx hb wd_M_gone_5 rfl (lv_at hl 0 rfl) ?_
  refine lv_iconst (v := 0) hx hb wd_M_gone_6 (by decide) ?_
  refine wx_put (x := 0) (ty := .boolean) (C := "WidthCampaignsModel") (T := wx_TM) (N' := 29) hx hb hts wi_M wx_tM wx_toM wx_nM hown hK hP hD hS 71 (by decide) (fun _ => rfl) rfl 22 (by decide) wt_652 (fun _ h9 => h9) rfl (by decide +kernel) narrow_b0 rfl (Nat.le_of_ble_eq_true rfl) rfl wd_M_gone_7 (fun σ2 H locs eσ2 hP hD hS => ?_)
  have hf := wc_st_e eσ2 hf
  exact wx_vret hx hb hr hlocks hf hP hS wd_M_gone_10
set_option maxHeartbeats 4000000 in
set_option maxRecDepth 100000 in
theorem wm_M_isCoil (l : Launch) (D : va_G) (ad : Nat → Nat) (cI cZ cJ cG : ClassId) (sz : Nat) (a1 : Int32) (σ : wc_S) (res : Int32 × wc_S) (hf : wf_M_isCoil a1 σ = some res) : Met l wy_M_isCoil (wx_ws_M_isCoil) ({ frames := 1, cells := 0, slots := 0, locals := 22 }) (va_Pc [.ref (ad 71), .int a1] (wx_pre D ad cI cZ cJ cG σ sz)) (wx_Qi D ad cI cZ cJ cG res (va_A (wx_W ad cI cZ cJ cG σ) sz)) 0 0 (va_A (wx_W ad cI cZ cJ cG σ) sz) := by
  refine wx_ofW (cc := prog_8_method_6_code) (maxL := 2) (ret := (some .boolean)) (Qc := fun A => wx_Qi D ad cI cZ cJ cG res A) [.ref (ad 71), .int a1] (by decide) rfl (Nat.le_of_ble_eq_true rfl) ?_
  intro p e s m args below meth c A ls hin hl
  obtain ⟨hx, hb, hr, hts, hown, hlocks, hml, hA, hP, hK, hD, hC, hN, hS⟩ := hin
  have hl : lv_has ls 2 [(0, .ref (ad 71)), (1, .int a1)] := hl
  unfold wf_M_isCoil at hf
  refine lv_iload_n hx hb wd_M_isCoil_0 rfl (lv_at hl 1 rfl) ?_
  refine lv_iconst (v := 0) hx hb wd_M_isCoil_1 (by decide) ?_
  refine lv_aload_n hx hb wd_M_isCoil_2 rfl (lv_at hl 0 rfl) ?_
  refine wx_get (v := .int (σ 71 1)) (C := "WidthCampaignsModel") (T := wx_TM) (N' := 29) hx hb hts wi_M hown hK hP 71 (by decide) rfl rfl 1 (by decide) wt_631 (fun _ h9 => h9) rfl wd_M_isCoil_3 ?_
  refine lv_topi (fun v1 ev1 => ?_)
  have hf := wc_st_e ev1 hf
  refine lv_iconst (v := 1) hx hb wd_M_isCoil_6 (by decide) ?_
  refine lv_isub hx hb wd_M_isCoil_7 ?_
  refine lv_topi (fun v2 ev2 => ?_)
  have hf := wc_st_e ev2 hf
  obtain ⟨r4, σ3, hq, hf⟩ := wc_b2_e hf
  refine wx_calli (va_runS (As := [.int a1, .int 0, .int v2]) (rest := []) ⟨hx, hb, hml, hown, hts⟩ (wm_M_in l D ad cI cZ cJ cG _ a1 0 v2 σ _ hq) (wx_cwS 3 hts wt_728 wt_727 wt_7 wt_726 wh_M_in rfl rfl ⟨Nat.le_of_ble_eq_true rfl, Nat.le_of_ble_eq_true rfl⟩) (wx_preS hK hP hD hS hA hC) rfl rfl hl.1 rfl (lv_room (Nat.le_of_ble_eq_true rfl)) wd_M_isCoil_8 ⟨Nat.le_of_ble_eq_true rfl, Nat.le_of_ble_eq_true rfl⟩) hD hS hA (fun H locs hP hD hS => ?_)
  obtain ⟨h5, hf⟩ := wc_gd_e hf
  exact wx_zret hx hb hr (wc_z_e h5) hlocks hf hP hS wd_M_isCoil_11
