set_option maxHeartbeats 4000000 in
set_option maxRecDepth 100000 in
theorem wm_W_takePairIfBetter (l : Launch) (D : va_G) (ad : Nat → Nat) (cI cZ cJ cG : ClassId) (sz : Nat) (a1 : Int32) (a2 : Int32) (σ : wc_S) (res : Int32 × wc_S) (hf : wf_W_takePairIfBetter a1 a2 σ = some res) : Met l wy_W_takePairIfBetter (wx_ws_W_takePairIfBetter) ({ frames := 4, cells := 0, slots := 0, locals := 92 }) (va_Pc [.ref (ad 0), .int a1, .int a2] (wx_pre D ad cI cZ cJ cG σ sz)) (wx_Qi D ad cI cZ cJ cG res (va_A (wx_W ad cI cZ cJ cG σ) sz)) 0 0 (va_A (wx_W ad cI cZ cJ cG σ) sz) := by
  refine wx_ofW (cc := prog_1_method_24_code) (maxL := 3) (ret := (some .boolean)) (Qc := fun A => wx_Qi D ad cI cZ cJ cG res A) [.ref (ad 0), .int a1, .int a2] (by decide) rfl (Nat.le_of_ble_eq_true rfl) ?_
  intro p e s m args below meth c A ls hin hl
  obtain ⟨hx, hb, hr, hts, hown, hlocks, hml, hA, hP, hK, hD, hC, hN, hS⟩ := hin
  have hl : lv_has ls 3 [(0, .ref (ad 0)), (1, .int a1), (2, .int a2)] := hl
  unfold wf_W_takePairIfBetter at hf
  refine lv_aload_n hx hb wd_W_takePairIfBetter_0 rfl (lv_at hl 0 rfl) ?_
  refine wx_get (v := .ref (ad 49)) (C := "WidthCampaigns") (T := wx_TW) (N' := 7) hx hb hts wi_W hown hK hP 0 (by decide) rfl rfl 2 (by decide) wt_221 (fun _ h9 => h9) rfl wd_W_takePairIfBetter_1 ?_
  refine wx_getN (v := .ref (ad 50)) (C := "WidthCampaigns$Line") (T := wx_TL) (N' := 10) hx hb hts wi_L hown hK hP 49 (by decide) rfl rfl 1 (by decide) (hN.1 _ (List.mem_of_getElem? (i := 25) rfl) #[]) (fun _ h9 => h9) rfl wd_W_takePairIfBetter_4 ?_
  refine lv_iconst (v := 0) hx hb wd_W_takePairIfBetter_7 (by decide) ?_
  refine lv_aload_n hx hb wd_W_takePairIfBetter_8 rfl (lv_at hl 0 rfl) ?_
  refine wx_get (v := .ref (ad 70)) (C := "WidthCampaigns") (T := wx_TW) (N' := 7) hx hb hts wi_W hown hK hP 0 (by decide) rfl rfl 4 (by decide) wt_223 (fun _ h9 => h9) rfl wd_W_takePairIfBetter_9 ?_
  refine lv_iconst (v := 0) hx hb wd_W_takePairIfBetter_12 (by decide) ?_
  refine lv_aload_n hx hb wd_W_takePairIfBetter_13 rfl (lv_at hl 0 rfl) ?_
  refine wx_get (v := .ref (ad 1)) (C := "WidthCampaigns") (T := wx_TW) (N' := 7) hx hb hts wi_W hown hK hP 0 (by decide) rfl rfl 0 (by decide) wt_219 (fun _ h9 => h9) rfl wd_W_takePairIfBetter_14 ?_
  refine wx_getN (v := .int (σ 1 10)) (C := "WidthCampaigns$Plant") (T := wx_TP) (N' := 15) hx hb hts wi_P hown hK hP 1 (by decide) rfl rfl 10 (by decide) (hN.1 _ (List.mem_of_getElem? (i := 24) rfl) #[]) (fun _ h9 => h9) rfl wd_W_takePairIfBetter_17 ?_
  refine lv_topi (fun v1 ev1 => ?_)
  have hf := wc_st_e ev1 hf
  obtain ⟨h2, hf⟩ := wc_gd_e hf
  refine wx_copy hx hb (hml.trans hl.1.symm) hown (wx_hw hts wt_623) (wx_hw hts wt_477) (wx_hw hts wt_476) (wx_hw hts wt_15) hK hP hD hS 50 70 (by decide) (by decide) (fun _ => rfl) (fun _ => rfl) h2 (Nat.le_of_ble_eq_true rfl) (Nat.le_of_ble_eq_true rfl) wd_W_takePairIfBetter_20 (fun σ3 H locs eσ3 hP hD hS => ?_)
  have hf := wc_st_e eσ3 hf
  refine lv_aload_n hx hb wd_W_takePairIfBetter_23 rfl (lv_at hl 0 rfl) ?_
  refine wx_get (v := .ref (ad 70)) (C := "WidthCampaigns") (T := wx_TW) (N' := 7) hx hb hts wi_W hown hK hP 0 (by decide) rfl rfl 4 (by decide) wt_223 (fun _ h9 => h9) rfl wd_W_takePairIfBetter_24 ?_
  refine lv_iload_n hx hb wd_W_takePairIfBetter_27 rfl (lv_at hl 1 rfl) ?_
  refine lv_aload_n hx hb wd_W_takePairIfBetter_28 rfl (lv_at hl 0 rfl) ?_
  refine wx_get (v := .ref (ad 49)) (C := "WidthCampaigns") (T := wx_TW) (N' := 7) hx hb hts wi_W hown hK hP 0 (by decide) rfl rfl 2 (by decide) wt_221 (fun _ h9 => h9) rfl wd_W_takePairIfBetter_29 ?_
  refine wx_getN (v := .ref (ad 50)) (C := "WidthCampaigns$Line") (T := wx_TL) (N' := 10) hx hb hts wi_L hown hK hP 49 (by decide) rfl rfl 1 (by decide) (hN.1 _ (List.mem_of_getElem? (i := 25) rfl) #[]) (fun _ h9 => h9) rfl wd_W_takePairIfBetter_32 ?_
  refine lv_iload_n hx hb wd_W_takePairIfBetter_35 rfl (lv_at hl 2 rfl) ?_
  obtain ⟨h4, hf⟩ := wc_gd_e hf
  refine wx_iald hx hb hK hP 50 (n := 9) (by decide) rfl (wc_in_e h4) wd_W_takePairIfBetter_36 ?_
  refine lv_topi (fun v5 ev5 => ?_)
  have hf := wc_st_e ev5 hf
  obtain ⟨h6, hf⟩ := wc_gd_e hf
  refine wx_iast hx hb hK hP hD hS 70 (n := 9) (by decide) (fun _ => rfl) h6 wd_W_takePairIfBetter_37 (fun σ7 H locs eσ7 hP hD hS => ?_)
  have hf := wc_st_e eσ7 hf
  refine lv_aload_n hx hb wd_W_takePairIfBetter_38 rfl (lv_at hl 0 rfl) ?_
  refine wx_get (v := .ref (ad 70)) (C := "WidthCampaigns") (T := wx_TW) (N' := 7) hx hb hts wi_W hown hK hP 0 (by decide) rfl rfl 4 (by decide) wt_223 (fun _ h9 => h9) rfl wd_W_takePairIfBetter_39 ?_
  refine lv_iload_n hx hb wd_W_takePairIfBetter_42 rfl (lv_at hl 2 rfl) ?_
  refine lv_aload_n hx hb wd_W_takePairIfBetter_43 rfl (lv_at hl 0 rfl) ?_
  refine wx_get (v := .ref (ad 49)) (C := "WidthCampaigns") (T := wx_TW) (N' := 7) hx hb hts wi_W hown hK hP 0 (by decide) rfl rfl 2 (by decide) wt_221 (fun _ h9 => h9) rfl wd_W_takePairIfBetter_44 ?_
  refine wx_getN (v := .ref (ad 50)) (C := "WidthCampaigns$Line") (T := wx_TL) (N' := 10) hx hb hts wi_L hown hK hP 49 (by decide) rfl rfl 1 (by decide) (hN.1 _ (List.mem_of_getElem? (i := 25) rfl) #[]) (fun _ h9 => h9) rfl wd_W_takePairIfBetter_47 ?_
  refine lv_iload_n hx hb wd_W_takePairIfBetter_50 rfl (lv_at hl 1 rfl) ?_
  obtain ⟨h8, hf⟩ := wc_gd_e hf
  refine wx_iald hx hb hK hP 50 (n := 9) (by decide) rfl (wc_in_e h8) wd_W_takePairIfBetter_51 ?_
  refine lv_topi (fun v9 ev9 => ?_)
  have hf := wc_st_e ev9 hf
  obtain ⟨h10, hf⟩ := wc_gd_e hf
  refine wx_iast hx hb hK hP hD hS 70 (n := 9) (by decide) (fun _ => rfl) h10 wd_W_takePairIfBetter_52 (fun σ11 H locs eσ11 hP hD hS => ?_)
  have hf := wc_st_e eσ11 hf
  refine lv_aload_n hx hb wd_W_takePairIfBetter_53 rfl (lv_at hl 0 rfl) ?_
  refine wx_get (v := .ref (ad 30)) (C := "WidthCampaigns") (T := wx_TW) (N' := 7) hx hb hts wi_W hown hK hP 0 (by decide) rfl rfl 1 (by decide) wt_220 (fun _ h9 => h9) rfl wd_W_takePairIfBetter_54 ?_
  refine lv_aload_n hx hb wd_W_takePairIfBetter_57 rfl (lv_at hl 0 rfl) ?_
  refine wx_get (v := .ref (ad 70)) (C := "WidthCampaigns") (T := wx_TW) (N' := 7) hx hb hts wi_W hown hK hP 0 (by decide) rfl rfl 4 (by decide) wt_223 (fun _ h9 => h9) rfl wd_W_takePairIfBetter_58 ?_
  obtain ⟨r13, σ12, hq, hf⟩ := wc_b2_e hf
  refine wx_calli (va_runVN (As := [.ref (ad 70)]) (rest := []) ⟨hx, hb, hml, hown, hts⟩ (wm_L_layAll l D ad cI cZ cJ cG _ 30 (Or.inl rfl) 70 (Or.inr rfl) σ11 _ hq) (wx_cwN 1 hts wt_517 wt_516 wp_24 wt_5 (hN.1 _ (List.mem_of_getElem? (i := 26) rfl) #[]) wh_L_layAll rfl rfl ⟨Nat.le_of_ble_eq_true rfl, Nat.le_of_ble_eq_true rfl⟩) (wx_preV hK hP hD hS hA hC (by decide) rfl rfl) rfl rfl hl.1 rfl (lv_room (Nat.le_of_ble_eq_true rfl)) wd_W_takePairIfBetter_61 ⟨Nat.le_of_ble_eq_true rfl, Nat.le_of_ble_eq_true rfl⟩) hD hS hA (fun H locs hP hD hS => ?_)
  refine lv_if_eq (tgt := 84) hx hb wd_W_takePairIfBetter_64 (by decide) (fun c14 => ?_) (fun c14 => ?_)
  · have hf := wc_t c14 hf
    refine lv_iconst (v := 0) hx hb wd_W_takePairIfBetter_84 (by decide) ?_
    exact wx_zret hx hb hr narrow_b0 hlocks hf hP hS wd_W_takePairIfBetter_85
  · have hf := wc_f c14 hf
    refine lv_aload_n hx hb wd_W_takePairIfBetter_67 rfl (lv_at hl 0 rfl) ?_
    refine wx_get (v := .ref (ad 30)) (C := "WidthCampaigns") (T := wx_TW) (N' := 7) hx hb hts wi_W hown hK hP 0 (by decide) rfl rfl 1 (by decide) wt_220 (fun _ h9 => h9) rfl wd_W_takePairIfBetter_68 ?_
    obtain ⟨r16, σ15, hq, hf⟩ := wc_b2_e hf
    refine wx_calli (va_runVN (As := []) (rest := []) ⟨hx, hb, hml, hown, hts⟩ (wm_L_penaltySoFar l D ad cI cZ cJ cG _ 30 (Or.inl rfl) σ12 _ hq) (wx_cwN 0 hts wt_474 wt_473 wp_14 wt_5 (hN.1 _ (List.mem_of_getElem? (i := 27) rfl) #[]) wh_L_penaltySoFar rfl rfl ⟨Nat.le_of_ble_eq_true rfl, Nat.le_of_ble_eq_true rfl⟩) (wx_preV hK hP hD hS hA hC (by decide) rfl rfl) rfl rfl hl.1 rfl (lv_room (Nat.le_of_ble_eq_true rfl)) wd_W_takePairIfBetter_71 ⟨Nat.le_of_ble_eq_true rfl, Nat.le_of_ble_eq_true rfl⟩) hD hS hA (fun H locs hP hD hS => ?_)
    refine lv_aload_n hx hb wd_W_takePairIfBetter_74 rfl (lv_at hl 0 rfl) ?_
    refine wx_get (v := .ref (ad 49)) (C := "WidthCampaigns") (T := wx_TW) (N' := 7) hx hb hts wi_W hown hK hP 0 (by decide) rfl rfl 2 (by decide) wt_221 (fun _ h9 => h9) rfl wd_W_takePairIfBetter_75 ?_
    obtain ⟨r18, σ17, hq, hf⟩ := wc_b2_e hf
    refine wx_calli (va_runVN (As := []) (rest := [.int r16]) ⟨hx, hb, hml, hown, hts⟩ (wm_L_penaltySoFar l D ad cI cZ cJ cG _ 49 (Or.inr rfl) σ15 _ hq) (wx_cwN 0 hts wt_474 wt_473 wp_14 wt_5 (hN.1 _ (List.mem_of_getElem? (i := 27) rfl) #[]) wh_L_penaltySoFar rfl rfl ⟨Nat.le_of_ble_eq_true rfl, Nat.le_of_ble_eq_true rfl⟩) (wx_preV hK hP hD hS hA hC (by decide) rfl rfl) rfl rfl hl.1 rfl (lv_room (Nat.le_of_ble_eq_true rfl)) wd_W_takePairIfBetter_78 ⟨Nat.le_of_ble_eq_true rfl, Nat.le_of_ble_eq_true rfl⟩) hD hS hA (fun H locs hP hD hS => ?_)
    refine lv_icmp_lt (tgt := 86) hx hb wd_W_takePairIfBetter_81 (by decide) (fun c19 => ?_) (fun c19 => ?_)
    · have hf := wc_t c19 hf
      refine lv_aload_n hx hb wd_W_takePairIfBetter_86 rfl (lv_at hl 0 rfl) ?_
      refine wx_get (v := .ref (ad 49)) (C := "WidthCampaigns") (T := wx_TW) (N' := 7) hx hb hts wi_W hown hK hP 0 (by decide) rfl rfl 2 (by decide) wt_221 (fun _ h9 => h9) rfl wd_W_takePairIfBetter_87 ?_
      refine lv_aload_n hx hb wd_W_takePairIfBetter_90 rfl (lv_at hl 0 rfl) ?_
      refine wx_get (v := .ref (ad 70)) (C := "WidthCampaigns") (T := wx_TW) (N' := 7) hx hb hts wi_W hown hK hP 0 (by decide) rfl rfl 4 (by decide) wt_223 (fun _ h9 => h9) rfl wd_W_takePairIfBetter_91 ?_
      obtain ⟨r21, σ20, hq, hf⟩ := wc_b2_e hf
      refine wx_calli (va_runVN (As := [.ref (ad 70)]) (rest := []) ⟨hx, hb, hml, hown, hts⟩ (wm_L_layAll l D ad cI cZ cJ cG _ 49 (Or.inr rfl) 70 (Or.inr rfl) σ17 _ hq) (wx_cwN 1 hts wt_517 wt_516 wp_24 wt_5 (hN.1 _ (List.mem_of_getElem? (i := 26) rfl) #[]) wh_L_layAll rfl rfl ⟨Nat.le_of_ble_eq_true rfl, Nat.le_of_ble_eq_true rfl⟩) (wx_preV hK hP hD hS hA hC (by decide) rfl rfl) rfl rfl hl.1 rfl (lv_room (Nat.le_of_ble_eq_true rfl)) wd_W_takePairIfBetter_94 ⟨Nat.le_of_ble_eq_true rfl, Nat.le_of_ble_eq_true rfl⟩) hD hS hA (fun H locs hP hD hS => ?_)
      refine lv_pop hx hb wd_W_takePairIfBetter_97 rfl ?_
      refine lv_iconst (v := 1) hx hb wd_W_takePairIfBetter_98 (by decide) ?_
      exact wx_zret hx hb hr narrow_b1 hlocks hf hP hS wd_W_takePairIfBetter_99
    · have hf := wc_f c19 hf
      refine lv_iconst (v := 0) hx hb wd_W_takePairIfBetter_84 (by decide) ?_
      exact wx_zret hx hb hr narrow_b0 hlocks hf hP hS wd_W_takePairIfBetter_85
set_option maxHeartbeats 4000000 in
set_option maxRecDepth 100000 in
theorem wm_W_takeFirstBetterPair (l : Launch) (D : va_G) (ad : Nat → Nat) (cI cZ cJ cG : ClassId) (sz : Nat) (σ : wc_S) (res : Int32 × wc_S) (hf : wf_W_takeFirstBetterPair  σ = some res) : Met l wy_W_takeFirstBetterPair (wx_ws_W_takeFirstBetterPair) ({ frames := 5, cells := 0, slots := 0, locals := 114 }) (va_Pc [.ref (ad 0)] (wx_pre D ad cI cZ cJ cG σ sz)) (wx_Qi D ad cI cZ cJ cG res (va_A (wx_W ad cI cZ cJ cG σ) sz)) 0 0 (va_A (wx_W ad cI cZ cJ cG σ) sz) := by
  refine wx_ofW (cc := prog_1_method_23_code) (maxL := 3) (ret := (some .boolean)) (Qc := fun A => wx_Qi D ad cI cZ cJ cG res A) [.ref (ad 0)] (by decide) rfl (Nat.le_of_ble_eq_true rfl) ?_
  intro p e s m args below meth c A ls hin hl
  obtain ⟨hx, hb, hr, hts, hown, hlocks, hml, hA, hP, hK, hD, hC, hN, hS⟩ := hin
  have hl : lv_has ls 3 [(0, .ref (ad 0))] := hl
  have J17 : ∀ (k2 : Int32 → wc_S → Option (Int32 × wc_S)) (hk2 : (∀ (x1 : Int32) (σ : wc_S), k2 x1 σ = some res → wx_Arr p l e ({ frames := 5, cells := 0, slots := 0, locals := 114 }) s m args below meth c D ad cI cZ cJ cG A (MQ below (wx_Qi D ad cI cZ cJ cG res A) args s 0 0 A) 3 0 0 2 [(0, .ref (ad 0)), (1, .int x1)] [] σ)) (n : Nat) (x1 : Int32) (x2 : Int32) (σ : wc_S), wf_W_takeFirstBetterPair_17 k2 n x1 x2 σ = some res → wx_Arr p l e ({ frames := 5, cells := 0, slots := 0, locals := 114 }) s m args below meth c D ad cI cZ cJ cG A (MQ below (wx_Qi D ad cI cZ cJ cG res A) args s 0 0 A) 3 0 0 17 [(0, .ref (ad 0)), (1, .int x1), (2, .int x2)] [] σ := by
    intro k2 hk2 n
    induction n with
    | zero => intro x1 x2 σ hf; exact absurd hf (by intro h9; cases h9)
    | succ n hk17 =>
      intro x1 x2 σ hf H locs ls hP hD hS hl
      have hf : wf_W_takeFirstBetterPair_17_b k2 (wf_W_takeFirstBetterPair_17 k2 n) x1 x2 σ = some res := hf
      unfold wf_W_takeFirstBetterPair_17_b at hf
      refine lv_iload_n hx hb wd_W_takeFirstBetterPair_17 rfl (lv_at hl 2 rfl) ?_
      refine lv_aload_n hx hb wd_W_takeFirstBetterPair_18 rfl (lv_at hl 0 rfl) ?_
      refine wx_get (v := .ref (ad 1)) (C := "WidthCampaigns") (T := wx_TW) (N' := 7) hx hb hts wi_W hown hK hP 0 (by decide) rfl rfl 0 (by decide) wt_219 (fun _ h9 => h9) rfl wd_W_takeFirstBetterPair_19 ?_
      refine wx_getN (v := .int (σ 1 10)) (C := "WidthCampaigns$Plant") (T := wx_TP) (N' := 15) hx hb hts wi_P hown hK hP 1 (by decide) rfl rfl 10 (by decide) (hN.1 _ (List.mem_of_getElem? (i := 24) rfl) #[]) (fun _ h9 => h9) rfl wd_W_takeFirstBetterPair_22 ?_
      refine lv_topi (fun v4 ev4 => ?_)
      have hf := wc_st_e ev4 hf
      refine lv_icmp_ge (tgt := 45) hx hb wd_W_takeFirstBetterPair_25 (by decide) (fun c5 => ?_) (fun c5 => ?_)
      · have hf := wc_t c5 hf
        obtain ⟨v6, ev6⟩ : ∃ y : Int32, y = x1 + 1 := ⟨_, rfl⟩
        have hf := wc_st_e ev6 hf
        refine lv_iinc (v := v6) (lv' := [(1, .int v6), (0, .ref (ad 0)), (2, .int x2)]) hx hb wd_W_takeFirstBetterPair_45 hl (k := 1) rfl (by rw [ev6]; rfl) (by decide) rfl (fun ls hl => ?_)
        refine lv_goto (tgt := 2) hx hb wd_W_takeFirstBetterPair_48 (by decide) ?_
        exact hk2 v6 σ hf _ _ _ hP hD hS (lv_sub hl [1, 0] rfl)
      · have hf := wc_f c5 hf
        refine lv_aload_n hx hb wd_W_takeFirstBetterPair_28 rfl (lv_at hl 0 rfl) ?_
        refine lv_iload_n hx hb wd_W_takeFirstBetterPair_29 rfl (lv_at hl 1 rfl) ?_
        refine lv_iload_n hx hb wd_W_takeFirstBetterPair_30 rfl (lv_at hl 2 rfl) ?_
        obtain ⟨r8, σ7, hq, hf⟩ := wc_b2_e hf
        refine wx_calli (va_runV (As := [.int x1, .int x2]) (rest := []) ⟨hx, hb, hml, hown, hts⟩ (wm_W_takePairIfBetter l D ad cI cZ cJ cG _ x1 x2 σ _ hq) (wx_cwV 2 hts wt_622 wt_621 wp_31 wt_1 wt_619 wh_W_takePairIfBetter rfl rfl ⟨Nat.le_of_ble_eq_true rfl, Nat.le_of_ble_eq_true rfl⟩) (wx_preV hK hP hD hS hA hC (by decide) rfl rfl) rfl rfl hl.1 rfl (lv_room (Nat.le_of_ble_eq_true rfl)) wd_W_takeFirstBetterPair_31 ⟨Nat.le_of_ble_eq_true rfl, Nat.le_of_ble_eq_true rfl⟩) hD hS hA (fun H locs hP hD hS => ?_)
        refine lv_if_eq (tgt := 39) hx hb wd_W_takeFirstBetterPair_34 (by decide) (fun c9 => ?_) (fun c9 => ?_)
        · have hf := wc_t c9 hf
          obtain ⟨v10, ev10⟩ : ∃ y : Int32, y = x2 + 1 := ⟨_, rfl⟩
          have hf := wc_st_e ev10 hf
          refine lv_iinc (v := v10) (lv' := [(2, .int v10), (0, .ref (ad 0)), (1, .int x1)]) hx hb wd_W_takeFirstBetterPair_39 hl (k := 2) rfl (by rw [ev10]; rfl) (by decide) rfl (fun ls hl => ?_)
          refine lv_goto (tgt := 17) hx hb wd_W_takeFirstBetterPair_42 (by decide) ?_
          exact hk17 x1 v10 σ7 hf _ _ _ hP hD hS (lv_sub hl [1, 2, 0] rfl)
        · have hf := wc_f c9 hf
          refine lv_iconst (v := 1) hx hb wd_W_takeFirstBetterPair_37 (by decide) ?_
          exact wx_zret hx hb hr narrow_b1 hlocks hf hP hS wd_W_takeFirstBetterPair_38
  have J2 : ∀ (n : Nat) (x1 : Int32) (σ : wc_S), wf_W_takeFirstBetterPair_2 n x1 σ = some res → wx_Arr p l e ({ frames := 5, cells := 0, slots := 0, locals := 114 }) s m args below meth c D ad cI cZ cJ cG A (MQ below (wx_Qi D ad cI cZ cJ cG res A) args s 0 0 A) 3 0 0 2 [(0, .ref (ad 0)), (1, .int x1)] [] σ := by
    intro  n
    induction n with
    | zero => intro x1 σ hf; exact absurd hf (by intro h9; cases h9)
    | succ n hk2 =>
      intro x1 σ hf H locs ls hP hD hS hl
      have hf : wf_W_takeFirstBetterPair_2_b (wf_W_takeFirstBetterPair_2 n) x1 σ = some res := hf
      unfold wf_W_takeFirstBetterPair_2_b at hf
      refine lv_iload_n hx hb wd_W_takeFirstBetterPair_2 rfl (lv_at hl 1 rfl) ?_
      refine lv_aload_n hx hb wd_W_takeFirstBetterPair_3 rfl (lv_at hl 0 rfl) ?_
      refine wx_get (v := .ref (ad 1)) (C := "WidthCampaigns") (T := wx_TW) (N' := 7) hx hb hts wi_W hown hK hP 0 (by decide) rfl rfl 0 (by decide) wt_219 (fun _ h9 => h9) rfl wd_W_takeFirstBetterPair_4 ?_
      refine wx_getN (v := .int (σ 1 10)) (C := "WidthCampaigns$Plant") (T := wx_TP) (N' := 15) hx hb hts wi_P hown hK hP 1 (by decide) rfl rfl 10 (by decide) (hN.1 _ (List.mem_of_getElem? (i := 24) rfl) #[]) (fun _ h9 => h9) rfl wd_W_takeFirstBetterPair_7 ?_
      refine lv_topi (fun v1 ev1 => ?_)
      have hf := wc_st_e ev1 hf
      refine lv_icmp_ge (tgt := 51) hx hb wd_W_takeFirstBetterPair_10 (by decide) (fun c2 => ?_) (fun c2 => ?_)
      · have hf := wc_t c2 hf
        refine lv_iconst (v := 0) hx hb wd_W_takeFirstBetterPair_51 (by decide) ?_
        exact wx_zret hx hb hr narrow_b0 hlocks hf hP hS wd_W_takeFirstBetterPair_52
      · have hf := wc_f c2 hf
        refine lv_iload_n hx hb wd_W_takeFirstBetterPair_13 rfl (lv_at hl 1 rfl) ?_
        refine lv_iconst (v := 1) hx hb wd_W_takeFirstBetterPair_14 (by decide) ?_
        refine lv_iadd hx hb wd_W_takeFirstBetterPair_15 ?_
        refine lv_topi (fun v3 ev3 => ?_)
        have hf := wc_st_e ev3 hf
        refine lv_istore_n (lv' := [(2, .int v3), (0, .ref (ad 0)), (1, .int x1)]) hx hb wd_W_takeFirstBetterPair_16 rfl hl (by decide) rfl (fun ls hl => ?_)
        exact J17 (wf_W_takeFirstBetterPair_2 n) hk2 16 x1 v3 σ hf _ _ _ hP hD hS (lv_sub hl [1, 2, 0] rfl)
  unfold wf_W_takeFirstBetterPair at hf
  refine lv_iconst (v := 0) hx hb wd_W_takeFirstBetterPair_0 (by decide) ?_
  refine lv_istore_n (lv' := [(1, .int 0), (0, .ref (ad 0))]) hx hb wd_W_takeFirstBetterPair_1 rfl hl (by decide) rfl (fun ls hl => ?_)
  exact J2 16 0 σ hf _ _ _ hP hD hS (lv_sub hl [1, 0] rfl)
set_option maxHeartbeats 4000000 in
set_option maxRecDepth 100000 in
theorem wm_W_bound (l : Launch) (D : va_G) (ad : Nat → Nat) (cI cZ cJ cG : ClassId) (sz : Nat) (σ : wc_S) (res : Int32 × wc_S) (hf : wf_W_bound  σ = some res) : Met l wy_W_bound (wx_ws_W_bound) ({ frames := 1, cells := 0, slots := 0, locals := 60 }) (va_Pc [.ref (ad 0)] (wx_pre D ad cI cZ cJ cG σ sz)) (wx_Qi D ad cI cZ cJ cG res (va_A (wx_W ad cI cZ cJ cG σ) sz)) 0 0 (va_A (wx_W ad cI cZ cJ cG σ) sz) := by
  refine wx_ofW (cc := prog_1_method_14_code) (maxL := 5) (ret := (some .int)) (Qc := fun A => wx_Qi D ad cI cZ cJ cG res A) [.ref (ad 0)] (by decide) rfl (Nat.le_of_ble_eq_true rfl) ?_
  intro p e s m args below meth c A ls hin hl
  obtain ⟨hx, hb, hr, hts, hown, hlocks, hml, hA, hP, hK, hD, hC, hN, hS⟩ := hin
  have hl : lv_has ls 5 [(0, .ref (ad 0))] := hl
  have J6 : ∀ (n : Nat) (x1 : Int32) (x2 : Int32) (x3 : Int32) (σ : wc_S), wf_W_bound_6 n x1 x2 x3 σ = some res → wx_Arr p l e ({ frames := 1, cells := 0, slots := 0, locals := 60 }) s m args below meth c D ad cI cZ cJ cG A (MQ below (wx_Qi D ad cI cZ cJ cG res A) args s 0 0 A) 5 0 0 6 [(0, .ref (ad 0)), (1, .int x1), (2, .int x2), (3, .int x3)] [] σ := by
    intro  n
    induction n with
    | zero => intro x1 x2 x3 σ hf; exact absurd hf (by intro h9; cases h9)
    | succ n hk6 =>
      intro x1 x2 x3 σ hf H locs ls hP hD hS hl
      have hf : wf_W_bound_6_b (wf_W_bound_6 n) x1 x2 x3 σ = some res := hf
      unfold wf_W_bound_6_b at hf
      refine lv_iload_n hx hb wd_W_bound_6 rfl (lv_at hl 3 rfl) ?_
      refine lv_aload_n hx hb wd_W_bound_7 rfl (lv_at hl 0 rfl) ?_
      refine wx_get (v := .ref (ad 1)) (C := "WidthCampaigns") (T := wx_TW) (N' := 7) hx hb hts wi_W hown hK hP 0 (by decide) rfl rfl 0 (by decide) wt_219 (fun _ h9 => h9) rfl wd_W_bound_8 ?_
      refine wx_getN (v := .int (σ 1 10)) (C := "WidthCampaigns$Plant") (T := wx_TP) (N' := 15) hx hb hts wi_P hown hK hP 1 (by decide) rfl rfl 10 (by decide) (hN.1 _ (List.mem_of_getElem? (i := 24) rfl) #[]) (fun _ h9 => h9) rfl wd_W_bound_11 ?_
      refine lv_topi (fun v1 ev1 => ?_)
      have hf := wc_st_e ev1 hf
      refine lv_icmp_ge (tgt := 45) hx hb wd_W_bound_14 (by decide) (fun c2 => ?_) (fun c2 => ?_)
      · have hf := wc_t c2 hf
        refine lv_iload_n hx hb wd_W_bound_45 rfl (lv_at hl 1 rfl) ?_
        refine lv_iload_n hx hb wd_W_bound_46 rfl (lv_at hl 2 rfl) ?_
        refine lv_isub hx hb wd_W_bound_47 ?_
        refine lv_topi (fun v3 ev3 => ?_)
        have hf := wc_st_e ev3 hf
        exact wx_iret hx hb hr hlocks hf hP hS wd_W_bound_48
      · have hf := wc_f c2 hf
        refine lv_aload_n hx hb wd_W_bound_17 rfl (lv_at hl 0 rfl) ?_
        refine wx_get (v := .ref (ad 1)) (C := "WidthCampaigns") (T := wx_TW) (N' := 7) hx hb hts wi_W hown hK hP 0 (by decide) rfl rfl 0 (by decide) wt_219 (fun _ h9 => h9) rfl wd_W_bound_18 ?_
        refine lv_iload_n hx hb wd_W_bound_21 rfl (lv_at hl 3 rfl) ?_
        obtain ⟨r5, σ4, hq, hf⟩ := wc_b2_e hf
        refine wx_calli (va_runVN (As := [.int x3]) (rest := []) ⟨hx, hb, hml, hown, hts⟩ (wm_P_leastJumpTo l D ad cI cZ cJ cG _ x3 σ _ hq) (wx_cwN 1 hts wt_248 wt_247 wp_0 wt_2 (hN.1 _ (List.mem_of_getElem? (i := 51) rfl) #[]) wh_P_leastJumpTo rfl rfl ⟨Nat.le_of_ble_eq_true rfl, Nat.le_of_ble_eq_true rfl⟩) (wx_preV hK hP hD hS hA hC (by decide) rfl rfl) rfl rfl hl.1 rfl (lv_room (Nat.le_of_ble_eq_true rfl)) wd_W_bound_22 ⟨Nat.le_of_ble_eq_true rfl, Nat.le_of_ble_eq_true rfl⟩) hD hS hA (fun H locs hP hD hS => ?_)
        refine lv_istore (lv' := [(4, .int r5), (0, .ref (ad 0)), (1, .int x1), (2, .int x2), (3, .int x3)]) hx hb wd_W_bound_25 hl (by decide) rfl (fun ls hl => ?_)
        refine lv_iload_n hx hb wd_W_bound_27 rfl (lv_at hl 2 rfl) ?_
        refine lv_iload hx hb wd_W_bound_28 (lv_at hl 0 rfl) ?_
        refine lv_iadd hx hb wd_W_bound_30 ?_
        refine lv_topi (fun v6 ev6 => ?_)
        have hf := wc_st_e ev6 hf
        refine lv_istore_n (lv' := [(1, .int v6), (4, .int r5), (0, .ref (ad 0)), (2, .int x2), (3, .int x3)]) hx hb wd_W_bound_31 rfl hl (by decide) rfl (fun ls hl => ?_)
        refine lv_iload_n hx hb wd_W_bound_32 rfl (lv_at hl 3 rfl) ?_
        refine lv_iload hx hb wd_W_bound_33 (lv_at hl 1 rfl) ?_
        refine va_mmax hx hb (hml.trans hl.1.symm) hown (wx_hw hts wt_249) (wx_hw hts wt_250) (wx_hw hts wt_13) (wx_hw hts wt_251) (Nat.le_of_ble_eq_true rfl) (Nat.le_of_ble_eq_true rfl) (Nat.le_of_ble_eq_true rfl) (Nat.le_of_ble_eq_true rfl) wd_W_bound_35 ?_
        refine lv_topi (fun v7 ev7 => ?_)
        have hf := wc_st_e ev7 hf
        refine lv_istore_n (lv' := [(2, .int v7), (1, .int v6), (4, .int r5), (0, .ref (ad 0)), (3, .int x3)]) hx hb wd_W_bound_38 rfl hl (by decide) rfl (fun ls hl => ?_)
        obtain ⟨v8, ev8⟩ : ∃ y : Int32, y = x3 + 1 := ⟨_, rfl⟩
        have hf := wc_st_e ev8 hf
        refine lv_iinc (v := v8) (lv' := [(3, .int v8), (2, .int v7), (1, .int v6), (4, .int r5), (0, .ref (ad 0))]) hx hb wd_W_bound_39 hl (k := 4) rfl (by rw [ev8]; rfl) (by decide) rfl (fun ls hl => ?_)
        refine lv_goto (tgt := 6) hx hb wd_W_bound_42 (by decide) ?_
        exact hk6 v6 v7 v8 σ4 hf _ _ _ hP hD hS (lv_sub hl [4, 2, 1, 0] rfl)
  unfold wf_W_bound at hf
  refine lv_iconst (v := 0) hx hb wd_W_bound_0 (by decide) ?_
  refine lv_istore_n (lv' := [(1, .int 0), (0, .ref (ad 0))]) hx hb wd_W_bound_1 rfl hl (by decide) rfl (fun ls hl => ?_)
  refine lv_iconst (v := 0) hx hb wd_W_bound_2 (by decide) ?_
  refine lv_istore_n (lv' := [(2, .int 0), (1, .int 0), (0, .ref (ad 0))]) hx hb wd_W_bound_3 rfl hl (by decide) rfl (fun ls hl => ?_)
  refine lv_iconst (v := 0) hx hb wd_W_bound_4 (by decide) ?_
  refine lv_istore_n (lv' := [(3, .int 0), (2, .int 0), (1, .int 0), (0, .ref (ad 0))]) hx hb wd_W_bound_5 rfl hl (by decide) rfl (fun ls hl => ?_)
  exact J6 16 0 0 0 σ hf _ _ _ hP hD hS (lv_sub hl [3, 2, 1, 0] rfl)
set_option maxHeartbeats 4000000 in
set_option maxRecDepth 100000 in
theorem wm_M_thrown (l : Launch) (D : va_G) (ad : Nat → Nat) (cI cZ cJ cG : ClassId) (sz : Nat) (σ : wc_S) (res : Int32 × wc_S) (hf : wf_M_thrown  σ = some res) : Met l wy_M_thrown (wx_ws_M_thrown) ({ frames := 0, cells := 0, slots := 0, locals := 0 }) (va_Pc [.ref (ad 71)] (wx_pre D ad cI cZ cJ cG σ sz)) (wx_Qi D ad cI cZ cJ cG res (va_A (wx_W ad cI cZ cJ cG σ) sz)) 0 0 (va_A (wx_W ad cI cZ cJ cG σ) sz) := by
  refine wx_ofW (cc := prog_8_method_2_code) (maxL := 1) (ret := (some .int)) (Qc := fun A => wx_Qi D ad cI cZ cJ cG res A) [.ref (ad 71)] (by decide) rfl (Nat.le_of_ble_eq_true rfl) ?_
  intro p e s m args below meth c A ls hin hl
  obtain ⟨hx, hb, hr, hts, hown, hlocks, hml, hA, hP, hK, hD, hC, hN, hS⟩ := hin
  have hl : lv_has ls 1 [(0, .ref (ad 71))] := hl
  unfold wf_M_thrown at hf
  refine lv_aload_n hx hb wd_M_thrown_0 rfl (lv_at hl 0 rfl) ?_
  refine wx_get (v := .int (σ 71 0)) (C := "WidthCampaignsModel") (T := wx_TM) (N' := 29) hx hb hts wi_M hown hK hP 71 (by decide) rfl rfl 0 (by decide) wt_630 (fun _ h9 => h9) rfl wd_M_thrown_1 ?_
  refine lv_topi (fun v1 ev1 => ?_)
  have hf := wc_st_e ev1 hf
  exact wx_iret hx hb hr hlocks hf hP hS wd_M_thrown_4
set_option maxHeartbeats 4000000 in
set_option maxRecDepth 100000 in
theorem wm_M_in (l : Launch) (D : va_G) (ad : Nat → Nat) (cI cZ cJ cG : ClassId) (sz : Nat) (a0 : Int32) (a1 : Int32) (a2 : Int32) (σ : wc_S) (res : Int32 × wc_S) (hf : wf_M_in a0 a1 a2 σ = some res) : Met l wy_M_in (wx_ws_M_in) ({ frames := 0, cells := 0, slots := 0, locals := 0 }) (va_Pc [.int a0, .int a1, .int a2] (wx_pre D ad cI cZ cJ cG σ sz)) (wx_Qi D ad cI cZ cJ cG res (va_A (wx_W ad cI cZ cJ cG σ) sz)) 0 0 (va_A (wx_W ad cI cZ cJ cG σ) sz) := by
  refine wx_ofW (cc := prog_8_method_3_code) (maxL := 3) (ret := (some .boolean)) (Qc := fun A => wx_Qi D ad cI cZ cJ cG res A) [.int a0, .int a1, .int a2] (by decide) rfl (Nat.le_of_ble_eq_true rfl) ?_
  intro p e s m args below meth c A ls hin hl
  obtain ⟨hx, hb, hr, hts, hown, hlocks, hml, hA, hP, hK, hD, hC, hN, hS⟩ := hin
  have hl : lv_has ls 3 [(0, .int a0), (1, .int a1), (2, .int a2)] := hl
  unfold wf_M_in at hf
  refine lv_iload_n hx hb wd_M_in_0 rfl (lv_at hl 0 rfl) ?_
  refine lv_iload_n hx hb wd_M_in_1 rfl (lv_at hl 1 rfl) ?_
  refine lv_icmp_lt (tgt := 14) hx hb wd_M_in_2 (by decide) (fun c1 => ?_) (fun c1 => ?_)
  · have hf := wc_t c1 hf
    refine lv_iconst (v := 0) hx hb wd_M_in_14 (by decide) ?_
    exact wx_zret hx hb hr narrow_b0 hlocks hf hP hS wd_M_in_15
  · have hf := wc_f c1 hf
    refine lv_iload_n hx hb wd_M_in_5 rfl (lv_at hl 0 rfl) ?_
    refine lv_iload_n hx hb wd_M_in_6 rfl (lv_at hl 2 rfl) ?_
    refine lv_icmp_gt (tgt := 14) hx hb wd_M_in_7 (by decide) (fun c2 => ?_) (fun c2 => ?_)
    · have hf := wc_t c2 hf
      refine lv_iconst (v := 0) hx hb wd_M_in_14 (by decide) ?_
      exact wx_zret hx hb hr narrow_b0 hlocks hf hP hS wd_M_in_15
    · have hf := wc_f c2 hf
      refine lv_iconst (v := 1) hx hb wd_M_in_10 (by decide) ?_
      refine lv_goto (tgt := 15) hx hb wd_M_in_11 (by decide) ?_
      exact wx_zret hx hb hr narrow_b1 hlocks hf hP hS wd_M_in_15
set_option maxHeartbeats 4000000 in
set_option maxRecDepth 100000 in
theorem wm_M_goes (l : Launch) (D : va_G) (ad : Nat → Nat) (cI cZ cJ cG : ClassId) (sz : Nat) (a1 : Int32) (a2 : Int32) (a3 : Int32) (σ : wc_S) (res : Int32 × wc_S) (hf : wf_M_goes a1 a2 a3 σ = some res) : Met l wy_M_goes (wx_ws_M_goes) ({ frames := 0, cells := 0, slots := 0, locals := 0 }) (va_Pc [.ref (ad 71), .int a1, .int a2, .int a3] (wx_pre D ad cI cZ cJ cG σ sz)) (wx_Qi D ad cI cZ cJ cG res (va_A (wx_W ad cI cZ cJ cG σ) sz)) 0 0 (va_A (wx_W ad cI cZ cJ cG σ) sz) := by
  refine wx_ofW (cc := prog_8_method_4_code) (maxL := 4) (ret := (some .boolean)) (Qc := fun A => wx_Qi D ad cI cZ cJ cG res A) [.ref (ad 71), .int a1, .int a2, .int a3] (by decide) rfl (Nat.le_of_ble_eq_true rfl) ?_
  intro p e s m args below meth c A ls hin hl
  obtain ⟨hx, hb, hr, hts, hown, hlocks, hml, hA, hP, hK, hD, hC, hN, hS⟩ := hin
  have hl : lv_has ls 4 [(0, .ref (ad 71)), (1, .int a1), (2, .int a2), (3, .int a3)] := hl
  have J26 : ∀ (s1 : Int32) (σ : wc_S), wf_M_goes_26 s1 σ = some res → wx_Arr p l e ({ frames := 0, cells := 0, slots := 0, locals := 0 }) s m args below meth c D ad cI cZ cJ cG A (MQ below (wx_Qi D ad cI cZ cJ cG res A) args s 0 0 A) 4 0 0 26 [(0, .ref (ad 71))] [.int s1, .ref (ad 71)] σ := by
    intro  s1 σ hf H locs ls hP hD hS hl
    unfold wf_M_goes_26 at hf
    refine wx_put (x := s1) (ty := .int) (C := "WidthCampaignsModel") (T := wx_TM) (N' := 29) hx hb hts wi_M wx_tM wx_toM wx_nM hown hK hP hD hS 71 (by decide) (fun _ => rfl) rfl 0 (by decide) wt_630 (fun _ h9 => h9) rfl (by decide +kernel) rfl rfl (Nat.le_of_ble_eq_true rfl) rfl wd_M_goes_26 (fun σ4 H locs eσ4 hP hD hS => ?_)
    have hf := wc_st_e eσ4 hf
    refine lv_aload_n hx hb wd_M_goes_29 rfl (lv_at hl 0 rfl) ?_
    refine wx_get (v := .int (σ4 71 0)) (C := "WidthCampaignsModel") (T := wx_TM) (N' := 29) hx hb hts wi_M hown hK hP 71 (by decide) rfl rfl 0 (by decide) wt_630 (fun _ h9 => h9) rfl wd_M_goes_30 ?_
    refine lv_topi (fun v5 ev5 => ?_)
    have hf := wc_st_e ev5 hf
    refine lv_if_ne (tgt := 40) hx hb wd_M_goes_33 (by decide) (fun c6 => ?_) (fun c6 => ?_)
    · have hf := wc_f c6 hf
      refine lv_iconst (v := 0) hx hb wd_M_goes_40 (by decide) ?_
      exact wx_zret hx hb hr narrow_b0 hlocks hf hP hS wd_M_goes_41
    · have hf := wc_t c6 hf
      refine lv_iconst (v := 1) hx hb wd_M_goes_36 (by decide) ?_
      refine lv_goto (tgt := 41) hx hb wd_M_goes_37 (by decide) ?_
      exact wx_zret hx hb hr narrow_b1 hlocks hf hP hS wd_M_goes_41
  unfold wf_M_goes at hf
  refine lv_aload_n hx hb wd_M_goes_0 rfl (lv_at hl 0 rfl) ?_
  refine lv_iload_n hx hb wd_M_goes_1 rfl (lv_at hl 1 rfl) ?_
  refine lv_if_ne (tgt := 9) hx hb wd_M_goes_2 (by decide) (fun c1 => ?_) (fun c1 => ?_)
  · have hf := wc_f c1 hf
    refine lv_iload_n hx hb wd_M_goes_9 rfl (lv_at hl 2 rfl) ?_
    refine lv_if_ne (tgt := 17) hx hb wd_M_goes_10 (by decide) (fun c2 => ?_) (fun c2 => ?_)
    · have hf := wc_f c2 hf
      refine lv_iload_n hx hb wd_M_goes_17 rfl (lv_at hl 3 rfl) ?_
      refine lv_if_ne (tgt := 25) hx hb wd_M_goes_18 (by decide) (fun c3 => ?_) (fun c3 => ?_)
      · have hf := wc_f c3 hf
        refine lv_iconst (v := 0) hx hb wd_M_goes_25 (by decide) ?_
        exact J26 0 σ hf _ _ _ hP hD hS (lv_sub hl [0] rfl)
      · have hf := wc_t c3 hf
        refine lv_iconst (v := 3) hx hb wd_M_goes_21 (by decide) ?_
        refine lv_goto (tgt := 26) hx hb wd_M_goes_22 (by decide) ?_
        exact J26 3 σ hf _ _ _ hP hD hS (lv_sub hl [0] rfl)
    · have hf := wc_t c2 hf
      refine lv_iconst (v := 2) hx hb wd_M_goes_13 (by decide) ?_
      refine lv_goto (tgt := 26) hx hb wd_M_goes_14 (by decide) ?_
      exact J26 2 σ hf _ _ _ hP hD hS (lv_sub hl [0] rfl)
  · have hf := wc_t c1 hf
    refine lv_iconst (v := 1) hx hb wd_M_goes_5 (by decide) ?_
    refine lv_goto (tgt := 26) hx hb wd_M_goes_6 (by decide) ?_
    exact J26 1 σ hf _ _ _ hP hD hS (lv_sub hl [0] rfl)
set_option maxHeartbeats 4000000 in
set_option maxRecDepth 100000 in
theorem wm_M_gone (l : Launch) (D : va_G) (ad : Nat → Nat) (cI cZ cJ cG : ClassId) (sz : Nat) (σ : wc_S) (res : wc_S) (hf : wf_M_gone  σ = some res) : Met l wy_M_gone (wx_ws_M_gone) ({ frames := 0, cells := 0, slots := 0, locals := 0 }) (va_Pc [.ref (ad 71)] (wx_pre D ad cI cZ cJ cG σ sz)) (wx_Qv D ad cI cZ cJ cG res (va_A (wx_W ad cI cZ cJ cG σ) sz)) 0 0 (va_A (wx_W ad cI cZ cJ cG σ) sz) := by
  refine wx_ofW (cc := prog_8_method_5_code) (maxL := 1) (ret := none) (Qc := fun A => wx_Qv D ad cI cZ cJ cG res A) [.ref (ad 71)] (by decide) rfl (Nat.le_of_ble_eq_true rfl) ?_
  intro p e s m args below meth c A ls hin hl
  obtain ⟨hx, hb, hr, hts, hown, hlocks, hml, hA, hP, hK, hD, hC, hN, hS⟩ := hin
  have hl : lv_has ls 1 [(0, .ref (ad 71))] := hl
  unfold wf_M_gone at hf
  refine lv_aload_n hx hb wd_M_gone_0 rfl (lv_at hl 0 rfl) ?_
  refine lv_iconst (v := 0) hx hb wd_M_gone_1 (by decide) ?_
  refine wx_put (x := 0) (ty := .boolean) (C := "WidthCampaignsModel") (T := wx_TM) (N' := 29) hx hb hts wi_M wx_tM wx_toM wx_nM hown hK hP hD hS 71 (by decide) (fun _ => rfl) rfl 20 (by decide) wt_650 (fun _ h9 => h9) rfl (by decide +kernel) narrow_b0 rfl (Nat.le_of_ble_eq_true rfl) rfl wd_M_gone_2 (fun σ1 H locs eσ1 hP hD hS => ?_)
  have hf := wc_st_e eσ1 hf
  refine lv_aload_n hx hb wd_M_gone_5 rfl (lv_at hl 0 rfl) ?_
  refine lv_iconst (v := 0) hx hb wd_M_gone_6 (by decide) ?_
  refine wx_put (x := 0) (ty := .boolean) (C := "WidthCampaignsModel") (T := wx_TM) (N' := 29) hx hb hts wi_M wx_tM wx_toM wx_nM hown hK hP hD hS 71 (by decide) (fun _ => rfl) rfl 22 (by decide) wt_652 (fun _ h9 => h9) rfl (by decide +kernel) narrow_b0 rfl (Nat.le_of_ble_eq_true rfl) rfl wd_M_gone_7 (fun σ2 H locs eσ2 hP hD hS => ?_)
  have hf := wc_st_e eσ2 hf
  exact wx_vret hx hb hr hlocks hf hP hS wd_M_gone_10
set_option maxHeartbeats 4000000 in
set_option maxRecDepth 100000 in
theorem wm_M_isCoil (l : Launch) (D : va_G) (ad : Nat → Nat) (cI cZ cJ cG : ClassId) (sz : Nat) (a1 : Int32) (σ : wc_S) (res : Int32 × wc_S) (hf : wf_M_isCoil a1 σ = some res) : Met l wy_M_isCoil (wx_ws_M_isCoil) ({ frames := 1, cells := 0, slots := 0, locals := 22 }) (va_Pc [.ref (ad 71), .int a1] (wx_pre D ad cI cZ cJ cG σ sz)) (wx_Qi D ad cI cZ cJ cG res (va_A (wx_W ad cI cZ cJ cG σ) sz)) 0 0 (va_A (wx_W ad cI cZ cJ cG σ) sz) := by
  refine wx_ofW (cc := prog_8_method_6_code) (maxL := 2) (ret := (some .boolean)) (Qc := fun A => wx_Qi D ad cI cZ cJ cG res A) [.ref (ad 71), .int a1] (by decide) rfl (Nat.le_of_ble_eq_true rfl) ?_
  intro p e s m args below meth c A ls hin hl
  obtain ⟨hx, hb, hr, hts, hown, hlocks, hml, hA, hP, hK, hD, hC, hN, hS⟩ := hin
  have hl : lv_has ls 2 [(0, .ref (ad 71)), (1, .int a1)] := hl
  unfold wf_M_isCoil at hf
  refine lv_iload_n hx hb wd_M_isCoil_0 rfl (lv_at hl 1 rfl) ?_
  refine lv_iconst (v := 0) hx hb wd_M_isCoil_1 (by decide) ?_
  refine lv_aload_n hx hb wd_M_isCoil_2 rfl (lv_at hl 0 rfl) ?_
  refine wx_get (v := .int (σ 71 1)) (C := "WidthCampaignsModel") (T := wx_TM) (N' := 29) hx hb hts wi_M hown hK hP 71 (by decide) rfl rfl 1 (by decide) wt_631 (fun _ h9 => h9) rfl wd_M_isCoil_3 ?_
  refine lv_topi (fun v1 ev1 => ?_)
  have hf := wc_st_e ev1 hf
  refine lv_iconst (v := 1) hx hb wd_M_isCoil_6 (by decide) ?_
  refine lv_isub hx hb wd_M_isCoil_7 ?_
  refine lv_topi (fun v2 ev2 => ?_)
  have hf := wc_st_e ev2 hf
  obtain ⟨r4, σ3, hq, hf⟩ := wc_b2_e hf
  refine wx_calli (va_runS (As := [.int a1, .int 0, .int v2]) (rest := []) ⟨hx, hb, hml, hown, hts⟩ (wm_M_in l D ad cI cZ cJ cG _ a1 0 v2 σ _ hq) (wx_cwS 3 hts wt_728 wt_727 wt_7 wt_726 wh_M_in rfl rfl ⟨Nat.le_of_ble_eq_true rfl, Nat.le_of_ble_eq_true rfl⟩) (wx_preS hK hP hD hS hA hC) rfl rfl hl.1 rfl (lv_room (Nat.le_of_ble_eq_true rfl)) wd_M_isCoil_8 ⟨Nat.le_of_ble_eq_true rfl, Nat.le_of_ble_eq_true rfl⟩) hD hS hA (fun H locs hP hD hS => ?_)
  obtain ⟨h5, hf⟩ := wc_gd_e hf
  exact wx_zret hx hb hr (wc_z_e h5) hlocks hf hP hS wd_M_isCoil_11
set_option maxHeartbeats 4000000 in
set_option maxRecDepth 100000 in
theorem wm_M_coil (l : Launch) (D : va_G) (ad : Nat → Nat) (cI cZ cJ cG : ClassId) (sz : Nat) (a1 : Int32) (a2 : Int32) (a3 : Int32) (a4 : Int32) (σ : wc_S) (res : Int32 × wc_S) (hf : wf_M_coil a1 a2 a3 a4 σ = some res) : Met l wy_M_coil (wx_ws_M_coil) ({ frames := 1, cells := 0, slots := 0, locals := 23 }) (va_Pc [.ref (ad 71), .int a1, .int a2, .int a3, .int a4] (wx_pre D ad cI cZ cJ cG σ sz)) (wx_Qi D ad cI cZ cJ cG res (va_A (wx_W ad cI cZ cJ cG σ) sz)) 0 0 (va_A (wx_W ad cI cZ cJ cG σ) sz) := by
  refine wx_ofW (cc := prog_8_method_7_code) (maxL := 5) (ret := (some .int)) (Qc := fun A => wx_Qi D ad cI cZ cJ cG res A) [.ref (ad 71), .int a1, .int a2, .int a3, .int a4] (by decide) rfl (Nat.le_of_ble_eq_true rfl) ?_
  intro p e s m args below meth c A ls hin hl
  obtain ⟨hx, hb, hr, hts, hown, hlocks, hml, hA, hP, hK, hD, hC, hN, hS⟩ := hin
  have hl : lv_has ls 5 [(0, .ref (ad 71)), (1, .int a1), (2, .int a2), (3, .int a3), (4, .int a4)] := hl
  have J63 : ∀ (x1 : Int32) (x2 : Int32) (x3 : Int32) (x4 : Int32) (s1 : Int32) (s2 : Int32) (σ : wc_S), wf_M_coil_63 x1 x2 x3 x4 s1 s2 σ = some res → wx_Arr p l e ({ frames := 1, cells := 0, slots := 0, locals := 23 }) s m args below meth c D ad cI cZ cJ cG A (MQ below (wx_Qi D ad cI cZ cJ cG res A) args s 0 0 A) 5 0 0 63 [(0, .ref (ad 71)), (1, .int x1), (2, .int x2), (3, .int x3), (4, .int x4)] [.int s2, .int s1, .ref (ad 71)] σ := by
    intro  x1 x2 x3 x4 s1 s2 σ hf H locs ls hP hD hS hl
    unfold wf_M_coil_63 at hf
    refine lv_iconst (v := 1) hx hb wd_M_coil_63 (by decide) ?_
    obtain ⟨r7, σ6, hq, hf⟩ := wc_b2_e hf
    refine wx_calli (va_runV (As := [.int s1, .int s2, .int 1]) (rest := []) ⟨hx, hb, hml, hown, hts⟩ (wm_M_goes l D ad cI cZ cJ cG _ s1 s2 1 σ _ hq) (wx_cwV 3 hts wt_732 wt_731 wp_32 wt_7 wt_729 wh_M_goes rfl rfl ⟨Nat.le_of_ble_eq_true rfl, Nat.le_of_ble_eq_true rfl⟩) (wx_preV hK hP hD hS hA hC (by decide) rfl rfl) rfl rfl hl.1 rfl (lv_room (Nat.le_of_ble_eq_true rfl)) wd_M_coil_64 ⟨Nat.le_of_ble_eq_true rfl, Nat.le_of_ble_eq_true rfl⟩) hD hS hA (fun H locs hP hD hS => ?_)
    refine lv_if_ne (tgt := 72) hx hb wd_M_coil_67 (by decide) (fun c8 => ?_) (fun c8 => ?_)
    · have hf := wc_f c8 hf
      refine lv_aload_n hx hb wd_M_coil_72 rfl (lv_at hl 0 rfl) ?_
      refine wx_get (v := .ref (ad 72)) (C := "WidthCampaignsModel") (T := wx_TM) (N' := 29) hx hb hts wi_M hown hK hP 71 (by decide) rfl rfl 2 (by decide) wt_632 (fun _ h9 => h9) rfl wd_M_coil_73 ?_
      refine lv_aload_n hx hb wd_M_coil_76 rfl (lv_at hl 0 rfl) ?_
      refine wx_get (v := .int (σ6 71 1)) (C := "WidthCampaignsModel") (T := wx_TM) (N' := 29) hx hb hts wi_M hown hK hP 71 (by decide) rfl rfl 1 (by decide) wt_631 (fun _ h9 => h9) rfl wd_M_coil_77 ?_
      refine lv_topi (fun v9 ev9 => ?_)
      have hf := wc_st_e ev9 hf
      refine lv_iload_n hx hb wd_M_coil_80 rfl (lv_at hl 1 rfl) ?_
      obtain ⟨h10, hf⟩ := wc_gd_e hf
      refine wx_iast hx hb hK hP hD hS 72 (n := 9) (by decide) (fun _ => rfl) h10 wd_M_coil_81 (fun σ11 H locs eσ11 hP hD hS => ?_)
      have hf := wc_st_e eσ11 hf
      refine lv_aload_n hx hb wd_M_coil_82 rfl (lv_at hl 0 rfl) ?_
      refine wx_get (v := .ref (ad 73)) (C := "WidthCampaignsModel") (T := wx_TM) (N' := 29) hx hb hts wi_M hown hK hP 71 (by decide) rfl rfl 3 (by decide) wt_633 (fun _ h9 => h9) rfl wd_M_coil_83 ?_
      refine lv_aload_n hx hb wd_M_coil_86 rfl (lv_at hl 0 rfl) ?_
      refine wx_get (v := .int (σ11 71 1)) (C := "WidthCampaignsModel") (T := wx_TM) (N' := 29) hx hb hts wi_M hown hK hP 71 (by decide) rfl rfl 1 (by decide) wt_631 (fun _ h9 => h9) rfl wd_M_coil_87 ?_
      refine lv_topi (fun v12 ev12 => ?_)
      have hf := wc_st_e ev12 hf
      refine lv_iload_n hx hb wd_M_coil_90 rfl (lv_at hl 2 rfl) ?_
      obtain ⟨h13, hf⟩ := wc_gd_e hf
      refine wx_iast hx hb hK hP hD hS 73 (n := 9) (by decide) (fun _ => rfl) h13 wd_M_coil_91 (fun σ14 H locs eσ14 hP hD hS => ?_)
      have hf := wc_st_e eσ14 hf
      refine lv_aload_n hx hb wd_M_coil_92 rfl (lv_at hl 0 rfl) ?_
      refine wx_get (v := .ref (ad 74)) (C := "WidthCampaignsModel") (T := wx_TM) (N' := 29) hx hb hts wi_M hown hK hP 71 (by decide) rfl rfl 4 (by decide) wt_634 (fun _ h9 => h9) rfl wd_M_coil_93 ?_
      refine lv_aload_n hx hb wd_M_coil_96 rfl (lv_at hl 0 rfl) ?_
      refine wx_get (v := .int (σ14 71 1)) (C := "WidthCampaignsModel") (T := wx_TM) (N' := 29) hx hb hts wi_M hown hK hP 71 (by decide) rfl rfl 1 (by decide) wt_631 (fun _ h9 => h9) rfl wd_M_coil_97 ?_
      refine lv_topi (fun v15 ev15 => ?_)
      have hf := wc_st_e ev15 hf
      refine lv_iload_n hx hb wd_M_coil_100 rfl (lv_at hl 3 rfl) ?_
      obtain ⟨h16, hf⟩ := wc_gd_e hf
      refine wx_iast hx hb hK hP hD hS 74 (n := 9) (by decide) (fun _ => rfl) h16 wd_M_coil_101 (fun σ17 H locs eσ17 hP hD hS => ?_)
      have hf := wc_st_e eσ17 hf
      refine lv_aload_n hx hb wd_M_coil_102 rfl (lv_at hl 0 rfl) ?_
      refine wx_get (v := .ref (ad 75)) (C := "WidthCampaignsModel") (T := wx_TM) (N' := 29) hx hb hts wi_M hown hK hP 71 (by decide) rfl rfl 5 (by decide) wt_635 (fun _ h9 => h9) rfl wd_M_coil_103 ?_
      refine lv_aload_n hx hb wd_M_coil_106 rfl (lv_at hl 0 rfl) ?_
      refine wx_get (v := .int (σ17 71 1)) (C := "WidthCampaignsModel") (T := wx_TM) (N' := 29) hx hb hts wi_M hown hK hP 71 (by decide) rfl rfl 1 (by decide) wt_631 (fun _ h9 => h9) rfl wd_M_coil_107 ?_
      refine lv_topi (fun v18 ev18 => ?_)
      have hf := wc_st_e ev18 hf
      refine lv_iload hx hb wd_M_coil_110 (lv_at hl 4 rfl) ?_
      obtain ⟨h19, hf⟩ := wc_gd_e hf
      refine wx_iast hx hb hK hP hD hS 75 (n := 9) (by decide) (fun _ => rfl) h19 wd_M_coil_112 (fun σ20 H locs eσ20 hP hD hS => ?_)
      have hf := wc_st_e eσ20 hf
      refine lv_aload_n hx hb wd_M_coil_113 rfl (lv_at hl 0 rfl) ?_
      refine wx_get (v := .ref (ad 76)) (C := "WidthCampaignsModel") (T := wx_TM) (N' := 29) hx hb hts wi_M hown hK hP 71 (by decide) rfl rfl 6 (by decide) wt_636 (fun _ h9 => h9) rfl wd_M_coil_114 ?_
      refine lv_aload_n hx hb wd_M_coil_117 rfl (lv_at hl 0 rfl) ?_
      refine wx_get (v := .int (σ20 71 1)) (C := "WidthCampaignsModel") (T := wx_TM) (N' := 29) hx hb hts wi_M hown hK hP 71 (by decide) rfl rfl 1 (by decide) wt_631 (fun _ h9 => h9) rfl wd_M_coil_118 ?_
      refine lv_topi (fun v21 ev21 => ?_)
      have hf := wc_st_e ev21 hf
      refine lv_bipush (v := 8) hx hb wd_M_coil_121 (by decide) ?_
      obtain ⟨h22, hf⟩ := wc_gd_e hf
      refine wx_iast hx hb hK hP hD hS 76 (n := 9) (by decide) (fun _ => rfl) h22 wd_M_coil_123 (fun σ23 H locs eσ23 hP hD hS => ?_)
      have hf := wc_st_e eσ23 hf
      refine lv_aload_n hx hb wd_M_coil_124 rfl (lv_at hl 0 rfl) ?_
      refine wx_get (v := .ref (ad 77)) (C := "WidthCampaignsModel") (T := wx_TM) (N' := 29) hx hb hts wi_M hown hK hP 71 (by decide) rfl rfl 7 (by decide) wt_637 (fun _ h9 => h9) rfl wd_M_coil_125 ?_
      refine lv_aload_n hx hb wd_M_coil_128 rfl (lv_at hl 0 rfl) ?_
      refine wx_get (v := .int (σ23 71 1)) (C := "WidthCampaignsModel") (T := wx_TM) (N' := 29) hx hb hts wi_M hown hK hP 71 (by decide) rfl rfl 1 (by decide) wt_631 (fun _ h9 => h9) rfl wd_M_coil_129 ?_
      refine lv_topi (fun v24 ev24 => ?_)
      have hf := wc_st_e ev24 hf
      refine lv_iconst (v := (-1)) hx hb wd_M_coil_132 (by decide) ?_
      obtain ⟨h25, hf⟩ := wc_gd_e hf
      refine wx_iast hx hb hK hP hD hS 77 (n := 9) (by decide) (fun _ => rfl) h25 wd_M_coil_133 (fun σ26 H locs eσ26 hP hD hS => ?_)
      have hf := wc_st_e eσ26 hf
      refine lv_aload_n hx hb wd_M_coil_134 rfl (lv_at hl 0 rfl) ?_
      refine lv_dup hx hb wd_M_coil_135 rfl ?_
      refine wx_get (v := .int (σ26 71 1)) (C := "WidthCampaignsModel") (T := wx_TM) (N' := 29) hx hb hts wi_M hown hK hP 71 (by decide) rfl rfl 1 (by decide) wt_631 (fun _ h9 => h9) rfl wd_M_coil_136 ?_
      refine lv_topi (fun v27 ev27 => ?_)
      have hf := wc_st_e ev27 hf
      refine lv_iconst (v := 1) hx hb wd_M_coil_139 (by decide) ?_
      refine lv_iadd hx hb wd_M_coil_140 ?_
      refine lv_topi (fun v28 ev28 => ?_)
      have hf := wc_st_e ev28 hf
      refine wx_put (x := v28) (ty := .int) (C := "WidthCampaignsModel") (T := wx_TM) (N' := 29) hx hb hts wi_M wx_tM wx_toM wx_nM hown hK hP hD hS 71 (by decide) (fun _ => rfl) rfl 1 (by decide) wt_631 (fun _ h9 => h9) rfl (by decide +kernel) rfl rfl (Nat.le_of_ble_eq_true rfl) rfl wd_M_coil_141 (fun σ29 H locs eσ29 hP hD hS => ?_)
      have hf := wc_st_e eσ29 hf
      refine lv_aload_n hx hb wd_M_coil_144 rfl (lv_at hl 0 rfl) ?_
      obtain ⟨σ30, hq, hf⟩ := wc_b1_e hf
      refine wx_callv (va_runV (As := []) (rest := []) ⟨hx, hb, hml, hown, hts⟩ (wm_M_gone l D ad cI cZ cJ cG _ σ29 _ hq) (wx_cwV 0 hts wt_736 wt_735 wp_33 wt_7 wt_733 wh_M_gone rfl rfl ⟨Nat.le_of_ble_eq_true rfl, Nat.le_of_ble_eq_true rfl⟩) (wx_preV hK hP hD hS hA hC (by decide) rfl rfl) rfl rfl hl.1 rfl (lv_room (Nat.le_of_ble_eq_true rfl)) wd_M_coil_145 ⟨Nat.le_of_ble_eq_true rfl, Nat.le_of_ble_eq_true rfl⟩) hD hS hA (fun H locs hP hD hS => ?_)
      refine lv_aload_n hx hb wd_M_coil_148 rfl (lv_at hl 0 rfl) ?_
      refine wx_get (v := .int (σ30 71 1)) (C := "WidthCampaignsModel") (T := wx_TM) (N' := 29) hx hb hts wi_M hown hK hP 71 (by decide) rfl rfl 1 (by decide) wt_631 (fun _ h9 => h9) rfl wd_M_coil_149 ?_
      refine lv_topi (fun v31 ev31 => ?_)
      have hf := wc_st_e ev31 hf
      refine lv_iconst (v := 1) hx hb wd_M_coil_152 (by decide) ?_
      refine lv_isub hx hb wd_M_coil_153 ?_
      refine lv_topi (fun v32 ev32 => ?_)
      have hf := wc_st_e ev32 hf
      exact wx_iret hx hb hr hlocks hf hP hS wd_M_coil_154
    · have hf := wc_t c8 hf
      refine lv_iconst (v := 0) hx hb wd_M_coil_70 (by decide) ?_
      exact wx_iret hx hb hr hlocks hf hP hS wd_M_coil_71
  have J49 : ∀ (x1 : Int32) (x2 : Int32) (x3 : Int32) (x4 : Int32) (s1 : Int32) (σ : wc_S), wf_M_coil_49 x1 x2 x3 x4 s1 σ = some res → wx_Arr p l e ({ frames := 1, cells := 0, slots := 0, locals := 23 }) s m args below meth c D ad cI cZ cJ cG A (MQ below (wx_Qi D ad cI cZ cJ cG res A) args s 0 0 A) 5 0 0 49 [(0, .ref (ad 71)), (1, .int x1), (2, .int x2), (3, .int x3), (4, .int x4)] [.int s1, .ref (ad 71)] σ := by
    intro  x1 x2 x3 x4 s1 σ hf H locs ls hP hD hS hl
    unfold wf_M_coil_49 at hf
    refine lv_aload_n hx hb wd_M_coil_49 rfl (lv_at hl 0 rfl) ?_
    refine wx_get (v := .int (σ 71 1)) (C := "WidthCampaignsModel") (T := wx_TM) (N' := 29) hx hb hts wi_M hown hK hP 71 (by decide) rfl rfl 1 (by decide) wt_631 (fun _ h9 => h9) rfl wd_M_coil_50 ?_
    refine lv_topi (fun v4 ev4 => ?_)
    have hf := wc_st_e ev4 hf
    refine lv_bipush (v := 9) hx hb wd_M_coil_53 (by decide) ?_
    refine lv_icmp_ge (tgt := 62) hx hb wd_M_coil_55 (by decide) (fun c5 => ?_) (fun c5 => ?_)
    · have hf := wc_t c5 hf
      refine lv_iconst (v := 0) hx hb wd_M_coil_62 (by decide) ?_
      exact J63 x1 x2 x3 x4 s1 0 σ hf _ _ _ hP hD hS (lv_sub hl [0, 1, 2, 3, 4] rfl)
    · have hf := wc_f c5 hf
      refine lv_iconst (v := 1) hx hb wd_M_coil_58 (by decide) ?_
      refine lv_goto (tgt := 63) hx hb wd_M_coil_59 (by decide) ?_
      exact J63 x1 x2 x3 x4 s1 1 σ hf _ _ _ hP hD hS (lv_sub hl [0, 1, 2, 3, 4] rfl)
  have J48 : ∀ (x1 : Int32) (x2 : Int32) (x3 : Int32) (x4 : Int32) (σ : wc_S), wf_M_coil_48 x1 x2 x3 x4 σ = some res → wx_Arr p l e ({ frames := 1, cells := 0, slots := 0, locals := 23 }) s m args below meth c D ad cI cZ cJ cG A (MQ below (wx_Qi D ad cI cZ cJ cG res A) args s 0 0 A) 5 0 0 48 [(0, .ref (ad 71)), (1, .int x1), (2, .int x2), (3, .int x3), (4, .int x4)] [.ref (ad 71)] σ := by
    intro  x1 x2 x3 x4 σ hf H locs ls hP hD hS hl
    unfold wf_M_coil_48 at hf
    refine lv_iconst (v := 0) hx hb wd_M_coil_48 (by decide) ?_
    exact J49 x1 x2 x3 x4 0 σ hf _ _ _ hP hD hS (lv_sub hl [0, 1, 2, 3, 4] rfl)
  unfold wf_M_coil at hf
  refine lv_aload_n hx hb wd_M_coil_0 rfl (lv_at hl 0 rfl) ?_
  refine lv_iload_n hx hb wd_M_coil_1 rfl (lv_at hl 1 rfl) ?_
  refine lv_iconst (v := 1) hx hb wd_M_coil_2 (by decide) ?_
  refine lv_sipush (v := 2000) hx hb wd_M_coil_3 (by decide) ?_
  obtain ⟨r2, σ1, hq, hf⟩ := wc_b2_e hf
  refine wx_calli (va_runS (As := [.int a1, .int 1, .int 2000]) (rest := [.ref (ad 71)]) ⟨hx, hb, hml, hown, hts⟩ (wm_M_in l D ad cI cZ cJ cG _ a1 1 2000 σ _ hq) (wx_cwS 3 hts wt_728 wt_727 wt_7 wt_726 wh_M_in rfl rfl ⟨Nat.le_of_ble_eq_true rfl, Nat.le_of_ble_eq_true rfl⟩) (wx_preS hK hP hD hS hA hC) rfl rfl hl.1 rfl (lv_room (Nat.le_of_ble_eq_true rfl)) wd_M_coil_6 ⟨Nat.le_of_ble_eq_true rfl, Nat.le_of_ble_eq_true rfl⟩) hD hS hA (fun H locs hP hD hS => ?_)
  refine lv_if_eq (tgt := 48) hx hb wd_M_coil_9 (by decide) (fun c3 => ?_) (fun c3 => ?_)
  · have hf := wc_t c3 hf
    exact J48 a1 a2 a3 a4 σ1 hf _ _ _ hP hD hS (lv_sub hl [0, 1, 2, 3, 4] rfl)
  · have hf := wc_f c3 hf
    refine lv_iload_n hx hb wd_M_coil_12 rfl (lv_at hl 2 rfl) ?_
    refine lv_iconst (v := 1) hx hb wd_M_coil_13 (by decide) ?_
    refine lv_sipush (v := 1000) hx hb wd_M_coil_14 (by decide) ?_
    obtain ⟨r34, σ33, hq, hf⟩ := wc_b2_e hf
    refine wx_calli (va_runS (As := [.int a2, .int 1, .int 1000]) (rest := [.ref (ad 71)]) ⟨hx, hb, hml, hown, hts⟩ (wm_M_in l D ad cI cZ cJ cG _ a2 1 1000 σ1 _ hq) (wx_cwS 3 hts wt_728 wt_727 wt_7 wt_726 wh_M_in rfl rfl ⟨Nat.le_of_ble_eq_true rfl, Nat.le_of_ble_eq_true rfl⟩) (wx_preS hK hP hD hS hA hC) rfl rfl hl.1 rfl (lv_room (Nat.le_of_ble_eq_true rfl)) wd_M_coil_17 ⟨Nat.le_of_ble_eq_true rfl, Nat.le_of_ble_eq_true rfl⟩) hD hS hA (fun H locs hP hD hS => ?_)
    refine lv_if_eq (tgt := 48) hx hb wd_M_coil_20 (by decide) (fun c35 => ?_) (fun c35 => ?_)
    · have hf := wc_t c35 hf
      exact J48 a1 a2 a3 a4 σ33 hf _ _ _ hP hD hS (lv_sub hl [0, 1, 2, 3, 4] rfl)
    · have hf := wc_f c35 hf
      refine lv_iload_n hx hb wd_M_coil_23 rfl (lv_at hl 3 rfl) ?_
      refine lv_iconst (v := 0) hx hb wd_M_coil_24 (by decide) ?_
      refine lv_bipush (v := 9) hx hb wd_M_coil_25 (by decide) ?_
      obtain ⟨r37, σ36, hq, hf⟩ := wc_b2_e hf
      refine wx_calli (va_runS (As := [.int a3, .int 0, .int 9]) (rest := [.ref (ad 71)]) ⟨hx, hb, hml, hown, hts⟩ (wm_M_in l D ad cI cZ cJ cG _ a3 0 9 σ33 _ hq) (wx_cwS 3 hts wt_728 wt_727 wt_7 wt_726 wh_M_in rfl rfl ⟨Nat.le_of_ble_eq_true rfl, Nat.le_of_ble_eq_true rfl⟩) (wx_preS hK hP hD hS hA hC) rfl rfl hl.1 rfl (lv_room (Nat.le_of_ble_eq_true rfl)) wd_M_coil_27 ⟨Nat.le_of_ble_eq_true rfl, Nat.le_of_ble_eq_true rfl⟩) hD hS hA (fun H locs hP hD hS => ?_)
      refine lv_if_eq (tgt := 48) hx hb wd_M_coil_30 (by decide) (fun c38 => ?_) (fun c38 => ?_)
      · have hf := wc_t c38 hf
        exact J48 a1 a2 a3 a4 σ36 hf _ _ _ hP hD hS (lv_sub hl [0, 1, 2, 3, 4] rfl)
      · have hf := wc_f c38 hf
        refine lv_iload hx hb wd_M_coil_33 (lv_at hl 4 rfl) ?_
        refine lv_iconst (v := 1) hx hb wd_M_coil_35 (by decide) ?_
        refine lv_bipush (v := 100) hx hb wd_M_coil_36 (by decide) ?_
        obtain ⟨r40, σ39, hq, hf⟩ := wc_b2_e hf
        refine wx_calli (va_runS (As := [.int a4, .int 1, .int 100]) (rest := [.ref (ad 71)]) ⟨hx, hb, hml, hown, hts⟩ (wm_M_in l D ad cI cZ cJ cG _ a4 1 100 σ36 _ hq) (wx_cwS 3 hts wt_728 wt_727 wt_7 wt_726 wh_M_in rfl rfl ⟨Nat.le_of_ble_eq_true rfl, Nat.le_of_ble_eq_true rfl⟩) (wx_preS hK hP hD hS hA hC) rfl rfl hl.1 rfl (lv_room (Nat.le_of_ble_eq_true rfl)) wd_M_coil_38 ⟨Nat.le_of_ble_eq_true rfl, Nat.le_of_ble_eq_true rfl⟩) hD hS hA (fun H locs hP hD hS => ?_)
        refine lv_if_eq (tgt := 48) hx hb wd_M_coil_41 (by decide) (fun c41 => ?_) (fun c41 => ?_)
        · have hf := wc_t c41 hf
          exact J48 a1 a2 a3 a4 σ39 hf _ _ _ hP hD hS (lv_sub hl [0, 1, 2, 3, 4] rfl)
        · have hf := wc_f c41 hf
          refine lv_iconst (v := 1) hx hb wd_M_coil_44 (by decide) ?_
          refine lv_goto (tgt := 49) hx hb wd_M_coil_45 (by decide) ?_
          exact J49 a1 a2 a3 a4 1 σ39 hf _ _ _ hP hD hS (lv_sub hl [0, 1, 2, 3, 4] rfl)
set_option maxHeartbeats 4000000 in
set_option maxRecDepth 100000 in
theorem wm_M_table (l : Launch) (D : va_G) (ad : Nat → Nat) (cI cZ cJ cG : ClassId) (sz : Nat) (a1 : Int32) (a2 : Int32) (a3 : Int32) (a4 : Int32) (σ : wc_S) (res : Int32 × wc_S) (hf : wf_M_table a1 a2 a3 a4 σ = some res) : Met l wy_M_table (wx_ws_M_table) ({ frames := 1, cells := 0, slots := 0, locals := 23 }) (va_Pc [.ref (ad 71), .int a1, .int a2, .int a3, .int a4] (wx_pre D ad cI cZ cJ cG σ sz)) (wx_Qi D ad cI cZ cJ cG res (va_A (wx_W ad cI cZ cJ cG σ) sz)) 0 0 (va_A (wx_W ad cI cZ cJ cG σ) sz) := by
  refine wx_ofW (cc := prog_8_method_8_code) (maxL := 7) (ret := (some .int)) (Qc := fun A => wx_Qi D ad cI cZ cJ cG res A) [.ref (ad 71), .int a1, .int a2, .int a3, .int a4] (by decide) rfl (Nat.le_of_ble_eq_true rfl) ?_
  intro p e s m args below meth c A ls hin hl
  obtain ⟨hx, hb, hr, hts, hown, hlocks, hml, hA, hP, hK, hD, hC, hN, hS⟩ := hin
  have hl : lv_has ls 7 [(0, .ref (ad 71)), (1, .int a1), (2, .int a2), (3, .int a3), (4, .int a4)] := hl
  have J71 : ∀ (x1 : Int32) (x2 : Int32) (x3 : Int32) (x4 : Int32) (s1 : Int32) (s2 : Int32) (s3 : Int32) (σ : wc_S), wf_M_table_71 x1 x2 x3 x4 s1 s2 s3 σ = some res → wx_Arr p l e ({ frames := 1, cells := 0, slots := 0, locals := 23 }) s m args below meth c D ad cI cZ cJ cG A (MQ below (wx_Qi D ad cI cZ cJ cG res A) args s 0 0 A) 7 0 0 71 [(0, .ref (ad 71)), (1, .int x1), (2, .int x2), (3, .int x3), (4, .int x4)] [.int s3, .int s2, .int s1, .ref (ad 71)] σ := by
    intro  x1 x2 x3 x4 s1 s2 s3 σ hf H locs ls hP hD hS hl
    unfold wf_M_table_71 at hf
    obtain ⟨r8, σ7, hq, hf⟩ := wc_b2_e hf
    refine wx_calli (va_runV (As := [.int s1, .int s2, .int s3]) (rest := []) ⟨hx, hb, hml, hown, hts⟩ (wm_M_goes l D ad cI cZ cJ cG _ s1 s2 s3 σ _ hq) (wx_cwV 3 hts wt_732 wt_731 wp_32 wt_7 wt_729 wh_M_goes rfl rfl ⟨Nat.le_of_ble_eq_true rfl, Nat.le_of_ble_eq_true rfl⟩) (wx_preV hK hP hD hS hA hC (by decide) rfl rfl) rfl rfl hl.1 rfl (lv_room (Nat.le_of_ble_eq_true rfl)) wd_M_table_71 ⟨Nat.le_of_ble_eq_true rfl, Nat.le_of_ble_eq_true rfl⟩) hD hS hA (fun H locs hP hD hS => ?_)
    refine lv_if_ne (tgt := 79) hx hb wd_M_table_74 (by decide) (fun c9 => ?_) (fun c9 => ?_)
    · have hf := wc_f c9 hf
      refine lv_bipush (v := 8) hx hb wd_M_table_79 (by decide) ?_
      refine lv_iload_n hx hb wd_M_table_81 rfl (lv_at hl 1 rfl) ?_
      refine lv_imul hx hb wd_M_table_82 ?_
      refine lv_topi (fun v10 ev10 => ?_)
      have hf := wc_st_e ev10 hf
      refine lv_aload_n hx hb wd_M_table_83 rfl (lv_at hl 0 rfl) ?_
      refine wx_get (v := .ref (ad 78)) (C := "WidthCampaignsModel") (T := wx_TM) (N' := 29) hx hb hts wi_M hown hK hP 71 (by decide) rfl rfl 8 (by decide) wt_638 (fun _ h9 => h9) rfl wd_M_table_84 ?_
      refine lv_iload_n hx hb wd_M_table_87 rfl (lv_at hl 1 rfl) ?_
      obtain ⟨h11, hf⟩ := wc_gd_e hf
      refine wx_iald hx hb hK hP 78 (n := 2) (by decide) rfl (wc_in_e h11) wd_M_table_88 ?_
      refine lv_topi (fun v12 ev12 => ?_)
      have hf := wc_st_e ev12 hf
      refine lv_iadd hx hb wd_M_table_89 ?_
      refine lv_topi (fun v13 ev13 => ?_)
      have hf := wc_st_e ev13 hf
      refine lv_istore (lv' := [(6, .int v13), (0, .ref (ad 71)), (1, .int x1), (2, .int x2), (3, .int x3), (4, .int x4)]) hx hb wd_M_table_90 hl (by decide) rfl (fun ls hl => ?_)
      refine lv_aload_n hx hb wd_M_table_92 rfl (lv_at hl 1 rfl) ?_
      refine wx_get (v := .ref (ad 79)) (C := "WidthCampaignsModel") (T := wx_TM) (N' := 29) hx hb hts wi_M hown hK hP 71 (by decide) rfl rfl 9 (by decide) wt_639 (fun _ h9 => h9) rfl wd_M_table_93 ?_
      refine lv_iload hx hb wd_M_table_96 (lv_at hl 0 rfl) ?_
      refine lv_iload_n hx hb wd_M_table_98 rfl (lv_at hl 3 rfl) ?_
      obtain ⟨h14, hf⟩ := wc_gd_e hf
      refine wx_iast hx hb hK hP hD hS 79 (n := 16) (by decide) (fun _ => rfl) h14 wd_M_table_99 (fun σ15 H locs eσ15 hP hD hS => ?_)
      have hf := wc_st_e eσ15 hf
      refine lv_aload_n hx hb wd_M_table_100 rfl (lv_at hl 1 rfl) ?_
      refine wx_get (v := .ref (ad 80)) (C := "WidthCampaignsModel") (T := wx_TM) (N' := 29) hx hb hts wi_M hown hK hP 71 (by decide) rfl rfl 10 (by decide) wt_640 (fun _ h9 => h9) rfl wd_M_table_101 ?_
      refine lv_iload hx hb wd_M_table_104 (lv_at hl 0 rfl) ?_
      refine lv_iload_n hx hb wd_M_table_106 rfl (lv_at hl 4 rfl) ?_
      obtain ⟨h16, hf⟩ := wc_gd_e hf
      refine wx_iast hx hb hK hP hD hS 80 (n := 16) (by decide) (fun _ => rfl) h16 wd_M_table_107 (fun σ17 H locs eσ17 hP hD hS => ?_)
      have hf := wc_st_e eσ17 hf
      refine lv_aload_n hx hb wd_M_table_108 rfl (lv_at hl 1 rfl) ?_
      refine wx_get (v := .ref (ad 81)) (C := "WidthCampaignsModel") (T := wx_TM) (N' := 29) hx hb hts wi_M hown hK hP 71 (by decide) rfl rfl 11 (by decide) wt_641 (fun _ h9 => h9) rfl wd_M_table_109 ?_
      refine lv_iload hx hb wd_M_table_112 (lv_at hl 0 rfl) ?_
      refine lv_iload hx hb wd_M_table_114 (lv_at hl 5 rfl) ?_
      obtain ⟨h18, hf⟩ := wc_gd_e hf
      refine wx_iast hx hb hK hP hD hS 81 (n := 16) (by decide) (fun _ => rfl) h18 wd_M_table_116 (fun σ19 H locs eσ19 hP hD hS => ?_)
      have hf := wc_st_e eσ19 hf
      refine lv_aload_n hx hb wd_M_table_117 rfl (lv_at hl 1 rfl) ?_
      refine wx_get (v := .ref (ad 78)) (C := "WidthCampaignsModel") (T := wx_TM) (N' := 29) hx hb hts wi_M hown hK hP 71 (by decide) rfl rfl 8 (by decide) wt_638 (fun _ h9 => h9) rfl wd_M_table_118 ?_
      refine lv_iload_n hx hb wd_M_table_121 rfl (lv_at hl 2 rfl) ?_
      refine lv_dup2_11 hx hb wd_M_table_122 rfl rfl ?_
      obtain ⟨h20, hf⟩ := wc_gd_e hf
      refine wx_iald hx hb hK hP 78 (n := 2) (by decide) rfl (wc_in_e h20) wd_M_table_123 ?_
      refine lv_topi (fun v21 ev21 => ?_)
      have hf := wc_st_e ev21 hf
      refine lv_iconst (v := 1) hx hb wd_M_table_124 (by decide) ?_
      refine lv_iadd hx hb wd_M_table_125 ?_
      refine lv_topi (fun v22 ev22 => ?_)
      have hf := wc_st_e ev22 hf
      obtain ⟨h23, hf⟩ := wc_gd_e hf
      refine wx_iast hx hb hK hP hD hS 78 (n := 2) (by decide) (fun _ => rfl) h23 wd_M_table_126 (fun σ24 H locs eσ24 hP hD hS => ?_)
      have hf := wc_st_e eσ24 hf
      refine lv_aload_n hx hb wd_M_table_127 rfl (lv_at hl 1 rfl) ?_
      obtain ⟨σ25, hq, hf⟩ := wc_b1_e hf
      refine wx_callv (va_runV (As := []) (rest := []) ⟨hx, hb, hml, hown, hts⟩ (wm_M_gone l D ad cI cZ cJ cG _ σ24 _ hq) (wx_cwV 0 hts wt_736 wt_735 wp_33 wt_7 wt_733 wh_M_gone rfl rfl ⟨Nat.le_of_ble_eq_true rfl, Nat.le_of_ble_eq_true rfl⟩) (wx_preV hK hP hD hS hA hC (by decide) rfl rfl) rfl rfl hl.1 rfl (lv_room (Nat.le_of_ble_eq_true rfl)) wd_M_table_128 ⟨Nat.le_of_ble_eq_true rfl, Nat.le_of_ble_eq_true rfl⟩) hD hS hA (fun H locs hP hD hS => ?_)
      refine lv_aload_n hx hb wd_M_table_131 rfl (lv_at hl 1 rfl) ?_
      refine wx_get (v := .ref (ad 78)) (C := "WidthCampaignsModel") (T := wx_TM) (N' := 29) hx hb hts wi_M hown hK hP 71 (by decide) rfl rfl 8 (by decide) wt_638 (fun _ h9 => h9) rfl wd_M_table_132 ?_
      refine lv_iload_n hx hb wd_M_table_135 rfl (lv_at hl 2 rfl) ?_
      obtain ⟨h26, hf⟩ := wc_gd_e hf
      refine wx_iald hx hb hK hP 78 (n := 2) (by decide) rfl (wc_in_e h26) wd_M_table_136 ?_
      refine lv_topi (fun v27 ev27 => ?_)
      have hf := wc_st_e ev27 hf
      exact wx_iret hx hb hr hlocks hf hP hS wd_M_table_137
    · have hf := wc_t c9 hf
      refine lv_iconst (v := 0) hx hb wd_M_table_77 (by decide) ?_
      exact wx_iret hx hb hr hlocks hf hP hS wd_M_table_78
  have J70 : ∀ (x1 : Int32) (x2 : Int32) (x3 : Int32) (x4 : Int32) (s1 : Int32) (s2 : Int32) (σ : wc_S), wf_M_table_70 x1 x2 x3 x4 s1 s2 σ = some res → wx_Arr p l e ({ frames := 1, cells := 0, slots := 0, locals := 23 }) s m args below meth c D ad cI cZ cJ cG A (MQ below (wx_Qi D ad cI cZ cJ cG res A) args s 0 0 A) 7 0 0 70 [(0, .ref (ad 71)), (1, .int x1), (2, .int x2), (3, .int x3), (4, .int x4)] [.int s2, .int s1, .ref (ad 71)] σ := by
    intro  x1 x2 x3 x4 s1 s2 σ hf H locs ls hP hD hS hl
    unfold wf_M_table_70 at hf
    refine lv_iconst (v := 0) hx hb wd_M_table_70 (by decide) ?_
    exact J71 x1 x2 x3 x4 s1 s2 0 σ hf _ _ _ hP hD hS (lv_sub hl [0, 1, 2, 3, 4] rfl)
  have J50 : ∀ (x1 : Int32) (x2 : Int32) (x3 : Int32) (x4 : Int32) (x5 : Int32) (s1 : Int32) (s2 : Int32) (σ : wc_S), wf_M_table_50 x1 x2 x3 x4 x5 s1 s2 σ = some res → wx_Arr p l e ({ frames := 1, cells := 0, slots := 0, locals := 23 }) s m args below meth c D ad cI cZ cJ cG A (MQ below (wx_Qi D ad cI cZ cJ cG res A) args s 0 0 A) 7 0 0 50 [(0, .ref (ad 71)), (1, .int x1), (2, .int x2), (3, .int x3), (4, .int x4), (5, .int x5)] [.int s2, .int s1, .ref (ad 71)] σ := by
    intro  x1 x2 x3 x4 x5 s1 s2 σ hf H locs ls hP hD hS hl
    unfold wf_M_table_50 at hf
    refine lv_iload hx hb wd_M_table_50 (lv_at hl 5 rfl) ?_
    refine lv_if_eq (tgt := 70) hx hb wd_M_table_52 (by decide) (fun c6 => ?_) (fun c6 => ?_)
    · have hf := wc_t c6 hf
      exact J70 x1 x2 x3 x4 s1 s2 σ hf _ _ _ hP hD hS (lv_sub hl [0, 1, 2, 3, 4] rfl)
    · have hf := wc_f c6 hf
      refine lv_aload_n hx hb wd_M_table_55 rfl (lv_at hl 0 rfl) ?_
      refine wx_get (v := .ref (ad 78)) (C := "WidthCampaignsModel") (T := wx_TM) (N' := 29) hx hb hts wi_M hown hK hP 71 (by decide) rfl rfl 8 (by decide) wt_638 (fun _ h9 => h9) rfl wd_M_table_56 ?_
      refine lv_iload_n hx hb wd_M_table_59 rfl (lv_at hl 1 rfl) ?_
      obtain ⟨h28, hf⟩ := wc_gd_e hf
      refine wx_iald hx hb hK hP 78 (n := 2) (by decide) rfl (wc_in_e h28) wd_M_table_60 ?_
      refine lv_topi (fun v29 ev29 => ?_)
      have hf := wc_st_e ev29 hf
      refine lv_bipush (v := 8) hx hb wd_M_table_61 (by decide) ?_
      refine lv_icmp_ge (tgt := 70) hx hb wd_M_table_63 (by decide) (fun c30 => ?_) (fun c30 => ?_)
      · have hf := wc_t c30 hf
        exact J70 x1 x2 x3 x4 s1 s2 σ hf _ _ _ hP hD hS (lv_sub hl [0, 1, 2, 3, 4] rfl)
      · have hf := wc_f c30 hf
        refine lv_iconst (v := 1) hx hb wd_M_table_66 (by decide) ?_
        refine lv_goto (tgt := 71) hx hb wd_M_table_67 (by decide) ?_
        exact J71 x1 x2 x3 x4 s1 s2 1 σ hf _ _ _ hP hD hS (lv_sub hl [0, 1, 2, 3, 4] rfl)
  have J49 : ∀ (x1 : Int32) (x2 : Int32) (x3 : Int32) (x4 : Int32) (x5 : Int32) (s1 : Int32) (σ : wc_S), wf_M_table_49 x1 x2 x3 x4 x5 s1 σ = some res → wx_Arr p l e ({ frames := 1, cells := 0, slots := 0, locals := 23 }) s m args below meth c D ad cI cZ cJ cG A (MQ below (wx_Qi D ad cI cZ cJ cG res A) args s 0 0 A) 7 0 0 49 [(0, .ref (ad 71)), (1, .int x1), (2, .int x2), (3, .int x3), (4, .int x4), (5, .int x5)] [.int s1, .ref (ad 71)] σ := by
    intro  x1 x2 x3 x4 x5 s1 σ hf H locs ls hP hD hS hl
    unfold wf_M_table_49 at hf
    refine lv_iconst (v := 0) hx hb wd_M_table_49 (by decide) ?_
    exact J50 x1 x2 x3 x4 x5 s1 0 σ hf _ _ _ hP hD hS (lv_sub hl [0, 1, 2, 3, 4, 5] rfl)
  unfold wf_M_table at hf
  refine lv_iload_n hx hb wd_M_table_0 rfl (lv_at hl 1 rfl) ?_
  refine lv_iconst (v := 0) hx hb wd_M_table_1 (by decide) ?_
  refine lv_iconst (v := 1) hx hb wd_M_table_2 (by decide) ?_
  obtain ⟨r2, σ1, hq, hf⟩ := wc_b2_e hf
  refine wx_calli (va_runS (As := [.int a1, .int 0, .int 1]) (rest := []) ⟨hx, hb, hml, hown, hts⟩ (wm_M_in l D ad cI cZ cJ cG _ a1 0 1 σ _ hq) (wx_cwS 3 hts wt_728 wt_727 wt_7 wt_726 wh_M_in rfl rfl ⟨Nat.le_of_ble_eq_true rfl, Nat.le_of_ble_eq_true rfl⟩) (wx_preS hK hP hD hS hA hC) rfl rfl hl.1 rfl (lv_room (Nat.le_of_ble_eq_true rfl)) wd_M_table_3 ⟨Nat.le_of_ble_eq_true rfl, Nat.le_of_ble_eq_true rfl⟩) hD hS hA (fun H locs hP hD hS => ?_)
  refine lv_istore (lv' := [(5, .int r2), (0, .ref (ad 71)), (1, .int a1), (2, .int a2), (3, .int a3), (4, .int a4)]) hx hb wd_M_table_6 hl (by decide) rfl (fun ls hl => ?_)
  refine lv_aload_n hx hb wd_M_table_8 rfl (lv_at hl 1 rfl) ?_
  refine lv_iload hx hb wd_M_table_9 (lv_at hl 0 rfl) ?_
  refine lv_iload_n hx hb wd_M_table_11 rfl (lv_at hl 3 rfl) ?_
  refine lv_iconst (v := 0) hx hb wd_M_table_12 (by decide) ?_
  refine lv_sipush (v := 1000) hx hb wd_M_table_13 (by decide) ?_
  obtain ⟨r4, σ3, hq, hf⟩ := wc_b2_e hf
  refine wx_calli (va_runS (As := [.int a2, .int 0, .int 1000]) (rest := [.int r2, .ref (ad 71)]) ⟨hx, hb, hml, hown, hts⟩ (wm_M_in l D ad cI cZ cJ cG _ a2 0 1000 σ1 _ hq) (wx_cwS 3 hts wt_728 wt_727 wt_7 wt_726 wh_M_in rfl rfl ⟨Nat.le_of_ble_eq_true rfl, Nat.le_of_ble_eq_true rfl⟩) (wx_preS hK hP hD hS hA hC) rfl rfl hl.1 rfl (lv_room (Nat.le_of_ble_eq_true rfl)) wd_M_table_16 ⟨Nat.le_of_ble_eq_true rfl, Nat.le_of_ble_eq_true rfl⟩) hD hS hA (fun H locs hP hD hS => ?_)
  refine lv_if_eq (tgt := 49) hx hb wd_M_table_19 (by decide) (fun c5 => ?_) (fun c5 => ?_)
  · have hf := wc_t c5 hf
    exact J49 a1 a2 a3 a4 r2 r2 σ3 hf _ _ _ hP hD hS (lv_sub hl [1, 2, 3, 4, 5, 0] rfl)
  · have hf := wc_f c5 hf
    refine lv_iload_n hx hb wd_M_table_22 rfl (lv_at hl 4 rfl) ?_
    refine lv_iload_n hx hb wd_M_table_23 rfl (lv_at hl 3 rfl) ?_
    refine lv_sipush (v := 1000) hx hb wd_M_table_24 (by decide) ?_
    obtain ⟨r32, σ31, hq, hf⟩ := wc_b2_e hf
    refine wx_calli (va_runS (As := [.int a3, .int a2, .int 1000]) (rest := [.int r2, .ref (ad 71)]) ⟨hx, hb, hml, hown, hts⟩ (wm_M_in l D ad cI cZ cJ cG _ a3 a2 1000 σ3 _ hq) (wx_cwS 3 hts wt_728 wt_727 wt_7 wt_726 wh_M_in rfl rfl ⟨Nat.le_of_ble_eq_true rfl, Nat.le_of_ble_eq_true rfl⟩) (wx_preS hK hP hD hS hA hC) rfl rfl hl.1 rfl (lv_room (Nat.le_of_ble_eq_true rfl)) wd_M_table_27 ⟨Nat.le_of_ble_eq_true rfl, Nat.le_of_ble_eq_true rfl⟩) hD hS hA (fun H locs hP hD hS => ?_)
    refine lv_if_eq (tgt := 49) hx hb wd_M_table_30 (by decide) (fun c33 => ?_) (fun c33 => ?_)
    · have hf := wc_t c33 hf
      exact J49 a1 a2 a3 a4 r2 r2 σ31 hf _ _ _ hP hD hS (lv_sub hl [1, 2, 3, 4, 5, 0] rfl)
    · have hf := wc_f c33 hf
      refine lv_iload hx hb wd_M_table_33 (lv_at hl 5 rfl) ?_
      refine lv_iconst (v := 0) hx hb wd_M_table_35 (by decide) ?_
      refine lv_sipush (v := 10000) hx hb wd_M_table_36 (by decide) ?_
      obtain ⟨r35, σ34, hq, hf⟩ := wc_b2_e hf
      refine wx_calli (va_runS (As := [.int a4, .int 0, .int 10000]) (rest := [.int r2, .ref (ad 71)]) ⟨hx, hb, hml, hown, hts⟩ (wm_M_in l D ad cI cZ cJ cG _ a4 0 10000 σ31 _ hq) (wx_cwS 3 hts wt_728 wt_727 wt_7 wt_726 wh_M_in rfl rfl ⟨Nat.le_of_ble_eq_true rfl, Nat.le_of_ble_eq_true rfl⟩) (wx_preS hK hP hD hS hA hC) rfl rfl hl.1 rfl (lv_room (Nat.le_of_ble_eq_true rfl)) wd_M_table_39 ⟨Nat.le_of_ble_eq_true rfl, Nat.le_of_ble_eq_true rfl⟩) hD hS hA (fun H locs hP hD hS => ?_)
      refine lv_if_eq (tgt := 49) hx hb wd_M_table_42 (by decide) (fun c36 => ?_) (fun c36 => ?_)
      · have hf := wc_t c36 hf
        exact J49 a1 a2 a3 a4 r2 r2 σ34 hf _ _ _ hP hD hS (lv_sub hl [1, 2, 3, 4, 5, 0] rfl)
      · have hf := wc_f c36 hf
        refine lv_iconst (v := 1) hx hb wd_M_table_45 (by decide) ?_
        refine lv_goto (tgt := 50) hx hb wd_M_table_46 (by decide) ?_
        exact J50 a1 a2 a3 a4 r2 r2 1 σ34 hf _ _ _ hP hD hS (lv_sub hl [1, 2, 3, 4, 5, 0] rfl)
set_option maxHeartbeats 4000000 in
set_option maxRecDepth 100000 in
theorem wm_M_group (l : Launch) (D : va_G) (ad : Nat → Nat) (cI cZ cJ cG : ClassId) (sz : Nat) (a1 : Int32) (a2 : Int32) (a3 : Int32) (σ : wc_S) (res : Int32 × wc_S) (hf : wf_M_group a1 a2 a3 σ = some res) : Met l wy_M_group (wx_ws_M_group) ({ frames := 1, cells := 0, slots := 0, locals := 23 }) (va_Pc [.ref (ad 71), .int a1, .int a2, .int a3] (wx_pre D ad cI cZ cJ cG σ sz)) (wx_Qi D ad cI cZ cJ cG res (va_A (wx_W ad cI cZ cJ cG σ) sz)) 0 0 (va_A (wx_W ad cI cZ cJ cG σ) sz) := by
  refine wx_ofW (cc := prog_8_method_9_code) (maxL := 4) (ret := (some .int)) (Qc := fun A => wx_Qi D ad cI cZ cJ cG res A) [.ref (ad 71), .int a1, .int a2, .int a3] (by decide) rfl (Nat.le_of_ble_eq_true rfl) ?_
  intro p e s m args below meth c A ls hin hl
  obtain ⟨hx, hb, hr, hts, hown, hlocks, hml, hA, hP, hK, hD, hC, hN, hS⟩ := hin
  have hl : lv_has ls 4 [(0, .ref (ad 71)), (1, .int a1), (2, .int a2), (3, .int a3)] := hl
  have J52 : ∀ (x1 : Int32) (x2 : Int32) (x3 : Int32) (s1 : Int32) (s2 : Int32) (σ : wc_S), wf_M_group_52 x1 x2 x3 s1 s2 σ = some res → wx_Arr p l e ({ frames := 1, cells := 0, slots := 0, locals := 23 }) s m args below meth c D ad cI cZ cJ cG A (MQ below (wx_Qi D ad cI cZ cJ cG res A) args s 0 0 A) 4 0 0 52 [(0, .ref (ad 71)), (1, .int x1), (2, .int x2), (3, .int x3)] [.int s2, .int s1, .ref (ad 71)] σ := by
    intro  x1 x2 x3 s1 s2 σ hf H locs ls hP hD hS hl
    unfold wf_M_group_52 at hf
    refine lv_iconst (v := 1) hx hb wd_M_group_52 (by decide) ?_
    obtain ⟨r7, σ6, hq, hf⟩ := wc_b2_e hf
    refine wx_calli (va_runV (As := [.int s1, .int s2, .int 1]) (rest := []) ⟨hx, hb, hml, hown, hts⟩ (wm_M_goes l D ad cI cZ cJ cG _ s1 s2 1 σ _ hq) (wx_cwV 3 hts wt_732 wt_731 wp_32 wt_7 wt_729 wh_M_goes rfl rfl ⟨Nat.le_of_ble_eq_true rfl, Nat.le_of_ble_eq_true rfl⟩) (wx_preV hK hP hD hS hA hC (by decide) rfl rfl) rfl rfl hl.1 rfl (lv_room (Nat.le_of_ble_eq_true rfl)) wd_M_group_53 ⟨Nat.le_of_ble_eq_true rfl, Nat.le_of_ble_eq_true rfl⟩) hD hS hA (fun H locs hP hD hS => ?_)
    refine lv_if_ne (tgt := 61) hx hb wd_M_group_56 (by decide) (fun c8 => ?_) (fun c8 => ?_)
    · have hf := wc_f c8 hf
      refine lv_aload_n hx hb wd_M_group_61 rfl (lv_at hl 0 rfl) ?_
      refine wx_get (v := .ref (ad 82)) (C := "WidthCampaignsModel") (T := wx_TM) (N' := 29) hx hb hts wi_M hown hK hP 71 (by decide) rfl rfl 13 (by decide) wt_643 (fun _ h9 => h9) rfl wd_M_group_62 ?_
      refine lv_aload_n hx hb wd_M_group_65 rfl (lv_at hl 0 rfl) ?_
      refine wx_get (v := .int (σ6 71 12)) (C := "WidthCampaignsModel") (T := wx_TM) (N' := 29) hx hb hts wi_M hown hK hP 71 (by decide) rfl rfl 12 (by decide) wt_642 (fun _ h9 => h9) rfl wd_M_group_66 ?_
      refine lv_topi (fun v9 ev9 => ?_)
      have hf := wc_st_e ev9 hf
      refine lv_iload_n hx hb wd_M_group_69 rfl (lv_at hl 1 rfl) ?_
      obtain ⟨h10, hf⟩ := wc_gd_e hf
      refine wx_iast hx hb hK hP hD hS 82 (n := 4) (by decide) (fun _ => rfl) h10 wd_M_group_70 (fun σ11 H locs eσ11 hP hD hS => ?_)
      have hf := wc_st_e eσ11 hf
      refine lv_aload_n hx hb wd_M_group_71 rfl (lv_at hl 0 rfl) ?_
      refine wx_get (v := .ref (ad 83)) (C := "WidthCampaignsModel") (T := wx_TM) (N' := 29) hx hb hts wi_M hown hK hP 71 (by decide) rfl rfl 14 (by decide) wt_644 (fun _ h9 => h9) rfl wd_M_group_72 ?_
      refine lv_aload_n hx hb wd_M_group_75 rfl (lv_at hl 0 rfl) ?_
      refine wx_get (v := .int (σ11 71 12)) (C := "WidthCampaignsModel") (T := wx_TM) (N' := 29) hx hb hts wi_M hown hK hP 71 (by decide) rfl rfl 12 (by decide) wt_642 (fun _ h9 => h9) rfl wd_M_group_76 ?_
      refine lv_topi (fun v12 ev12 => ?_)
      have hf := wc_st_e ev12 hf
      refine lv_iload_n hx hb wd_M_group_79 rfl (lv_at hl 2 rfl) ?_
      obtain ⟨h13, hf⟩ := wc_gd_e hf
      refine wx_iast hx hb hK hP hD hS 83 (n := 4) (by decide) (fun _ => rfl) h13 wd_M_group_80 (fun σ14 H locs eσ14 hP hD hS => ?_)
      have hf := wc_st_e eσ14 hf
      refine lv_aload_n hx hb wd_M_group_81 rfl (lv_at hl 0 rfl) ?_
      refine wx_get (v := .ref (ad 84)) (C := "WidthCampaignsModel") (T := wx_TM) (N' := 29) hx hb hts wi_M hown hK hP 71 (by decide) rfl rfl 15 (by decide) wt_645 (fun _ h9 => h9) rfl wd_M_group_82 ?_
      refine lv_aload_n hx hb wd_M_group_85 rfl (lv_at hl 0 rfl) ?_
      refine wx_get (v := .int (σ14 71 12)) (C := "WidthCampaignsModel") (T := wx_TM) (N' := 29) hx hb hts wi_M hown hK hP 71 (by decide) rfl rfl 12 (by decide) wt_642 (fun _ h9 => h9) rfl wd_M_group_86 ?_
      refine lv_topi (fun v15 ev15 => ?_)
      have hf := wc_st_e ev15 hf
      refine lv_iload_n hx hb wd_M_group_89 rfl (lv_at hl 3 rfl) ?_
      obtain ⟨h16, hf⟩ := wc_gd_e hf
      refine wx_iast hx hb hK hP hD hS 84 (n := 4) (by decide) (fun _ => rfl) h16 wd_M_group_90 (fun σ17 H locs eσ17 hP hD hS => ?_)
      have hf := wc_st_e eσ17 hf
      refine lv_aload_n hx hb wd_M_group_91 rfl (lv_at hl 0 rfl) ?_
      refine lv_dup hx hb wd_M_group_92 rfl ?_
      refine wx_get (v := .int (σ17 71 12)) (C := "WidthCampaignsModel") (T := wx_TM) (N' := 29) hx hb hts wi_M hown hK hP 71 (by decide) rfl rfl 12 (by decide) wt_642 (fun _ h9 => h9) rfl wd_M_group_93 ?_
      refine lv_topi (fun v18 ev18 => ?_)
      have hf := wc_st_e ev18 hf
      refine lv_iconst (v := 1) hx hb wd_M_group_96 (by decide) ?_
      refine lv_iadd hx hb wd_M_group_97 ?_
      refine lv_topi (fun v19 ev19 => ?_)
      have hf := wc_st_e ev19 hf
      refine wx_put (x := v19) (ty := .int) (C := "WidthCampaignsModel") (T := wx_TM) (N' := 29) hx hb hts wi_M wx_tM wx_toM wx_nM hown hK hP hD hS 71 (by decide) (fun _ => rfl) rfl 12 (by decide) wt_642 (fun _ h9 => h9) rfl (by decide +kernel) rfl rfl (Nat.le_of_ble_eq_true rfl) rfl wd_M_group_98 (fun σ20 H locs eσ20 hP hD hS => ?_)
      have hf := wc_st_e eσ20 hf
      refine lv_aload_n hx hb wd_M_group_101 rfl (lv_at hl 0 rfl) ?_
      obtain ⟨σ21, hq, hf⟩ := wc_b1_e hf
      refine wx_callv (va_runV (As := []) (rest := []) ⟨hx, hb, hml, hown, hts⟩ (wm_M_gone l D ad cI cZ cJ cG _ σ20 _ hq) (wx_cwV 0 hts wt_736 wt_735 wp_33 wt_7 wt_733 wh_M_gone rfl rfl ⟨Nat.le_of_ble_eq_true rfl, Nat.le_of_ble_eq_true rfl⟩) (wx_preV hK hP hD hS hA hC (by decide) rfl rfl) rfl rfl hl.1 rfl (lv_room (Nat.le_of_ble_eq_true rfl)) wd_M_group_102 ⟨Nat.le_of_ble_eq_true rfl, Nat.le_of_ble_eq_true rfl⟩) hD hS hA (fun H locs hP hD hS => ?_)
      refine lv_aload_n hx hb wd_M_group_105 rfl (lv_at hl 0 rfl) ?_
      refine wx_get (v := .int (σ21 71 12)) (C := "WidthCampaignsModel") (T := wx_TM) (N' := 29) hx hb hts wi_M hown hK hP 71 (by decide) rfl rfl 12 (by decide) wt_642 (fun _ h9 => h9) rfl wd_M_group_106 ?_
      refine lv_topi (fun v22 ev22 => ?_)
      have hf := wc_st_e ev22 hf
      exact wx_iret hx hb hr hlocks hf hP hS wd_M_group_109
    · have hf := wc_t c8 hf
      refine lv_iconst (v := 0) hx hb wd_M_group_59 (by decide) ?_
      exact wx_iret hx hb hr hlocks hf hP hS wd_M_group_60
  have J39 : ∀ (x1 : Int32) (x2 : Int32) (x3 : Int32) (s1 : Int32) (σ : wc_S), wf_M_group_39 x1 x2 x3 s1 σ = some res → wx_Arr p l e ({ frames := 1, cells := 0, slots := 0, locals := 23 }) s m args below meth c D ad cI cZ cJ cG A (MQ below (wx_Qi D ad cI cZ cJ cG res A) args s 0 0 A) 4 0 0 39 [(0, .ref (ad 71)), (1, .int x1), (2, .int x2), (3, .int x3)] [.int s1, .ref (ad 71)] σ := by
    intro  x1 x2 x3 s1 σ hf H locs ls hP hD hS hl
    unfold wf_M_group_39 at hf
    refine lv_aload_n hx hb wd_M_group_39 rfl (lv_at hl 0 rfl) ?_
    refine wx_get (v := .int (σ 71 12)) (C := "WidthCampaignsModel") (T := wx_TM) (N' := 29) hx hb hts wi_M hown hK hP 71 (by decide) rfl rfl 12 (by decide) wt_642 (fun _ h9 => h9) rfl wd_M_group_40 ?_
    refine lv_topi (fun v4 ev4 => ?_)
    have hf := wc_st_e ev4 hf
    refine lv_iconst (v := 4) hx hb wd_M_group_43 (by decide) ?_
    refine lv_icmp_ge (tgt := 51) hx hb wd_M_group_44 (by decide) (fun c5 => ?_) (fun c5 => ?_)
    · have hf := wc_t c5 hf
      refine lv_iconst (v := 0) hx hb wd_M_group_51 (by decide) ?_
      exact J52 x1 x2 x3 s1 0 σ hf _ _ _ hP hD hS (lv_sub hl [0, 1, 2, 3] rfl)
    · have hf := wc_f c5 hf
      refine lv_iconst (v := 1) hx hb wd_M_group_47 (by decide) ?_
      refine lv_goto (tgt := 52) hx hb wd_M_group_48 (by decide) ?_
      exact J52 x1 x2 x3 s1 1 σ hf _ _ _ hP hD hS (lv_sub hl [0, 1, 2, 3] rfl)
  have J38 : ∀ (x1 : Int32) (x2 : Int32) (x3 : Int32) (σ : wc_S), wf_M_group_38 x1 x2 x3 σ = some res → wx_Arr p l e ({ frames := 1, cells := 0, slots := 0, locals := 23 }) s m args below meth c D ad cI cZ cJ cG A (MQ below (wx_Qi D ad cI cZ cJ cG res A) args s 0 0 A) 4 0 0 38 [(0, .ref (ad 71)), (1, .int x1), (2, .int x2), (3, .int x3)] [.ref (ad 71)] σ := by
    intro  x1 x2 x3 σ hf H locs ls hP hD hS hl
    unfold wf_M_group_38 at hf
    refine lv_iconst (v := 0) hx hb wd_M_group_38 (by decide) ?_
    exact J39 x1 x2 x3 0 σ hf _ _ _ hP hD hS (lv_sub hl [0, 1, 2, 3] rfl)
  unfold wf_M_group at hf
  refine lv_aload_n hx hb wd_M_group_0 rfl (lv_at hl 0 rfl) ?_
  refine lv_iload_n hx hb wd_M_group_1 rfl (lv_at hl 1 rfl) ?_
  refine lv_iconst (v := 1) hx hb wd_M_group_2 (by decide) ?_
  refine lv_sipush (v := 2000) hx hb wd_M_group_3 (by decide) ?_
  obtain ⟨r2, σ1, hq, hf⟩ := wc_b2_e hf
  refine wx_calli (va_runS (As := [.int a1, .int 1, .int 2000]) (rest := [.ref (ad 71)]) ⟨hx, hb, hml, hown, hts⟩ (wm_M_in l D ad cI cZ cJ cG _ a1 1 2000 σ _ hq) (wx_cwS 3 hts wt_728 wt_727 wt_7 wt_726 wh_M_in rfl rfl ⟨Nat.le_of_ble_eq_true rfl, Nat.le_of_ble_eq_true rfl⟩) (wx_preS hK hP hD hS hA hC) rfl rfl hl.1 rfl (lv_room (Nat.le_of_ble_eq_true rfl)) wd_M_group_6 ⟨Nat.le_of_ble_eq_true rfl, Nat.le_of_ble_eq_true rfl⟩) hD hS hA (fun H locs hP hD hS => ?_)
  refine lv_if_eq (tgt := 38) hx hb wd_M_group_9 (by decide) (fun c3 => ?_) (fun c3 => ?_)
  · have hf := wc_t c3 hf
    exact J38 a1 a2 a3 σ1 hf _ _ _ hP hD hS (lv_sub hl [0, 1, 2, 3] rfl)
  · have hf := wc_f c3 hf
    refine lv_iload_n hx hb wd_M_group_12 rfl (lv_at hl 2 rfl) ?_
    refine lv_iload_n hx hb wd_M_group_13 rfl (lv_at hl 1 rfl) ?_
    refine lv_sipush (v := 2000) hx hb wd_M_group_14 (by decide) ?_
    obtain ⟨r24, σ23, hq, hf⟩ := wc_b2_e hf
    refine wx_calli (va_runS (As := [.int a2, .int a1, .int 2000]) (rest := [.ref (ad 71)]) ⟨hx, hb, hml, hown, hts⟩ (wm_M_in l D ad cI cZ cJ cG _ a2 a1 2000 σ1 _ hq) (wx_cwS 3 hts wt_728 wt_727 wt_7 wt_726 wh_M_in rfl rfl ⟨Nat.le_of_ble_eq_true rfl, Nat.le_of_ble_eq_true rfl⟩) (wx_preS hK hP hD hS hA hC) rfl rfl hl.1 rfl (lv_room (Nat.le_of_ble_eq_true rfl)) wd_M_group_17 ⟨Nat.le_of_ble_eq_true rfl, Nat.le_of_ble_eq_true rfl⟩) hD hS hA (fun H locs hP hD hS => ?_)
    refine lv_if_eq (tgt := 38) hx hb wd_M_group_20 (by decide) (fun c25 => ?_) (fun c25 => ?_)
    · have hf := wc_t c25 hf
      exact J38 a1 a2 a3 σ23 hf _ _ _ hP hD hS (lv_sub hl [0, 1, 2, 3] rfl)
    · have hf := wc_f c25 hf
      refine lv_iload_n hx hb wd_M_group_23 rfl (lv_at hl 3 rfl) ?_
      refine lv_iconst (v := 1) hx hb wd_M_group_24 (by decide) ?_
      refine lv_sipush (v := 1000) hx hb wd_M_group_25 (by decide) ?_
      obtain ⟨r27, σ26, hq, hf⟩ := wc_b2_e hf
      refine wx_calli (va_runS (As := [.int a3, .int 1, .int 1000]) (rest := [.ref (ad 71)]) ⟨hx, hb, hml, hown, hts⟩ (wm_M_in l D ad cI cZ cJ cG _ a3 1 1000 σ23 _ hq) (wx_cwS 3 hts wt_728 wt_727 wt_7 wt_726 wh_M_in rfl rfl ⟨Nat.le_of_ble_eq_true rfl, Nat.le_of_ble_eq_true rfl⟩) (wx_preS hK hP hD hS hA hC) rfl rfl hl.1 rfl (lv_room (Nat.le_of_ble_eq_true rfl)) wd_M_group_28 ⟨Nat.le_of_ble_eq_true rfl, Nat.le_of_ble_eq_true rfl⟩) hD hS hA (fun H locs hP hD hS => ?_)
      refine lv_if_eq (tgt := 38) hx hb wd_M_group_31 (by decide) (fun c28 => ?_) (fun c28 => ?_)
      · have hf := wc_t c28 hf
        exact J38 a1 a2 a3 σ26 hf _ _ _ hP hD hS (lv_sub hl [0, 1, 2, 3] rfl)
      · have hf := wc_f c28 hf
        refine lv_iconst (v := 1) hx hb wd_M_group_34 (by decide) ?_
        refine lv_goto (tgt := 39) hx hb wd_M_group_35 (by decide) ?_
        exact J39 a1 a2 a3 1 σ26 hf _ _ _ hP hD hS (lv_sub hl [0, 1, 2, 3] rfl)
set_option maxHeartbeats 4000000 in
set_option maxRecDepth 100000 in
theorem wm_M_urgent (l : Launch) (D : va_G) (ad : Nat → Nat) (cI cZ cJ cG : ClassId) (sz : Nat) (a1 : Int32) (a2 : Int32) (σ : wc_S) (res : wc_S) (hf : wf_M_urgent a1 a2 σ = some res) : Met l wy_M_urgent (wx_ws_M_urgent) ({ frames := 2, cells := 0, slots := 0, locals := 43 }) (va_Pc [.ref (ad 71), .int a1, .int a2] (wx_pre D ad cI cZ cJ cG σ sz)) (wx_Qv D ad cI cZ cJ cG res (va_A (wx_W ad cI cZ cJ cG σ) sz)) 0 0 (va_A (wx_W ad cI cZ cJ cG σ) sz) := by
  refine wx_ofW (cc := prog_8_method_10_code) (maxL := 3) (ret := none) (Qc := fun A => wx_Qv D ad cI cZ cJ cG res A) [.ref (ad 71), .int a1, .int a2] (by decide) rfl (Nat.le_of_ble_eq_true rfl) ?_
  intro p e s m args below meth c A ls hin hl
  obtain ⟨hx, hb, hr, hts, hown, hlocks, hml, hA, hP, hK, hD, hC, hN, hS⟩ := hin
  have hl : lv_has ls 3 [(0, .ref (ad 71)), (1, .int a1), (2, .int a2)] := hl
  unfold wf_M_urgent at hf
  refine lv_aload_n hx hb wd_M_urgent_0 rfl (lv_at hl 0 rfl) ?_
  refine lv_aload_n hx hb wd_M_urgent_1 rfl (lv_at hl 0 rfl) ?_
  refine lv_iload_n hx hb wd_M_urgent_2 rfl (lv_at hl 1 rfl) ?_
  obtain ⟨r2, σ1, hq, hf⟩ := wc_b2_e hf
  refine wx_calli (va_runV (As := [.int a1]) (rest := [.ref (ad 71)]) ⟨hx, hb, hml, hown, hts⟩ (wm_M_isCoil l D ad cI cZ cJ cG _ a1 σ _ hq) (wx_cwV 1 hts wt_752 wt_751 wp_34 wt_7 wt_749 wh_M_isCoil rfl rfl ⟨Nat.le_of_ble_eq_true rfl, Nat.le_of_ble_eq_true rfl⟩) (wx_preV hK hP hD hS hA hC (by decide) rfl rfl) rfl rfl hl.1 rfl (lv_room (Nat.le_of_ble_eq_true rfl)) wd_M_urgent_3 ⟨Nat.le_of_ble_eq_true rfl, Nat.le_of_ble_eq_true rfl⟩) hD hS hA (fun H locs hP hD hS => ?_)
  refine lv_iload_n hx hb wd_M_urgent_6 rfl (lv_at hl 2 rfl) ?_
  refine lv_iconst (v := 0) hx hb wd_M_urgent_7 (by decide) ?_
  refine lv_bipush (v := 8) hx hb wd_M_urgent_8 (by decide) ?_
  obtain ⟨r4, σ3, hq, hf⟩ := wc_b2_e hf
  refine wx_calli (va_runS (As := [.int a2, .int 0, .int 8]) (rest := [.int r2, .ref (ad 71)]) ⟨hx, hb, hml, hown, hts⟩ (wm_M_in l D ad cI cZ cJ cG _ a2 0 8 σ1 _ hq) (wx_cwS 3 hts wt_728 wt_727 wt_7 wt_726 wh_M_in rfl rfl ⟨Nat.le_of_ble_eq_true rfl, Nat.le_of_ble_eq_true rfl⟩) (wx_preS hK hP hD hS hA hC) rfl rfl hl.1 rfl (lv_room (Nat.le_of_ble_eq_true rfl)) wd_M_urgent_10 ⟨Nat.le_of_ble_eq_true rfl, Nat.le_of_ble_eq_true rfl⟩) hD hS hA (fun H locs hP hD hS => ?_)
  refine lv_iconst (v := 1) hx hb wd_M_urgent_13 (by decide) ?_
  obtain ⟨r6, σ5, hq, hf⟩ := wc_b2_e hf
  refine wx_calli (va_runV (As := [.int r2, .int r4, .int 1]) (rest := []) ⟨hx, hb, hml, hown, hts⟩ (wm_M_goes l D ad cI cZ cJ cG _ r2 r4 1 σ3 _ hq) (wx_cwV 3 hts wt_732 wt_731 wp_32 wt_7 wt_729 wh_M_goes rfl rfl ⟨Nat.le_of_ble_eq_true rfl, Nat.le_of_ble_eq_true rfl⟩) (wx_preV hK hP hD hS hA hC (by decide) rfl rfl) rfl rfl hl.1 rfl (lv_room (Nat.le_of_ble_eq_true rfl)) wd_M_urgent_14 ⟨Nat.le_of_ble_eq_true rfl, Nat.le_of_ble_eq_true rfl⟩) hD hS hA (fun H locs hP hD hS => ?_)
  refine lv_if_ne (tgt := 21) hx hb wd_M_urgent_17 (by decide) (fun c7 => ?_) (fun c7 => ?_)
  · have hf := wc_f c7 hf
    refine lv_aload_n hx hb wd_M_urgent_21 rfl (lv_at hl 0 rfl) ?_
    refine wx_get (v := .ref (ad 76)) (C := "WidthCampaignsModel") (T := wx_TM) (N' := 29) hx hb hts wi_M hown hK hP 71 (by decide) rfl rfl 6 (by decide) wt_636 (fun _ h9 => h9) rfl wd_M_urgent_22 ?_
    refine lv_iload_n hx hb wd_M_urgent_25 rfl (lv_at hl 1 rfl) ?_
    refine lv_iload_n hx hb wd_M_urgent_26 rfl (lv_at hl 2 rfl) ?_
    obtain ⟨h8, hf⟩ := wc_gd_e hf
    refine wx_iast hx hb hK hP hD hS 76 (n := 9) (by decide) (fun _ => rfl) h8 wd_M_urgent_27 (fun σ9 H locs eσ9 hP hD hS => ?_)
    have hf := wc_st_e eσ9 hf
    refine lv_aload_n hx hb wd_M_urgent_28 rfl (lv_at hl 0 rfl) ?_
    obtain ⟨σ10, hq, hf⟩ := wc_b1_e hf
    refine wx_callv (va_runV (As := []) (rest := []) ⟨hx, hb, hml, hown, hts⟩ (wm_M_gone l D ad cI cZ cJ cG _ σ9 _ hq) (wx_cwV 0 hts wt_736 wt_735 wp_33 wt_7 wt_733 wh_M_gone rfl rfl ⟨Nat.le_of_ble_eq_true rfl, Nat.le_of_ble_eq_true rfl⟩) (wx_preV hK hP hD hS hA hC (by decide) rfl rfl) rfl rfl hl.1 rfl (lv_room (Nat.le_of_ble_eq_true rfl)) wd_M_urgent_29 ⟨Nat.le_of_ble_eq_true rfl, Nat.le_of_ble_eq_true rfl⟩) hD hS hA (fun H locs hP hD hS => ?_)
    exact wx_vret hx hb hr hlocks hf hP hS wd_M_urgent_32
  · have hf := wc_t c7 hf
    exact wx_vret hx hb hr hlocks hf hP hS wd_M_urgent_20
set_option maxHeartbeats 4000000 in
set_option maxRecDepth 100000 in
theorem wm_M_old (l : Launch) (D : va_G) (ad : Nat → Nat) (cI cZ cJ cG : ClassId) (sz : Nat) (a1 : Int32) (a2 : Int32) (σ : wc_S) (res : wc_S) (hf : wf_M_old a1 a2 σ = some res) : Met l wy_M_old (wx_ws_M_old) ({ frames := 2, cells := 0, slots := 0, locals := 43 }) (va_Pc [.ref (ad 71), .int a1, .int a2] (wx_pre D ad cI cZ cJ cG σ sz)) (wx_Qv D ad cI cZ cJ cG res (va_A (wx_W ad cI cZ cJ cG σ) sz)) 0 0 (va_A (wx_W ad cI cZ cJ cG σ) sz) := by
  refine wx_ofW (cc := prog_8_method_11_code) (maxL := 3) (ret := none) (Qc := fun A => wx_Qv D ad cI cZ cJ cG res A) [.ref (ad 71), .int a1, .int a2] (by decide) rfl (Nat.le_of_ble_eq_true rfl) ?_
  intro p e s m args below meth c A ls hin hl
  obtain ⟨hx, hb, hr, hts, hown, hlocks, hml, hA, hP, hK, hD, hC, hN, hS⟩ := hin
  have hl : lv_has ls 3 [(0, .ref (ad 71)), (1, .int a1), (2, .int a2)] := hl
  unfold wf_M_old at hf
  refine lv_aload_n hx hb wd_M_old_0 rfl (lv_at hl 0 rfl) ?_
  refine lv_aload_n hx hb wd_M_old_1 rfl (lv_at hl 0 rfl) ?_
  refine lv_iload_n hx hb wd_M_old_2 rfl (lv_at hl 1 rfl) ?_
  obtain ⟨r2, σ1, hq, hf⟩ := wc_b2_e hf
  refine wx_calli (va_runV (As := [.int a1]) (rest := [.ref (ad 71)]) ⟨hx, hb, hml, hown, hts⟩ (wm_M_isCoil l D ad cI cZ cJ cG _ a1 σ _ hq) (wx_cwV 1 hts wt_752 wt_751 wp_34 wt_7 wt_749 wh_M_isCoil rfl rfl ⟨Nat.le_of_ble_eq_true rfl, Nat.le_of_ble_eq_true rfl⟩) (wx_preV hK hP hD hS hA hC (by decide) rfl rfl) rfl rfl hl.1 rfl (lv_room (Nat.le_of_ble_eq_true rfl)) wd_M_old_3 ⟨Nat.le_of_ble_eq_true rfl, Nat.le_of_ble_eq_true rfl⟩) hD hS hA (fun H locs hP hD hS => ?_)
  refine lv_iload_n hx hb wd_M_old_6 rfl (lv_at hl 2 rfl) ?_
  refine lv_iconst (v := (-1)) hx hb wd_M_old_7 (by decide) ?_
  refine lv_bipush (v := 8) hx hb wd_M_old_8 (by decide) ?_
  obtain ⟨r4, σ3, hq, hf⟩ := wc_b2_e hf
  refine wx_calli (va_runS (As := [.int a2, .int (-1), .int 8]) (rest := [.int r2, .ref (ad 71)]) ⟨hx, hb, hml, hown, hts⟩ (wm_M_in l D ad cI cZ cJ cG _ a2 (-1) 8 σ1 _ hq) (wx_cwS 3 hts wt_728 wt_727 wt_7 wt_726 wh_M_in rfl rfl ⟨Nat.le_of_ble_eq_true rfl, Nat.le_of_ble_eq_true rfl⟩) (wx_preS hK hP hD hS hA hC) rfl rfl hl.1 rfl (lv_room (Nat.le_of_ble_eq_true rfl)) wd_M_old_10 ⟨Nat.le_of_ble_eq_true rfl, Nat.le_of_ble_eq_true rfl⟩) hD hS hA (fun H locs hP hD hS => ?_)
  refine lv_iconst (v := 1) hx hb wd_M_old_13 (by decide) ?_
  obtain ⟨r6, σ5, hq, hf⟩ := wc_b2_e hf
  refine wx_calli (va_runV (As := [.int r2, .int r4, .int 1]) (rest := []) ⟨hx, hb, hml, hown, hts⟩ (wm_M_goes l D ad cI cZ cJ cG _ r2 r4 1 σ3 _ hq) (wx_cwV 3 hts wt_732 wt_731 wp_32 wt_7 wt_729 wh_M_goes rfl rfl ⟨Nat.le_of_ble_eq_true rfl, Nat.le_of_ble_eq_true rfl⟩) (wx_preV hK hP hD hS hA hC (by decide) rfl rfl) rfl rfl hl.1 rfl (lv_room (Nat.le_of_ble_eq_true rfl)) wd_M_old_14 ⟨Nat.le_of_ble_eq_true rfl, Nat.le_of_ble_eq_true rfl⟩) hD hS hA (fun H locs hP hD hS => ?_)
  refine lv_if_ne (tgt := 21) hx hb wd_M_old_17 (by decide) (fun c7 => ?_) (fun c7 => ?_)
  · have hf := wc_f c7 hf
    refine lv_aload_n hx hb wd_M_old_21 rfl (lv_at hl 0 rfl) ?_
    refine wx_get (v := .ref (ad 77)) (C := "WidthCampaignsModel") (T := wx_TM) (N' := 29) hx hb hts wi_M hown hK hP 71 (by decide) rfl rfl 7 (by decide) wt_637 (fun _ h9 => h9) rfl wd_M_old_22 ?_
    refine lv_iload_n hx hb wd_M_old_25 rfl (lv_at hl 1 rfl) ?_
    refine lv_iload_n hx hb wd_M_old_26 rfl (lv_at hl 2 rfl) ?_
    obtain ⟨h8, hf⟩ := wc_gd_e hf
    refine wx_iast hx hb hK hP hD hS 77 (n := 9) (by decide) (fun _ => rfl) h8 wd_M_old_27 (fun σ9 H locs eσ9 hP hD hS => ?_)
    have hf := wc_st_e eσ9 hf
    refine lv_aload_n hx hb wd_M_old_28 rfl (lv_at hl 0 rfl) ?_
    obtain ⟨σ10, hq, hf⟩ := wc_b1_e hf
    refine wx_callv (va_runV (As := []) (rest := []) ⟨hx, hb, hml, hown, hts⟩ (wm_M_gone l D ad cI cZ cJ cG _ σ9 _ hq) (wx_cwV 0 hts wt_736 wt_735 wp_33 wt_7 wt_733 wh_M_gone rfl rfl ⟨Nat.le_of_ble_eq_true rfl, Nat.le_of_ble_eq_true rfl⟩) (wx_preV hK hP hD hS hA hC (by decide) rfl rfl) rfl rfl hl.1 rfl (lv_room (Nat.le_of_ble_eq_true rfl)) wd_M_old_29 ⟨Nat.le_of_ble_eq_true rfl, Nat.le_of_ble_eq_true rfl⟩) hD hS hA (fun H locs hP hD hS => ?_)
    exact wx_vret hx hb hr hlocks hf hP hS wd_M_old_32
  · have hf := wc_t c7 hf
    exact wx_vret hx hb hr hlocks hf hP hS wd_M_old_20
set_option maxHeartbeats 4000000 in
set_option maxRecDepth 100000 in
theorem wm_M_rules (l : Launch) (D : va_G) (ad : Nat → Nat) (cI cZ cJ cG : ClassId) (sz : Nat) (a1 : Int32) (a2 : Int32) (a3 : Int32) (a4 : Int32) (σ : wc_S) (res : wc_S) (hf : wf_M_rules a1 a2 a3 a4 σ = some res) : Met l wy_M_rules (wx_ws_M_rules) ({ frames := 1, cells := 0, slots := 0, locals := 23 }) (va_Pc [.ref (ad 71), .int a1, .int a2, .int a3, .int a4] (wx_pre D ad cI cZ cJ cG σ sz)) (wx_Qv D ad cI cZ cJ cG res (va_A (wx_W ad cI cZ cJ cG σ) sz)) 0 0 (va_A (wx_W ad cI cZ cJ cG σ) sz) := by
  refine wx_ofW (cc := prog_8_method_12_code) (maxL := 5) (ret := none) (Qc := fun A => wx_Qv D ad cI cZ cJ cG res A) [.ref (ad 71), .int a1, .int a2, .int a3, .int a4] (by decide) rfl (Nat.le_of_ble_eq_true rfl) ?_
  intro p e s m args below meth c A ls hin hl
  obtain ⟨hx, hb, hr, hts, hown, hlocks, hml, hA, hP, hK, hD, hC, hN, hS⟩ := hin
  have hl : lv_has ls 5 [(0, .ref (ad 71)), (1, .int a1), (2, .int a2), (3, .int a3), (4, .int a4)] := hl
  have J50 : ∀ (x1 : Int32) (x2 : Int32) (x3 : Int32) (x4 : Int32) (s1 : Int32) (σ : wc_S), wf_M_rules_50 x1 x2 x3 x4 s1 σ = some res → wx_Arr p l e ({ frames := 1, cells := 0, slots := 0, locals := 23 }) s m args below meth c D ad cI cZ cJ cG A (MQ below (wx_Qv D ad cI cZ cJ cG res A) args s 0 0 A) 5 0 0 50 [(0, .ref (ad 71)), (1, .int x1), (2, .int x2), (3, .int x3), (4, .int x4)] [.int s1, .ref (ad 71)] σ := by
    intro  x1 x2 x3 x4 s1 σ hf H locs ls hP hD hS hl
    unfold wf_M_rules_50 at hf
    refine lv_iconst (v := 1) hx hb wd_M_rules_50 (by decide) ?_
    refine lv_iconst (v := 1) hx hb wd_M_rules_51 (by decide) ?_
    obtain ⟨r5, σ4, hq, hf⟩ := wc_b2_e hf
    refine wx_calli (va_runV (As := [.int s1, .int 1, .int 1]) (rest := []) ⟨hx, hb, hml, hown, hts⟩ (wm_M_goes l D ad cI cZ cJ cG _ s1 1 1 σ _ hq) (wx_cwV 3 hts wt_732 wt_731 wp_32 wt_7 wt_729 wh_M_goes rfl rfl ⟨Nat.le_of_ble_eq_true rfl, Nat.le_of_ble_eq_true rfl⟩) (wx_preV hK hP hD hS hA hC (by decide) rfl rfl) rfl rfl hl.1 rfl (lv_room (Nat.le_of_ble_eq_true rfl)) wd_M_rules_52 ⟨Nat.le_of_ble_eq_true rfl, Nat.le_of_ble_eq_true rfl⟩) hD hS hA (fun H locs hP hD hS => ?_)
    refine lv_if_ne (tgt := 59) hx hb wd_M_rules_55 (by decide) (fun c6 => ?_) (fun c6 => ?_)
    · have hf := wc_f c6 hf
      refine lv_aload_n hx hb wd_M_rules_59 rfl (lv_at hl 0 rfl) ?_
      refine lv_iload_n hx hb wd_M_rules_60 rfl (lv_at hl 1 rfl) ?_
      refine wx_put (x := x1) (ty := .int) (C := "WidthCampaignsModel") (T := wx_TM) (N' := 29) hx hb hts wi_M wx_tM wx_toM wx_nM hown hK hP hD hS 71 (by decide) (fun _ => rfl) rfl 16 (by decide) wt_646 (fun _ h9 => h9) rfl (by decide +kernel) rfl rfl (Nat.le_of_ble_eq_true rfl) rfl wd_M_rules_61 (fun σ7 H locs eσ7 hP hD hS => ?_)
      have hf := wc_st_e eσ7 hf
      refine lv_aload_n hx hb wd_M_rules_64 rfl (lv_at hl 0 rfl) ?_
      refine lv_iload_n hx hb wd_M_rules_65 rfl (lv_at hl 2 rfl) ?_
      refine wx_put (x := x2) (ty := .int) (C := "WidthCampaignsModel") (T := wx_TM) (N' := 29) hx hb hts wi_M wx_tM wx_toM wx_nM hown hK hP hD hS 71 (by decide) (fun _ => rfl) rfl 17 (by decide) wt_647 (fun _ h9 => h9) rfl (by decide +kernel) rfl rfl (Nat.le_of_ble_eq_true rfl) rfl wd_M_rules_66 (fun σ8 H locs eσ8 hP hD hS => ?_)
      have hf := wc_st_e eσ8 hf
      refine lv_aload_n hx hb wd_M_rules_69 rfl (lv_at hl 0 rfl) ?_
      refine lv_iload_n hx hb wd_M_rules_70 rfl (lv_at hl 3 rfl) ?_
      refine wx_put (x := x3) (ty := .int) (C := "WidthCampaignsModel") (T := wx_TM) (N' := 29) hx hb hts wi_M wx_tM wx_toM wx_nM hown hK hP hD hS 71 (by decide) (fun _ => rfl) rfl 18 (by decide) wt_648 (fun _ h9 => h9) rfl (by decide +kernel) rfl rfl (Nat.le_of_ble_eq_true rfl) rfl wd_M_rules_71 (fun σ9 H locs eσ9 hP hD hS => ?_)
      have hf := wc_st_e eσ9 hf
      refine lv_aload_n hx hb wd_M_rules_74 rfl (lv_at hl 0 rfl) ?_
      refine lv_iload hx hb wd_M_rules_75 (lv_at hl 4 rfl) ?_
      refine wx_put (x := x4) (ty := .int) (C := "WidthCampaignsModel") (T := wx_TM) (N' := 29) hx hb hts wi_M wx_tM wx_toM wx_nM hown hK hP hD hS 71 (by decide) (fun _ => rfl) rfl 19 (by decide) wt_649 (fun _ h9 => h9) rfl (by decide +kernel) rfl rfl (Nat.le_of_ble_eq_true rfl) rfl wd_M_rules_77 (fun σ10 H locs eσ10 hP hD hS => ?_)
      have hf := wc_st_e eσ10 hf
      refine lv_aload_n hx hb wd_M_rules_80 rfl (lv_at hl 0 rfl) ?_
      obtain ⟨σ11, hq, hf⟩ := wc_b1_e hf
      refine wx_callv (va_runV (As := []) (rest := []) ⟨hx, hb, hml, hown, hts⟩ (wm_M_gone l D ad cI cZ cJ cG _ σ10 _ hq) (wx_cwV 0 hts wt_736 wt_735 wp_33 wt_7 wt_733 wh_M_gone rfl rfl ⟨Nat.le_of_ble_eq_true rfl, Nat.le_of_ble_eq_true rfl⟩) (wx_preV hK hP hD hS hA hC (by decide) rfl rfl) rfl rfl hl.1 rfl (lv_room (Nat.le_of_ble_eq_true rfl)) wd_M_rules_81 ⟨Nat.le_of_ble_eq_true rfl, Nat.le_of_ble_eq_true rfl⟩) hD hS hA (fun H locs hP hD hS => ?_)
      exact wx_vret hx hb hr hlocks hf hP hS wd_M_rules_84
    · have hf := wc_t c6 hf
      exact wx_vret hx hb hr hlocks hf hP hS wd_M_rules_58
  have J49 : ∀ (x1 : Int32) (x2 : Int32) (x3 : Int32) (x4 : Int32) (σ : wc_S), wf_M_rules_49 x1 x2 x3 x4 σ = some res → wx_Arr p l e ({ frames := 1, cells := 0, slots := 0, locals := 23 }) s m args below meth c D ad cI cZ cJ cG A (MQ below (wx_Qv D ad cI cZ cJ cG res A) args s 0 0 A) 5 0 0 49 [(0, .ref (ad 71)), (1, .int x1), (2, .int x2), (3, .int x3), (4, .int x4)] [.ref (ad 71)] σ := by
    intro  x1 x2 x3 x4 σ hf H locs ls hP hD hS hl
    unfold wf_M_rules_49 at hf
    refine lv_iconst (v := 0) hx hb wd_M_rules_49 (by decide) ?_
    exact J50 x1 x2 x3 x4 0 σ hf _ _ _ hP hD hS (lv_sub hl [0, 1, 2, 3, 4] rfl)
  unfold wf_M_rules at hf
  refine lv_aload_n hx hb wd_M_rules_0 rfl (lv_at hl 0 rfl) ?_
  refine lv_iload_n hx hb wd_M_rules_1 rfl (lv_at hl 1 rfl) ?_
  refine lv_iconst (v := 0) hx hb wd_M_rules_2 (by decide) ?_
  refine lv_bipush (v := 9) hx hb wd_M_rules_3 (by decide) ?_
  obtain ⟨r2, σ1, hq, hf⟩ := wc_b2_e hf
  refine wx_calli (va_runS (As := [.int a1, .int 0, .int 9]) (rest := [.ref (ad 71)]) ⟨hx, hb, hml, hown, hts⟩ (wm_M_in l D ad cI cZ cJ cG _ a1 0 9 σ _ hq) (wx_cwS 3 hts wt_728 wt_727 wt_7 wt_726 wh_M_in rfl rfl ⟨Nat.le_of_ble_eq_true rfl, Nat.le_of_ble_eq_true rfl⟩) (wx_preS hK hP hD hS hA hC) rfl rfl hl.1 rfl (lv_room (Nat.le_of_ble_eq_true rfl)) wd_M_rules_5 ⟨Nat.le_of_ble_eq_true rfl, Nat.le_of_ble_eq_true rfl⟩) hD hS hA (fun H locs hP hD hS => ?_)
  refine lv_if_eq (tgt := 49) hx hb wd_M_rules_8 (by decide) (fun c3 => ?_) (fun c3 => ?_)
  · have hf := wc_t c3 hf
    exact J49 a1 a2 a3 a4 σ1 hf _ _ _ hP hD hS (lv_sub hl [0, 1, 2, 3, 4] rfl)
  · have hf := wc_f c3 hf
    refine lv_iload_n hx hb wd_M_rules_11 rfl (lv_at hl 2 rfl) ?_
    refine lv_iconst (v := 1) hx hb wd_M_rules_12 (by decide) ?_
    refine lv_sipush (v := 1000) hx hb wd_M_rules_13 (by decide) ?_
    obtain ⟨r13, σ12, hq, hf⟩ := wc_b2_e hf
    refine wx_calli (va_runS (As := [.int a2, .int 1, .int 1000]) (rest := [.ref (ad 71)]) ⟨hx, hb, hml, hown, hts⟩ (wm_M_in l D ad cI cZ cJ cG _ a2 1 1000 σ1 _ hq) (wx_cwS 3 hts wt_728 wt_727 wt_7 wt_726 wh_M_in rfl rfl ⟨Nat.le_of_ble_eq_true rfl, Nat.le_of_ble_eq_true rfl⟩) (wx_preS hK hP hD hS hA hC) rfl rfl hl.1 rfl (lv_room (Nat.le_of_ble_eq_true rfl)) wd_M_rules_16 ⟨Nat.le_of_ble_eq_true rfl, Nat.le_of_ble_eq_true rfl⟩) hD hS hA (fun H locs hP hD hS => ?_)
    refine lv_if_eq (tgt := 49) hx hb wd_M_rules_19 (by decide) (fun c14 => ?_) (fun c14 => ?_)
    · have hf := wc_t c14 hf
      exact J49 a1 a2 a3 a4 σ12 hf _ _ _ hP hD hS (lv_sub hl [0, 1, 2, 3, 4] rfl)
    · have hf := wc_f c14 hf
      refine lv_iload_n hx hb wd_M_rules_22 rfl (lv_at hl 3 rfl) ?_
      refine lv_iconst (v := 0) hx hb wd_M_rules_23 (by decide) ?_
      refine lv_sipush (v := 10000) hx hb wd_M_rules_24 (by decide) ?_
      obtain ⟨r16, σ15, hq, hf⟩ := wc_b2_e hf
      refine wx_calli (va_runS (As := [.int a3, .int 0, .int 10000]) (rest := [.ref (ad 71)]) ⟨hx, hb, hml, hown, hts⟩ (wm_M_in l D ad cI cZ cJ cG _ a3 0 10000 σ12 _ hq) (wx_cwS 3 hts wt_728 wt_727 wt_7 wt_726 wh_M_in rfl rfl ⟨Nat.le_of_ble_eq_true rfl, Nat.le_of_ble_eq_true rfl⟩) (wx_preS hK hP hD hS hA hC) rfl rfl hl.1 rfl (lv_room (Nat.le_of_ble_eq_true rfl)) wd_M_rules_27 ⟨Nat.le_of_ble_eq_true rfl, Nat.le_of_ble_eq_true rfl⟩) hD hS hA (fun H locs hP hD hS => ?_)
      refine lv_if_eq (tgt := 49) hx hb wd_M_rules_30 (by decide) (fun c17 => ?_) (fun c17 => ?_)
      · have hf := wc_t c17 hf
        exact J49 a1 a2 a3 a4 σ15 hf _ _ _ hP hD hS (lv_sub hl [0, 1, 2, 3, 4] rfl)
      · have hf := wc_f c17 hf
        refine lv_iload hx hb wd_M_rules_33 (lv_at hl 4 rfl) ?_
        refine lv_iconst (v := 0) hx hb wd_M_rules_35 (by decide) ?_
        refine lv_sipush (v := 10000) hx hb wd_M_rules_36 (by decide) ?_
        obtain ⟨r19, σ18, hq, hf⟩ := wc_b2_e hf
        refine wx_calli (va_runS (As := [.int a4, .int 0, .int 10000]) (rest := [.ref (ad 71)]) ⟨hx, hb, hml, hown, hts⟩ (wm_M_in l D ad cI cZ cJ cG _ a4 0 10000 σ15 _ hq) (wx_cwS 3 hts wt_728 wt_727 wt_7 wt_726 wh_M_in rfl rfl ⟨Nat.le_of_ble_eq_true rfl, Nat.le_of_ble_eq_true rfl⟩) (wx_preS hK hP hD hS hA hC) rfl rfl hl.1 rfl (lv_room (Nat.le_of_ble_eq_true rfl)) wd_M_rules_39 ⟨Nat.le_of_ble_eq_true rfl, Nat.le_of_ble_eq_true rfl⟩) hD hS hA (fun H locs hP hD hS => ?_)
        refine lv_if_eq (tgt := 49) hx hb wd_M_rules_42 (by decide) (fun c20 => ?_) (fun c20 => ?_)
        · have hf := wc_t c20 hf
          exact J49 a1 a2 a3 a4 σ18 hf _ _ _ hP hD hS (lv_sub hl [0, 1, 2, 3, 4] rfl)
        · have hf := wc_f c20 hf
          refine lv_iconst (v := 1) hx hb wd_M_rules_45 (by decide) ?_
          refine lv_goto (tgt := 50) hx hb wd_M_rules_46 (by decide) ?_
          exact J50 a1 a2 a3 a4 1 σ18 hf _ _ _ hP hD hS (lv_sub hl [0, 1, 2, 3, 4] rfl)
set_option maxHeartbeats 4000000 in
set_option maxRecDepth 100000 in
theorem wm_M_costOf (l : Launch) (D : va_G) (ad : Nat → Nat) (cI cZ cJ cG : ClassId) (sz : Nat) (a1 : Int32) (a2 : Int32) (σ : wc_S) (res : Int32 × wc_S) (hf : wf_M_costOf a1 a2 σ = some res) : Met l wy_M_costOf (wx_ws_M_costOf) ({ frames := 0, cells := 0, slots := 0, locals := 0 }) (va_Pc [.ref (ad 71), .int a1, .int a2] (wx_pre D ad cI cZ cJ cG σ sz)) (wx_Qi D ad cI cZ cJ cG res (va_A (wx_W ad cI cZ cJ cG σ) sz)) 0 0 (va_A (wx_W ad cI cZ cJ cG σ) sz) := by
  refine wx_ofW (cc := prog_8_method_13_code) (maxL := 5) (ret := (some .int)) (Qc := fun A => wx_Qi D ad cI cZ cJ cG res A) [.ref (ad 71), .int a1, .int a2] (by decide) rfl (Nat.le_of_ble_eq_true rfl) ?_
  intro p e s m args below meth c A ls hin hl
  obtain ⟨hx, hb, hr, hts, hown, hlocks, hml, hA, hP, hK, hD, hC, hN, hS⟩ := hin
  have hl : lv_has ls 5 [(0, .ref (ad 71)), (1, .int a1), (2, .int a2)] := hl
  have J63 : ∀ (k17 : Int32 → Int32 → Int32 → wc_S → Option (Int32 × wc_S)) (hk17 : (∀ (x1 : Int32) (x3 : Int32) (x4 : Int32) (σ : wc_S), k17 x1 x3 x4 σ = some res → wx_Arr p l e ({ frames := 0, cells := 0, slots := 0, locals := 0 }) s m args below meth c D ad cI cZ cJ cG A (MQ below (wx_Qi D ad cI cZ cJ cG res A) args s 0 0 A) 5 0 0 17 [(0, .ref (ad 71)), (1, .int x1), (3, .int x3), (4, .int x4)] [] σ)) (x1 : Int32) (x3 : Int32) (x4 : Int32) (σ : wc_S), wf_M_costOf_63 k17 x1 x3 x4 σ = some res → wx_Arr p l e ({ frames := 0, cells := 0, slots := 0, locals := 0 }) s m args below meth c D ad cI cZ cJ cG A (MQ below (wx_Qi D ad cI cZ cJ cG res A) args s 0 0 A) 5 0 0 63 [(0, .ref (ad 71)), (1, .int x1), (3, .int x3), (4, .int x4)] [] σ := by
    intro k17 hk17 x1 x3 x4 σ hf H locs ls hP hD hS hl
    unfold wf_M_costOf_63 at hf
    obtain ⟨v14, ev14⟩ : ∃ y : Int32, y = x4 + 1 := ⟨_, rfl⟩
    have hf := wc_st_e ev14 hf
    refine lv_iinc (v := v14) (lv' := [(4, .int v14), (0, .ref (ad 71)), (1, .int x1), (3, .int x3)]) hx hb wd_M_costOf_63 hl (k := 3) rfl (by rw [ev14]; rfl) (by decide) rfl (fun ls hl => ?_)
    refine lv_goto (tgt := 17) hx hb wd_M_costOf_66 (by decide) ?_
    exact hk17 x1 x3 v14 σ hf _ _ _ hP hD hS (lv_sub hl [1, 2, 3, 0] rfl)
  have J17 : ∀ (n : Nat) (x1 : Int32) (x3 : Int32) (x4 : Int32) (σ : wc_S), wf_M_costOf_17 n x1 x3 x4 σ = some res → wx_Arr p l e ({ frames := 0, cells := 0, slots := 0, locals := 0 }) s m args below meth c D ad cI cZ cJ cG A (MQ below (wx_Qi D ad cI cZ cJ cG res A) args s 0 0 A) 5 0 0 17 [(0, .ref (ad 71)), (1, .int x1), (3, .int x3), (4, .int x4)] [] σ := by
    intro  n
    induction n with
    | zero => intro x1 x3 x4 σ hf; exact absurd hf (by intro h9; cases h9)
    | succ n hk17 =>
      intro x1 x3 x4 σ hf H locs ls hP hD hS hl
      have hf : wf_M_costOf_17_b (wf_M_costOf_17 n) x1 x3 x4 σ = some res := hf
      unfold wf_M_costOf_17_b at hf
      refine lv_iload hx hb wd_M_costOf_17 (lv_at hl 3 rfl) ?_
      refine lv_bipush (v := 8) hx hb wd_M_costOf_19 (by decide) ?_
      refine lv_iload_n hx hb wd_M_costOf_21 rfl (lv_at hl 1 rfl) ?_
      refine lv_imul hx hb wd_M_costOf_22 ?_
      refine lv_topi (fun v3 ev3 => ?_)
      have hf := wc_st_e ev3 hf
      refine lv_aload_n hx hb wd_M_costOf_23 rfl (lv_at hl 0 rfl) ?_
      refine wx_get (v := .ref (ad 78)) (C := "WidthCampaignsModel") (T := wx_TM) (N' := 29) hx hb hts wi_M hown hK hP 71 (by decide) rfl rfl 8 (by decide) wt_638 (fun _ h9 => h9) rfl wd_M_costOf_24 ?_
      refine lv_iload_n hx hb wd_M_costOf_27 rfl (lv_at hl 1 rfl) ?_
      obtain ⟨h4, hf⟩ := wc_gd_e hf
      refine wx_iald hx hb hK hP 78 (n := 2) (by decide) rfl (wc_in_e h4) wd_M_costOf_28 ?_
      refine lv_topi (fun v5 ev5 => ?_)
      have hf := wc_st_e ev5 hf
      refine lv_iadd hx hb wd_M_costOf_29 ?_
      refine lv_topi (fun v6 ev6 => ?_)
      have hf := wc_st_e ev6 hf
      refine lv_icmp_ge (tgt := 69) hx hb wd_M_costOf_30 (by decide) (fun c7 => ?_) (fun c7 => ?_)
      · have hf := wc_t c7 hf
        refine lv_aload_n hx hb wd_M_costOf_69 rfl (lv_at hl 0 rfl) ?_
        refine wx_get (v := .ref (ad 78)) (C := "WidthCampaignsModel") (T := wx_TM) (N' := 29) hx hb hts wi_M hown hK hP 71 (by decide) rfl rfl 8 (by decide) wt_638 (fun _ h9 => h9) rfl wd_M_costOf_70 ?_
        refine lv_iload_n hx hb wd_M_costOf_73 rfl (lv_at hl 1 rfl) ?_
        obtain ⟨h8, hf⟩ := wc_gd_e hf
        refine wx_iald hx hb hK hP 78 (n := 2) (by decide) rfl (wc_in_e h8) wd_M_costOf_74 ?_
        refine lv_topi (fun v9 ev9 => ?_)
        have hf := wc_st_e ev9 hf
        refine lv_if_ne (tgt := 82) hx hb wd_M_costOf_75 (by decide) (fun c10 => ?_) (fun c10 => ?_)
        · have hf := wc_f c10 hf
          refine lv_iconst (v := (-1)) hx hb wd_M_costOf_82 (by decide) ?_
          exact wx_iret hx hb hr hlocks hf hP hS wd_M_costOf_83
        · have hf := wc_t c10 hf
          refine lv_iconst (v := 0) hx hb wd_M_costOf_78 (by decide) ?_
          refine lv_goto (tgt := 83) hx hb wd_M_costOf_79 (by decide) ?_
          exact wx_iret hx hb hr hlocks hf hP hS wd_M_costOf_83
      · have hf := wc_f c7 hf
        refine lv_iload_n hx hb wd_M_costOf_33 rfl (lv_at hl 2 rfl) ?_
        refine lv_aload_n hx hb wd_M_costOf_34 rfl (lv_at hl 0 rfl) ?_
        refine wx_get (v := .ref (ad 79)) (C := "WidthCampaignsModel") (T := wx_TM) (N' := 29) hx hb hts wi_M hown hK hP 71 (by decide) rfl rfl 9 (by decide) wt_639 (fun _ h9 => h9) rfl wd_M_costOf_35 ?_
        refine lv_iload hx hb wd_M_costOf_38 (lv_at hl 3 rfl) ?_
        obtain ⟨h11, hf⟩ := wc_gd_e hf
        refine wx_iald hx hb hK hP 79 (n := 16) (by decide) rfl (wc_in_e h11) wd_M_costOf_40 ?_
        refine lv_topi (fun v12 ev12 => ?_)
        have hf := wc_st_e ev12 hf
        refine lv_icmp_lt (tgt := 63) hx hb wd_M_costOf_41 (by decide) (fun c13 => ?_) (fun c13 => ?_)
        · have hf := wc_t c13 hf
          exact J63 (wf_M_costOf_17 n) hk17 x1 x3 x4 σ hf _ _ _ hP hD hS (lv_sub hl [0, 1, 2, 3] rfl)
        · have hf := wc_f c13 hf
          refine lv_iload_n hx hb wd_M_costOf_44 rfl (lv_at hl 2 rfl) ?_
          refine lv_aload_n hx hb wd_M_costOf_45 rfl (lv_at hl 0 rfl) ?_
          refine wx_get (v := .ref (ad 80)) (C := "WidthCampaignsModel") (T := wx_TM) (N' := 29) hx hb hts wi_M hown hK hP 71 (by decide) rfl rfl 10 (by decide) wt_640 (fun _ h9 => h9) rfl wd_M_costOf_46 ?_
          refine lv_iload hx hb wd_M_costOf_49 (lv_at hl 3 rfl) ?_
          obtain ⟨h15, hf⟩ := wc_gd_e hf
          refine wx_iald hx hb hK hP 80 (n := 16) (by decide) rfl (wc_in_e h15) wd_M_costOf_51 ?_
          refine lv_topi (fun v16 ev16 => ?_)
          have hf := wc_st_e ev16 hf
          refine lv_icmp_gt (tgt := 63) hx hb wd_M_costOf_52 (by decide) (fun c17 => ?_) (fun c17 => ?_)
          · have hf := wc_t c17 hf
            exact J63 (wf_M_costOf_17 n) hk17 x1 x3 x4 σ hf _ _ _ hP hD hS (lv_sub hl [0, 1, 2, 3] rfl)
          · have hf := wc_f c17 hf
            refine lv_aload_n hx hb wd_M_costOf_55 rfl (lv_at hl 0 rfl) ?_
            refine wx_get (v := .ref (ad 81)) (C := "WidthCampaignsModel") (T := wx_TM) (N' := 29) hx hb hts wi_M hown hK hP 71 (by decide) rfl rfl 11 (by decide) wt_641 (fun _ h9 => h9) rfl wd_M_costOf_56 ?_
            refine lv_iload hx hb wd_M_costOf_59 (lv_at hl 3 rfl) ?_
            obtain ⟨h18, hf⟩ := wc_gd_e hf
            refine wx_iald hx hb hK hP 81 (n := 16) (by decide) rfl (wc_in_e h18) wd_M_costOf_61 ?_
            refine lv_topi (fun v19 ev19 => ?_)
            have hf := wc_st_e ev19 hf
            exact wx_iret hx hb hr hlocks hf hP hS wd_M_costOf_62
  have J10 : ∀ (x1 : Int32) (s0 : Int32) (σ : wc_S), wf_M_costOf_10 x1 s0 σ = some res → wx_Arr p l e ({ frames := 0, cells := 0, slots := 0, locals := 0 }) s m args below meth c D ad cI cZ cJ cG A (MQ below (wx_Qi D ad cI cZ cJ cG res A) args s 0 0 A) 5 0 0 10 [(0, .ref (ad 71)), (1, .int x1)] [.int s0] σ := by
    intro  x1 s0 σ hf H locs ls hP hD hS hl
    unfold wf_M_costOf_10 at hf
    refine lv_istore_n (lv' := [(3, .int s0), (0, .ref (ad 71)), (1, .int x1)]) hx hb wd_M_costOf_10 rfl hl (by decide) rfl (fun ls hl => ?_)
    refine lv_bipush (v := 8) hx hb wd_M_costOf_11 (by decide) ?_
    refine lv_iload_n hx hb wd_M_costOf_13 rfl (lv_at hl 2 rfl) ?_
    refine lv_imul hx hb wd_M_costOf_14 ?_
    refine lv_topi (fun v2 ev2 => ?_)
    have hf := wc_st_e ev2 hf
    refine lv_istore (lv' := [(4, .int v2), (3, .int s0), (0, .ref (ad 71)), (1, .int x1)]) hx hb wd_M_costOf_15 hl (by decide) rfl (fun ls hl => ?_)
    exact J17 16 x1 s0 v2 σ hf _ _ _ hP hD hS (lv_sub hl [2, 3, 1, 0] rfl)
  unfold wf_M_costOf at hf
  refine lv_iload_n hx hb wd_M_costOf_0 rfl (lv_at hl 2 rfl) ?_
  refine lv_if_ge (tgt := 9) hx hb wd_M_costOf_1 (by decide) (fun c1 => ?_) (fun c1 => ?_)
  · have hf := wc_t c1 hf
    refine lv_iload_n hx hb wd_M_costOf_9 rfl (lv_at hl 2 rfl) ?_
    exact J10 a1 a2 σ hf _ _ _ hP hD hS (lv_sub hl [0, 1] rfl)
  · have hf := wc_f c1 hf
    refine lv_iload_n hx hb wd_M_costOf_4 rfl (lv_at hl 2 rfl) ?_
    refine lv_ineg hx hb wd_M_costOf_5 ?_
    refine lv_topi (fun v20 ev20 => ?_)
    have hf := wc_st_e ev20 hf
    refine lv_goto (tgt := 10) hx hb wd_M_costOf_6 (by decide) ?_
    exact J10 a1 v20 σ hf _ _ _ hP hD hS (lv_sub hl [0, 1] rfl)
set_option maxHeartbeats 4000000 in
set_option maxRecDepth 100000 in
theorem wm_M_jumpOf (l : Launch) (D : va_G) (ad : Nat → Nat) (cI cZ cJ cG : ClassId) (sz : Nat) (a1 : Int32) (a2 : Int32) (σ : wc_S) (res : Int32 × wc_S) (hf : wf_M_jumpOf a1 a2 σ = some res) : Met l wy_M_jumpOf (wx_ws_M_jumpOf) ({ frames := 1, cells := 0, slots := 0, locals := 24 }) (va_Pc [.ref (ad 71), .int a1, .int a2] (wx_pre D ad cI cZ cJ cG σ sz)) (wx_Qi D ad cI cZ cJ cG res (va_A (wx_W ad cI cZ cJ cG σ) sz)) 0 0 (va_A (wx_W ad cI cZ cJ cG σ) sz) := by
  refine wx_ofW (cc := prog_8_method_14_code) (maxL := 5) (ret := (some .int)) (Qc := fun A => wx_Qi D ad cI cZ cJ cG res A) [.ref (ad 71), .int a1, .int a2] (by decide) rfl (Nat.le_of_ble_eq_true rfl) ?_
  intro p e s m args below meth c A ls hin hl
  obtain ⟨hx, hb, hr, hts, hown, hlocks, hml, hA, hP, hK, hD, hC, hN, hS⟩ := hin
  have hl : lv_has ls 5 [(0, .ref (ad 71)), (1, .int a1), (2, .int a2)] := hl
  unfold wf_M_jumpOf at hf
  refine lv_aload_n hx hb wd_M_jumpOf_0 rfl (lv_at hl 0 rfl) ?_
  refine lv_iconst (v := 0) hx hb wd_M_jumpOf_1 (by decide) ?_
  refine lv_aload_n hx hb wd_M_jumpOf_2 rfl (lv_at hl 0 rfl) ?_
  refine wx_get (v := .ref (ad 74)) (C := "WidthCampaignsModel") (T := wx_TM) (N' := 29) hx hb hts wi_M hown hK hP 71 (by decide) rfl rfl 4 (by decide) wt_634 (fun _ h9 => h9) rfl wd_M_jumpOf_3 ?_
  refine lv_iload_n hx hb wd_M_jumpOf_6 rfl (lv_at hl 2 rfl) ?_
  obtain ⟨h1, hf⟩ := wc_gd_e hf
  refine wx_iald hx hb hK hP 74 (n := 9) (by decide) rfl (wc_in_e h1) wd_M_jumpOf_7 ?_
  refine lv_topi (fun v2 ev2 => ?_)
  have hf := wc_st_e ev2 hf
  refine lv_aload_n hx hb wd_M_jumpOf_8 rfl (lv_at hl 0 rfl) ?_
  refine wx_get (v := .ref (ad 74)) (C := "WidthCampaignsModel") (T := wx_TM) (N' := 29) hx hb hts wi_M hown hK hP 71 (by decide) rfl rfl 4 (by decide) wt_634 (fun _ h9 => h9) rfl wd_M_jumpOf_9 ?_
  refine lv_iload_n hx hb wd_M_jumpOf_12 rfl (lv_at hl 1 rfl) ?_
  obtain ⟨h3, hf⟩ := wc_gd_e hf
  refine wx_iald hx hb hK hP 74 (n := 9) (by decide) rfl (wc_in_e h3) wd_M_jumpOf_13 ?_
  refine lv_topi (fun v4 ev4 => ?_)
  have hf := wc_st_e ev4 hf
  refine lv_isub hx hb wd_M_jumpOf_14 ?_
  refine lv_topi (fun v5 ev5 => ?_)
  have hf := wc_st_e ev5 hf
  obtain ⟨r7, σ6, hq, hf⟩ := wc_b2_e hf
  refine wx_calli (va_runV (As := [.int 0, .int v5]) (rest := []) ⟨hx, hb, hml, hown, hts⟩ (wm_M_costOf l D ad cI cZ cJ cG _ 0 v5 σ _ hq) (wx_cwV 2 hts wt_781 wt_780 wp_38 wt_7 wt_778 wh_M_costOf rfl rfl ⟨Nat.le_of_ble_eq_true rfl, Nat.le_of_ble_eq_true rfl⟩) (wx_preV hK hP hD hS hA hC (by decide) rfl rfl) rfl rfl hl.1 rfl (lv_room (Nat.le_of_ble_eq_true rfl)) wd_M_jumpOf_15 ⟨Nat.le_of_ble_eq_true rfl, Nat.le_of_ble_eq_true rfl⟩) hD hS hA (fun H locs hP hD hS => ?_)
  refine lv_istore_n (lv' := [(3, .int r7), (0, .ref (ad 71)), (1, .int a1), (2, .int a2)]) hx hb wd_M_jumpOf_18 rfl hl (by decide) rfl (fun ls hl => ?_)
  refine lv_aload_n hx hb wd_M_jumpOf_19 rfl (lv_at hl 1 rfl) ?_
  refine lv_iconst (v := 1) hx hb wd_M_jumpOf_20 (by decide) ?_
  refine lv_aload_n hx hb wd_M_jumpOf_21 rfl (lv_at hl 1 rfl) ?_
  refine wx_get (v := .ref (ad 73)) (C := "WidthCampaignsModel") (T := wx_TM) (N' := 29) hx hb hts wi_M hown hK hP 71 (by decide) rfl rfl 3 (by decide) wt_633 (fun _ h9 => h9) rfl wd_M_jumpOf_22 ?_
  refine lv_iload_n hx hb wd_M_jumpOf_25 rfl (lv_at hl 3 rfl) ?_
  obtain ⟨h8, hf⟩ := wc_gd_e hf
  refine wx_iald hx hb hK hP 73 (n := 9) (by decide) rfl (wc_in_e h8) wd_M_jumpOf_26 ?_
  refine lv_topi (fun v9 ev9 => ?_)
  have hf := wc_st_e ev9 hf
  refine lv_aload_n hx hb wd_M_jumpOf_27 rfl (lv_at hl 1 rfl) ?_
  refine wx_get (v := .ref (ad 73)) (C := "WidthCampaignsModel") (T := wx_TM) (N' := 29) hx hb hts wi_M hown hK hP 71 (by decide) rfl rfl 3 (by decide) wt_633 (fun _ h9 => h9) rfl wd_M_jumpOf_28 ?_
  refine lv_iload_n hx hb wd_M_jumpOf_31 rfl (lv_at hl 2 rfl) ?_
  obtain ⟨h10, hf⟩ := wc_gd_e hf
  refine wx_iald hx hb hK hP 73 (n := 9) (by decide) rfl (wc_in_e h10) wd_M_jumpOf_32 ?_
  refine lv_topi (fun v11 ev11 => ?_)
  have hf := wc_st_e ev11 hf
  refine lv_isub hx hb wd_M_jumpOf_33 ?_
  refine lv_topi (fun v12 ev12 => ?_)
  have hf := wc_st_e ev12 hf
  obtain ⟨r14, σ13, hq, hf⟩ := wc_b2_e hf
  refine wx_calli (va_runV (As := [.int 1, .int v12]) (rest := []) ⟨hx, hb, hml, hown, hts⟩ (wm_M_costOf l D ad cI cZ cJ cG _ 1 v12 σ6 _ hq) (wx_cwV 2 hts wt_781 wt_780 wp_38 wt_7 wt_778 wh_M_costOf rfl rfl ⟨Nat.le_of_ble_eq_true rfl, Nat.le_of_ble_eq_true rfl⟩) (wx_preV hK hP hD hS hA hC (by decide) rfl rfl) rfl rfl hl.1 rfl (lv_room (Nat.le_of_ble_eq_true rfl)) wd_M_jumpOf_34 ⟨Nat.le_of_ble_eq_true rfl, Nat.le_of_ble_eq_true rfl⟩) hD hS hA (fun H locs hP hD hS => ?_)
  refine lv_istore (lv' := [(4, .int r14), (3, .int r7), (0, .ref (ad 71)), (1, .int a1), (2, .int a2)]) hx hb wd_M_jumpOf_37 hl (by decide) rfl (fun ls hl => ?_)
  refine lv_iload_n hx hb wd_M_jumpOf_39 rfl (lv_at hl 1 rfl) ?_
  refine lv_if_lt (tgt := 48) hx hb wd_M_jumpOf_40 (by decide) (fun c15 => ?_) (fun c15 => ?_)
  · have hf := wc_t c15 hf
    refine lv_iconst (v := (-1)) hx hb wd_M_jumpOf_48 (by decide) ?_
    refine lv_goto (tgt := 56) hx hb wd_M_jumpOf_49 (by decide) ?_
    exact wx_iret hx hb hr hlocks hf hP hS wd_M_jumpOf_56
  · have hf := wc_f c15 hf
    refine lv_iload hx hb wd_M_jumpOf_43 (lv_at hl 0 rfl) ?_
    refine lv_if_ge (tgt := 52) hx hb wd_M_jumpOf_45 (by decide) (fun c16 => ?_) (fun c16 => ?_)
    · have hf := wc_t c16 hf
      refine lv_iload_n hx hb wd_M_jumpOf_52 rfl (lv_at hl 1 rfl) ?_
      refine lv_iload hx hb wd_M_jumpOf_53 (lv_at hl 0 rfl) ?_
      refine lv_iadd hx hb wd_M_jumpOf_55 ?_
      refine lv_topi (fun v17 ev17 => ?_)
      have hf := wc_st_e ev17 hf
      exact wx_iret hx hb hr hlocks hf hP hS wd_M_jumpOf_56
    · have hf := wc_f c16 hf
      refine lv_iconst (v := (-1)) hx hb wd_M_jumpOf_48 (by decide) ?_
      refine lv_goto (tgt := 56) hx hb wd_M_jumpOf_49 (by decide) ?_
      exact wx_iret hx hb hr hlocks hf hP hS wd_M_jumpOf_56
set_option maxHeartbeats 4000000 in
set_option maxRecDepth 100000 in
theorem wm_M_mayBe (l : Launch) (D : va_G) (ad : Nat → Nat) (cI cZ cJ cG : ClassId) (sz : Nat) (k1 : Nat) (hk1_ : k1 = 85 ∨ k1 = 86) (a2 : Int32) (σ : wc_S) (res : Int32 × wc_S) (hf : wf_M_mayBe k1 a2 σ = some res) : Met l wy_M_mayBe (wx_ws_M_mayBe) ({ frames := 2, cells := 0, slots := 0, locals := 48 }) (va_Pc [.ref (ad 71), .ref (ad k1), .int a2] (wx_pre D ad cI cZ cJ cG σ sz)) (wx_Qi D ad cI cZ cJ cG res (va_A (wx_W ad cI cZ cJ cG σ) sz)) 0 0 (va_A (wx_W ad cI cZ cJ cG σ) sz) := by
  refine wx_ofW (cc := prog_8_method_15_code) (maxL := 5) (ret := (some .boolean)) (Qc := fun A => wx_Qi D ad cI cZ cJ cG res A) [.ref (ad 71), .ref (ad k1), .int a2] (by decide) rfl (Nat.le_of_ble_eq_true rfl) ?_
  intro p e s m args below meth c A ls hin hl
  obtain ⟨hx, hb, hr, hts, hown, hlocks, hml, hA, hP, hK, hD, hC, hN, hS⟩ := hin
  have hl : lv_has ls 5 [(0, .ref (ad 71)), (1, .ref (ad k1)), (2, .int a2)] := hl
  unfold wf_M_mayBe at hf
  refine lv_aload_n hx hb wd_M_mayBe_0 rfl (lv_at hl 1 rfl) ?_
  refine lv_iload_n hx hb wd_M_mayBe_1 rfl (lv_at hl 2 rfl) ?_
  obtain ⟨h1, hf⟩ := wc_gd_e hf
  refine wx_iald hx hb hK hP k1 (n := 9) (wx_Ml hk1_) (wx_M hk1_ _) (wc_in_e h1) wd_M_mayBe_2 ?_
  refine lv_topi (fun v2 ev2 => ?_)
  have hf := wc_st_e ev2 hf
  refine lv_istore_n (lv' := [(3, .int v2), (0, .ref (ad 71)), (1, .ref (ad k1)), (2, .int a2)]) hx hb wd_M_mayBe_3 rfl hl (by decide) rfl (fun ls hl => ?_)
  refine lv_iload_n hx hb wd_M_mayBe_4 rfl (lv_at hl 3 rfl) ?_
  refine lv_aload_n hx hb wd_M_mayBe_5 rfl (lv_at hl 1 rfl) ?_
  refine wx_get (v := .ref (ad 76)) (C := "WidthCampaignsModel") (T := wx_TM) (N' := 29) hx hb hts wi_M hown hK hP 71 (by decide) rfl rfl 6 (by decide) wt_636 (fun _ h9 => h9) rfl wd_M_mayBe_6 ?_
  refine lv_iload_n hx hb wd_M_mayBe_9 rfl (lv_at hl 0 rfl) ?_
  obtain ⟨h3, hf⟩ := wc_gd_e hf
  refine wx_iald hx hb hK hP 76 (n := 9) (by decide) rfl (wc_in_e h3) wd_M_mayBe_10 ?_
  refine lv_topi (fun v4 ev4 => ?_)
  have hf := wc_st_e ev4 hf
  refine lv_icmp_le (tgt := 16) hx hb wd_M_mayBe_11 (by decide) (fun c5 => ?_) (fun c5 => ?_)
  · have hf := wc_t c5 hf
    refine lv_iload_n hx hb wd_M_mayBe_16 rfl (lv_at hl 3 rfl) ?_
    refine lv_if_ne (tgt := 22) hx hb wd_M_mayBe_17 (by decide) (fun c6 => ?_) (fun c6 => ?_)
    · have hf := wc_f c6 hf
      refine lv_aload_n hx hb wd_M_mayBe_22 rfl (lv_at hl 2 rfl) ?_
      refine lv_iload_n hx hb wd_M_mayBe_23 rfl (lv_at hl 3 rfl) ?_
      refine lv_iconst (v := 1) hx hb wd_M_mayBe_24 (by decide) ?_
      refine lv_isub hx hb wd_M_mayBe_25 ?_
      refine lv_topi (fun v7 ev7 => ?_)
      have hf := wc_st_e ev7 hf
      obtain ⟨h8, hf⟩ := wc_gd_e hf
      refine wx_iald hx hb hK hP k1 (n := 9) (wx_Ml hk1_) (wx_M hk1_ _) (wc_in_e h8) wd_M_mayBe_26 ?_
      refine lv_topi (fun v9 ev9 => ?_)
      have hf := wc_st_e ev9 hf
      refine lv_istore (lv' := [(4, .int v9), (3, .int v2), (0, .ref (ad 71)), (1, .ref (ad k1)), (2, .int a2)]) hx hb wd_M_mayBe_27 hl (by decide) rfl (fun ls hl => ?_)
      refine lv_aload_n hx hb wd_M_mayBe_29 rfl (lv_at hl 2 rfl) ?_
      refine lv_iload hx hb wd_M_mayBe_30 (lv_at hl 0 rfl) ?_
      refine lv_iload_n hx hb wd_M_mayBe_32 rfl (lv_at hl 1 rfl) ?_
      obtain ⟨r11, σ10, hq, hf⟩ := wc_b2_e hf
      refine wx_calli (va_runV (As := [.int v9, .int v2]) (rest := []) ⟨hx, hb, hml, hown, hts⟩ (wm_M_jumpOf l D ad cI cZ cJ cG _ v9 v2 σ _ hq) (wx_cwV 2 hts wt_777 wt_776 wp_37 wt_7 wt_774 wh_M_jumpOf rfl rfl ⟨Nat.le_of_ble_eq_true rfl, Nat.le_of_ble_eq_true rfl⟩) (wx_preV hK hP hD hS hA hC (by decide) rfl rfl) rfl rfl hl.1 rfl (lv_room (Nat.le_of_ble_eq_true rfl)) wd_M_mayBe_33 ⟨Nat.le_of_ble_eq_true rfl, Nat.le_of_ble_eq_true rfl⟩) hD hS hA (fun H locs hP hD hS => ?_)
      refine lv_if_ge (tgt := 41) hx hb wd_M_mayBe_36 (by decide) (fun c12 => ?_) (fun c12 => ?_)
      · have hf := wc_t c12 hf
        refine lv_iload_n hx hb wd_M_mayBe_41 rfl (lv_at hl 4 rfl) ?_
        refine lv_aload_n hx hb wd_M_mayBe_42 rfl (lv_at hl 2 rfl) ?_
        refine wx_get (v := .int (σ10 71 16)) (C := "WidthCampaignsModel") (T := wx_TM) (N' := 29) hx hb hts wi_M hown hK hP 71 (by decide) rfl rfl 16 (by decide) wt_646 (fun _ h9 => h9) rfl wd_M_mayBe_43 ?_
        refine lv_topi (fun v13 ev13 => ?_)
        have hf := wc_st_e ev13 hf
        refine lv_icmp_ge (tgt := 73) hx hb wd_M_mayBe_46 (by decide) (fun c14 => ?_) (fun c14 => ?_)
        · have hf := wc_t c14 hf
          refine lv_aload_n hx hb wd_M_mayBe_73 rfl (lv_at hl 2 rfl) ?_
          refine wx_get (v := .ref (ad 72)) (C := "WidthCampaignsModel") (T := wx_TM) (N' := 29) hx hb hts wi_M hown hK hP 71 (by decide) rfl rfl 2 (by decide) wt_632 (fun _ h9 => h9) rfl wd_M_mayBe_74 ?_
          refine lv_iload_n hx hb wd_M_mayBe_77 rfl (lv_at hl 1 rfl) ?_
          obtain ⟨h15, hf⟩ := wc_gd_e hf
          refine wx_iald hx hb hK hP 72 (n := 9) (by decide) rfl (wc_in_e h15) wd_M_mayBe_78 ?_
          refine lv_topi (fun v16 ev16 => ?_)
          have hf := wc_st_e ev16 hf
          refine lv_aload_n hx hb wd_M_mayBe_79 rfl (lv_at hl 2 rfl) ?_
          refine wx_get (v := .ref (ad 72)) (C := "WidthCampaignsModel") (T := wx_TM) (N' := 29) hx hb hts wi_M hown hK hP 71 (by decide) rfl rfl 2 (by decide) wt_632 (fun _ h9 => h9) rfl wd_M_mayBe_80 ?_
          refine lv_iload hx hb wd_M_mayBe_83 (lv_at hl 0 rfl) ?_
          obtain ⟨h17, hf⟩ := wc_gd_e hf
          refine wx_iald hx hb hK hP 72 (n := 9) (by decide) rfl (wc_in_e h17) wd_M_mayBe_85 ?_
          refine lv_topi (fun v18 ev18 => ?_)
          have hf := wc_st_e ev18 hf
          refine lv_icmp_gt (tgt := 93) hx hb wd_M_mayBe_86 (by decide) (fun c19 => ?_) (fun c19 => ?_)
          · have hf := wc_t c19 hf
            refine lv_iconst (v := 0) hx hb wd_M_mayBe_93 (by decide) ?_
            exact wx_zret hx hb hr narrow_b0 hlocks hf hP hS wd_M_mayBe_94
          · have hf := wc_f c19 hf
            refine lv_iconst (v := 1) hx hb wd_M_mayBe_89 (by decide) ?_
            refine lv_goto (tgt := 94) hx hb wd_M_mayBe_90 (by decide) ?_
            exact wx_zret hx hb hr narrow_b1 hlocks hf hP hS wd_M_mayBe_94
        · have hf := wc_f c14 hf
          refine lv_aload_n hx hb wd_M_mayBe_49 rfl (lv_at hl 2 rfl) ?_
          refine wx_get (v := .ref (ad 72)) (C := "WidthCampaignsModel") (T := wx_TM) (N' := 29) hx hb hts wi_M hown hK hP 71 (by decide) rfl rfl 2 (by decide) wt_632 (fun _ h9 => h9) rfl wd_M_mayBe_50 ?_
          refine lv_iload_n hx hb wd_M_mayBe_53 rfl (lv_at hl 1 rfl) ?_
          obtain ⟨h20, hf⟩ := wc_gd_e hf
          refine wx_iald hx hb hK hP 72 (n := 9) (by decide) rfl (wc_in_e h20) wd_M_mayBe_54 ?_
          refine lv_topi (fun v21 ev21 => ?_)
          have hf := wc_st_e ev21 hf
          refine lv_aload_n hx hb wd_M_mayBe_55 rfl (lv_at hl 2 rfl) ?_
          refine wx_get (v := .ref (ad 72)) (C := "WidthCampaignsModel") (T := wx_TM) (N' := 29) hx hb hts wi_M hown hK hP 71 (by decide) rfl rfl 2 (by decide) wt_632 (fun _ h9 => h9) rfl wd_M_mayBe_56 ?_
          refine lv_iload hx hb wd_M_mayBe_59 (lv_at hl 0 rfl) ?_
          obtain ⟨h22, hf⟩ := wc_gd_e hf
          refine wx_iald hx hb hK hP 72 (n := 9) (by decide) rfl (wc_in_e h22) wd_M_mayBe_61 ?_
          refine lv_topi (fun v23 ev23 => ?_)
          have hf := wc_st_e ev23 hf
          refine lv_icmp_lt (tgt := 69) hx hb wd_M_mayBe_62 (by decide) (fun c24 => ?_) (fun c24 => ?_)
          · have hf := wc_t c24 hf
            refine lv_iconst (v := 0) hx hb wd_M_mayBe_69 (by decide) ?_
            refine lv_goto (tgt := 94) hx hb wd_M_mayBe_70 (by decide) ?_
            exact wx_zret hx hb hr narrow_b0 hlocks hf hP hS wd_M_mayBe_94
          · have hf := wc_f c24 hf
            refine lv_iconst (v := 1) hx hb wd_M_mayBe_65 (by decide) ?_
            refine lv_goto (tgt := 94) hx hb wd_M_mayBe_66 (by decide) ?_
            exact wx_zret hx hb hr narrow_b1 hlocks hf hP hS wd_M_mayBe_94
      · have hf := wc_f c12 hf
        refine lv_iconst (v := 0) hx hb wd_M_mayBe_39 (by decide) ?_
        exact wx_zret hx hb hr narrow_b0 hlocks hf hP hS wd_M_mayBe_40
    · have hf := wc_t c6 hf
      refine lv_iconst (v := 1) hx hb wd_M_mayBe_20 (by decide) ?_
      exact wx_zret hx hb hr narrow_b1 hlocks hf hP hS wd_M_mayBe_21
  · have hf := wc_f c5 hf
    refine lv_iconst (v := 0) hx hb wd_M_mayBe_14 (by decide) ?_
    exact wx_zret hx hb hr narrow_b0 hlocks hf hP hS wd_M_mayBe_15
set_option maxHeartbeats 4000000 in
set_option maxRecDepth 100000 in
theorem wm_M_isWorn (l : Launch) (D : va_G) (ad : Nat → Nat) (cI cZ cJ cG : ClassId) (sz : Nat) (k1 : Nat) (hk1_ : k1 = 85 ∨ k1 = 86) (a2 : Int32) (a3 : Int32) (σ : wc_S) (res : Int32 × wc_S) (hf : wf_M_isWorn k1 a2 a3 σ = some res) : Met l wy_M_isWorn (wx_ws_M_isWorn) ({ frames := 0, cells := 0, slots := 0, locals := 0 }) (va_Pc [.ref (ad 71), .ref (ad k1), .int a2, .int a3] (wx_pre D ad cI cZ cJ cG σ sz)) (wx_Qi D ad cI cZ cJ cG res (va_A (wx_W ad cI cZ cJ cG σ) sz)) 0 0 (va_A (wx_W ad cI cZ cJ cG σ) sz) := by
  refine wx_ofW (cc := prog_8_method_17_code) (maxL := 9) (ret := (some .boolean)) (Qc := fun A => wx_Qi D ad cI cZ cJ cG res A) [.ref (ad 71), .ref (ad k1), .int a2, .int a3] (by decide) rfl (Nat.le_of_ble_eq_true rfl) ?_
  intro p e s m args below meth c A ls hin hl
  obtain ⟨hx, hb, hr, hts, hown, hlocks, hml, hA, hP, hK, hD, hC, hN, hS⟩ := hin
  have hl : lv_has ls 9 [(0, .ref (ad 71)), (1, .ref (ad k1)), (2, .int a2), (3, .int a3)] := hl
  have J187 : ∀ (k46 : Int32 → Int32 → Int32 → wc_S → Option (Int32 × wc_S)) (hk46 : (∀ (x2 : Int32) (x3 : Int32) (x5 : Int32) (σ : wc_S), k46 x2 x3 x5 σ = some res → wx_Arr p l e ({ frames := 0, cells := 0, slots := 0, locals := 0 }) s m args below meth c D ad cI cZ cJ cG A (MQ below (wx_Qi D ad cI cZ cJ cG res A) args s 0 0 A) 9 0 0 46 [(0, .ref (ad 71)), (1, .ref (ad k1)), (2, .int x2), (3, .int x3), (5, .int x5)] [] σ)) (x2 : Int32) (x3 : Int32) (x5 : Int32) (σ : wc_S), wf_M_isWorn_187 k1 k46 x2 x3 x5 σ = some res → wx_Arr p l e ({ frames := 0, cells := 0, slots := 0, locals := 0 }) s m args below meth c D ad cI cZ cJ cG A (MQ below (wx_Qi D ad cI cZ cJ cG res A) args s 0 0 A) 9 0 0 187 [(0, .ref (ad 71)), (1, .ref (ad k1)), (2, .int x2), (3, .int x3), (5, .int x5)] [] σ := by
    intro k46 hk46 x2 x3 x5 σ hf H locs ls hP hD hS hl
    unfold wf_M_isWorn_187 at hf
    obtain ⟨v15, ev15⟩ : ∃ y : Int32, y = x5 + 1 := ⟨_, rfl⟩
    have hf := wc_st_e ev15 hf
    refine lv_iinc (v := v15) (lv' := [(5, .int v15), (0, .ref (ad 71)), (1, .ref (ad k1)), (2, .int x2), (3, .int x3)]) hx hb wd_M_isWorn_187 hl (k := 4) rfl (by rw [ev15]; rfl) (by decide) rfl (fun ls hl => ?_)
    refine lv_goto (tgt := 46) hx hb wd_M_isWorn_190 (by decide) ?_
    exact hk46 x2 x3 v15 σ hf _ _ _ hP hD hS (lv_sub hl [1, 2, 3, 4, 0] rfl)
  have J162 : ∀ (k46 : Int32 → Int32 → Int32 → wc_S → Option (Int32 × wc_S)) (hk46 : (∀ (x2 : Int32) (x3 : Int32) (x5 : Int32) (σ : wc_S), k46 x2 x3 x5 σ = some res → wx_Arr p l e ({ frames := 0, cells := 0, slots := 0, locals := 0 }) s m args below meth c D ad cI cZ cJ cG A (MQ below (wx_Qi D ad cI cZ cJ cG res A) args s 0 0 A) 9 0 0 46 [(0, .ref (ad 71)), (1, .ref (ad k1)), (2, .int x2), (3, .int x3), (5, .int x5)] [] σ)) (k104 : Int32 → Int32 → Int32 → Int32 → Int32 → Int32 → wc_S → Option (Int32 × wc_S)) (hk104 : (∀ (x2 : Int32) (x3 : Int32) (x5 : Int32) (x6 : Int32) (x7 : Int32) (x8 : Int32) (σ : wc_S), k104 x2 x3 x5 x6 x7 x8 σ = some res → wx_Arr p l e ({ frames := 0, cells := 0, slots := 0, locals := 0 }) s m args below meth c D ad cI cZ cJ cG A (MQ below (wx_Qi D ad cI cZ cJ cG res A) args s 0 0 A) 9 0 0 104 [(0, .ref (ad 71)), (1, .ref (ad k1)), (2, .int x2), (3, .int x3), (5, .int x5), (6, .int x6), (7, .int x7), (8, .int x8)] [] σ)) (x2 : Int32) (x3 : Int32) (x5 : Int32) (x6 : Int32) (x7 : Int32) (x8 : Int32) (σ : wc_S), wf_M_isWorn_162 k1 k46 k104 x2 x3 x5 x6 x7 x8 σ = some res → wx_Arr p l e ({ frames := 0, cells := 0, slots := 0, locals := 0 }) s m args below meth c D ad cI cZ cJ cG A (MQ below (wx_Qi D ad cI cZ cJ cG res A) args s 0 0 A) 9 0 0 162 [(0, .ref (ad 71)), (1, .ref (ad k1)), (2, .int x2), (3, .int x3), (5, .int x5), (6, .int x6), (7, .int x7), (8, .int x8)] [] σ := by
    intro k46 hk46 k104 hk104 x2 x3 x5 x6 x7 x8 σ hf H locs ls hP hD hS hl
    unfold wf_M_isWorn_162 at hf
    obtain ⟨v26, ev26⟩ : ∃ y : Int32, y = x8 + 1 := ⟨_, rfl⟩
    have hf := wc_st_e ev26 hf
    refine lv_iinc (v := v26) (lv' := [(8, .int v26), (0, .ref (ad 71)), (1, .ref (ad k1)), (2, .int x2), (3, .int x3), (5, .int x5), (6, .int x6), (7, .int x7)]) hx hb wd_M_isWorn_162 hl (k := 7) rfl (by rw [ev26]; rfl) (by decide) rfl (fun ls hl => ?_)
    refine lv_goto (tgt := 104) hx hb wd_M_isWorn_165 (by decide) ?_
    exact hk104 x2 x3 x5 x6 x7 v26 σ hf _ _ _ hP hD hS (lv_sub hl [1, 2, 3, 4, 5, 6, 7, 0] rfl)
  have J104 : ∀ (k46 : Int32 → Int32 → Int32 → wc_S → Option (Int32 × wc_S)) (hk46 : (∀ (x2 : Int32) (x3 : Int32) (x5 : Int32) (σ : wc_S), k46 x2 x3 x5 σ = some res → wx_Arr p l e ({ frames := 0, cells := 0, slots := 0, locals := 0 }) s m args below meth c D ad cI cZ cJ cG A (MQ below (wx_Qi D ad cI cZ cJ cG res A) args s 0 0 A) 9 0 0 46 [(0, .ref (ad 71)), (1, .ref (ad k1)), (2, .int x2), (3, .int x3), (5, .int x5)] [] σ)) (n : Nat) (x2 : Int32) (x3 : Int32) (x5 : Int32) (x6 : Int32) (x7 : Int32) (x8 : Int32) (σ : wc_S), wf_M_isWorn_104 k1 k46 n x2 x3 x5 x6 x7 x8 σ = some res → wx_Arr p l e ({ frames := 0, cells := 0, slots := 0, locals := 0 }) s m args below meth c D ad cI cZ cJ cG A (MQ below (wx_Qi D ad cI cZ cJ cG res A) args s 0 0 A) 9 0 0 104 [(0, .ref (ad 71)), (1, .ref (ad k1)), (2, .int x2), (3, .int x3), (5, .int x5), (6, .int x6), (7, .int x7), (8, .int x8)] [] σ := by
    intro k46 hk46 n
    induction n with
    | zero => intro x2 x3 x5 x6 x7 x8 σ hf; exact absurd hf (by intro h9; cases h9)
    | succ n hk104 =>
      intro x2 x3 x5 x6 x7 x8 σ hf H locs ls hP hD hS hl
      have hf : wf_M_isWorn_104_b k1 k46 (wf_M_isWorn_104 k1 k46 n) x2 x3 x5 x6 x7 x8 σ = some res := hf
      unfold wf_M_isWorn_104_b at hf
      refine lv_iload hx hb wd_M_isWorn_104 (lv_at hl 7 rfl) ?_
      refine lv_iload_n hx hb wd_M_isWorn_106 rfl (lv_at hl 3 rfl) ?_
      refine lv_icmp_gt (tgt := 168) hx hb wd_M_isWorn_107 (by decide) (fun c13 => ?_) (fun c13 => ?_)
      · have hf := wc_t c13 hf
        refine lv_iload hx hb wd_M_isWorn_168 (lv_at hl 5 rfl) ?_
        refine lv_if_eq (tgt := 187) hx hb wd_M_isWorn_170 (by decide) (fun c14 => ?_) (fun c14 => ?_)
        · have hf := wc_t c14 hf
          exact J187 k46 hk46 x2 x3 x5 σ hf _ _ _ hP hD hS (lv_sub hl [0, 1, 2, 3, 4] rfl)
        · have hf := wc_f c14 hf
          refine lv_iload hx hb wd_M_isWorn_173 (lv_at hl 6 rfl) ?_
          refine lv_aload_n hx hb wd_M_isWorn_175 rfl (lv_at hl 0 rfl) ?_
          refine wx_get (v := .ref (ad 84)) (C := "WidthCampaignsModel") (T := wx_TM) (N' := 29) hx hb hts wi_M hown hK hP 71 (by decide) rfl rfl 15 (by decide) wt_645 (fun _ h9 => h9) rfl wd_M_isWorn_176 ?_
          refine lv_iload hx hb wd_M_isWorn_179 (lv_at hl 4 rfl) ?_
          obtain ⟨h16, hf⟩ := wc_gd_e hf
          refine wx_iald hx hb hK hP 84 (n := 4) (by decide) rfl (wc_in_e h16) wd_M_isWorn_181 ?_
          refine lv_topi (fun v17 ev17 => ?_)
          have hf := wc_st_e ev17 hf
          refine lv_icmp_le (tgt := 187) hx hb wd_M_isWorn_182 (by decide) (fun c18 => ?_) (fun c18 => ?_)
          · have hf := wc_t c18 hf
            exact J187 k46 hk46 x2 x3 x5 σ hf _ _ _ hP hD hS (lv_sub hl [0, 1, 2, 3, 4] rfl)
          · have hf := wc_f c18 hf
            refine lv_iconst (v := 1) hx hb wd_M_isWorn_185 (by decide) ?_
            exact wx_zret hx hb hr narrow_b1 hlocks hf hP hS wd_M_isWorn_186
      · have hf := wc_f c13 hf
        refine lv_aload_n hx hb wd_M_isWorn_110 rfl (lv_at hl 0 rfl) ?_
        refine wx_get (v := .ref (ad 72)) (C := "WidthCampaignsModel") (T := wx_TM) (N' := 29) hx hb hts wi_M hown hK hP 71 (by decide) rfl rfl 2 (by decide) wt_632 (fun _ h9 => h9) rfl wd_M_isWorn_111 ?_
        refine lv_aload_n hx hb wd_M_isWorn_114 rfl (lv_at hl 1 rfl) ?_
        refine lv_iload hx hb wd_M_isWorn_115 (lv_at hl 7 rfl) ?_
        obtain ⟨h19, hf⟩ := wc_gd_e hf
        refine wx_iald hx hb hK hP k1 (n := 9) (wx_Ml hk1_) (wx_M hk1_ _) (wc_in_e h19) wd_M_isWorn_117 ?_
        refine lv_topi (fun v20 ev20 => ?_)
        have hf := wc_st_e ev20 hf
        obtain ⟨h21, hf⟩ := wc_gd_e hf
        refine wx_iald hx hb hK hP 72 (n := 9) (by decide) rfl (wc_in_e h21) wd_M_isWorn_118 ?_
        refine lv_topi (fun v22 ev22 => ?_)
        have hf := wc_st_e ev22 hf
        refine lv_aload_n hx hb wd_M_isWorn_119 rfl (lv_at hl 0 rfl) ?_
        refine wx_get (v := .ref (ad 82)) (C := "WidthCampaignsModel") (T := wx_TM) (N' := 29) hx hb hts wi_M hown hK hP 71 (by decide) rfl rfl 13 (by decide) wt_643 (fun _ h9 => h9) rfl wd_M_isWorn_120 ?_
        refine lv_iload hx hb wd_M_isWorn_123 (lv_at hl 4 rfl) ?_
        obtain ⟨h23, hf⟩ := wc_gd_e hf
        refine wx_iald hx hb hK hP 82 (n := 4) (by decide) rfl (wc_in_e h23) wd_M_isWorn_125 ?_
        refine lv_topi (fun v24 ev24 => ?_)
        have hf := wc_st_e ev24 hf
        refine lv_icmp_lt (tgt := 162) hx hb wd_M_isWorn_126 (by decide) (fun c25 => ?_) (fun c25 => ?_)
        · have hf := wc_t c25 hf
          exact J162 k46 hk46 (wf_M_isWorn_104 k1 k46 n) hk104 x2 x3 x5 x6 x7 x8 σ hf _ _ _ hP hD hS (lv_sub hl [0, 1, 2, 3, 4, 5, 6, 7] rfl)
        · have hf := wc_f c25 hf
          refine lv_aload_n hx hb wd_M_isWorn_129 rfl (lv_at hl 0 rfl) ?_
          refine wx_get (v := .ref (ad 72)) (C := "WidthCampaignsModel") (T := wx_TM) (N' := 29) hx hb hts wi_M hown hK hP 71 (by decide) rfl rfl 2 (by decide) wt_632 (fun _ h9 => h9) rfl wd_M_isWorn_130 ?_
          refine lv_aload_n hx hb wd_M_isWorn_133 rfl (lv_at hl 1 rfl) ?_
          refine lv_iload hx hb wd_M_isWorn_134 (lv_at hl 7 rfl) ?_
          obtain ⟨h27, hf⟩ := wc_gd_e hf
          refine wx_iald hx hb hK hP k1 (n := 9) (wx_Ml hk1_) (wx_M hk1_ _) (wc_in_e h27) wd_M_isWorn_136 ?_
          refine lv_topi (fun v28 ev28 => ?_)
          have hf := wc_st_e ev28 hf
          obtain ⟨h29, hf⟩ := wc_gd_e hf
          refine wx_iald hx hb hK hP 72 (n := 9) (by decide) rfl (wc_in_e h29) wd_M_isWorn_137 ?_
          refine lv_topi (fun v30 ev30 => ?_)
          have hf := wc_st_e ev30 hf
          refine lv_aload_n hx hb wd_M_isWorn_138 rfl (lv_at hl 0 rfl) ?_
          refine wx_get (v := .ref (ad 83)) (C := "WidthCampaignsModel") (T := wx_TM) (N' := 29) hx hb hts wi_M hown hK hP 71 (by decide) rfl rfl 14 (by decide) wt_644 (fun _ h9 => h9) rfl wd_M_isWorn_139 ?_
          refine lv_iload hx hb wd_M_isWorn_142 (lv_at hl 4 rfl) ?_
          obtain ⟨h31, hf⟩ := wc_gd_e hf
          refine wx_iald hx hb hK hP 83 (n := 4) (by decide) rfl (wc_in_e h31) wd_M_isWorn_144 ?_
          refine lv_topi (fun v32 ev32 => ?_)
          have hf := wc_st_e ev32 hf
          refine lv_icmp_gt (tgt := 162) hx hb wd_M_isWorn_145 (by decide) (fun c33 => ?_) (fun c33 => ?_)
          · have hf := wc_t c33 hf
            exact J162 k46 hk46 (wf_M_isWorn_104 k1 k46 n) hk104 x2 x3 x5 x6 x7 x8 σ hf _ _ _ hP hD hS (lv_sub hl [0, 1, 2, 3, 4, 5, 6, 7] rfl)
          · have hf := wc_f c33 hf
            refine lv_iload hx hb wd_M_isWorn_148 (lv_at hl 6 rfl) ?_
            refine lv_aload_n hx hb wd_M_isWorn_150 rfl (lv_at hl 0 rfl) ?_
            refine wx_get (v := .ref (ad 75)) (C := "WidthCampaignsModel") (T := wx_TM) (N' := 29) hx hb hts wi_M hown hK hP 71 (by decide) rfl rfl 5 (by decide) wt_635 (fun _ h9 => h9) rfl wd_M_isWorn_151 ?_
            refine lv_aload_n hx hb wd_M_isWorn_154 rfl (lv_at hl 1 rfl) ?_
            refine lv_iload hx hb wd_M_isWorn_155 (lv_at hl 7 rfl) ?_
            obtain ⟨h34, hf⟩ := wc_gd_e hf
            refine wx_iald hx hb hK hP k1 (n := 9) (wx_Ml hk1_) (wx_M hk1_ _) (wc_in_e h34) wd_M_isWorn_157 ?_
            refine lv_topi (fun v35 ev35 => ?_)
            have hf := wc_st_e ev35 hf
            obtain ⟨h36, hf⟩ := wc_gd_e hf
            refine wx_iald hx hb hK hP 75 (n := 9) (by decide) rfl (wc_in_e h36) wd_M_isWorn_158 ?_
            refine lv_topi (fun v37 ev37 => ?_)
            have hf := wc_st_e ev37 hf
            refine lv_iadd hx hb wd_M_isWorn_159 ?_
            refine lv_topi (fun v38 ev38 => ?_)
            have hf := wc_st_e ev38 hf
            refine lv_istore (lv' := [(7, .int v38), (0, .ref (ad 71)), (1, .ref (ad k1)), (2, .int x2), (3, .int x3), (5, .int x5), (6, .int x6), (8, .int x8)]) hx hb wd_M_isWorn_160 hl (by decide) rfl (fun ls hl => ?_)
            exact J162 k46 hk46 (wf_M_isWorn_104 k1 k46 n) hk104 x2 x3 x5 x6 v38 x8 σ hf _ _ _ hP hD hS (lv_sub hl [1, 2, 3, 4, 5, 6, 0, 7] rfl)
  have J96 : ∀ (k46 : Int32 → Int32 → Int32 → wc_S → Option (Int32 × wc_S)) (hk46 : (∀ (x2 : Int32) (x3 : Int32) (x5 : Int32) (σ : wc_S), k46 x2 x3 x5 σ = some res → wx_Arr p l e ({ frames := 0, cells := 0, slots := 0, locals := 0 }) s m args below meth c D ad cI cZ cJ cG A (MQ below (wx_Qi D ad cI cZ cJ cG res A) args s 0 0 A) 9 0 0 46 [(0, .ref (ad 71)), (1, .ref (ad k1)), (2, .int x2), (3, .int x3), (5, .int x5)] [] σ)) (x2 : Int32) (x3 : Int32) (x5 : Int32) (s0 : Int32) (σ : wc_S), wf_M_isWorn_96 k1 k46 x2 x3 x5 s0 σ = some res → wx_Arr p l e ({ frames := 0, cells := 0, slots := 0, locals := 0 }) s m args below meth c D ad cI cZ cJ cG A (MQ below (wx_Qi D ad cI cZ cJ cG res A) args s 0 0 A) 9 0 0 96 [(0, .ref (ad 71)), (1, .ref (ad k1)), (2, .int x2), (3, .int x3), (5, .int x5)] [.int s0] σ := by
    intro k46 hk46 x2 x3 x5 s0 σ hf H locs ls hP hD hS hl
    unfold wf_M_isWorn_96 at hf
    refine lv_istore (lv' := [(6, .int s0), (0, .ref (ad 71)), (1, .ref (ad k1)), (2, .int x2), (3, .int x3), (5, .int x5)]) hx hb wd_M_isWorn_96 hl (by decide) rfl (fun ls hl => ?_)
    refine lv_iconst (v := 0) hx hb wd_M_isWorn_98 (by decide) ?_
    refine lv_istore (lv' := [(7, .int 0), (6, .int s0), (0, .ref (ad 71)), (1, .ref (ad k1)), (2, .int x2), (3, .int x3), (5, .int x5)]) hx hb wd_M_isWorn_99 hl (by decide) rfl (fun ls hl => ?_)
    refine lv_iload_n hx hb wd_M_isWorn_101 rfl (lv_at hl 4 rfl) ?_
    refine lv_istore (lv' := [(8, .int x2), (7, .int 0), (6, .int s0), (0, .ref (ad 71)), (1, .ref (ad k1)), (2, .int x2), (3, .int x3), (5, .int x5)]) hx hb wd_M_isWorn_102 hl (by decide) rfl (fun ls hl => ?_)
    exact J104 k46 hk46 16 x2 x3 x5 s0 0 x2 σ hf _ _ _ hP hD hS (lv_sub hl [3, 4, 5, 6, 7, 2, 1, 0] rfl)
  have J95 : ∀ (k46 : Int32 → Int32 → Int32 → wc_S → Option (Int32 × wc_S)) (hk46 : (∀ (x2 : Int32) (x3 : Int32) (x5 : Int32) (σ : wc_S), k46 x2 x3 x5 σ = some res → wx_Arr p l e ({ frames := 0, cells := 0, slots := 0, locals := 0 }) s m args below meth c D ad cI cZ cJ cG A (MQ below (wx_Qi D ad cI cZ cJ cG res A) args s 0 0 A) 9 0 0 46 [(0, .ref (ad 71)), (1, .ref (ad k1)), (2, .int x2), (3, .int x3), (5, .int x5)] [] σ)) (x2 : Int32) (x3 : Int32) (x5 : Int32) (σ : wc_S), wf_M_isWorn_95 k1 k46 x2 x3 x5 σ = some res → wx_Arr p l e ({ frames := 0, cells := 0, slots := 0, locals := 0 }) s m args below meth c D ad cI cZ cJ cG A (MQ below (wx_Qi D ad cI cZ cJ cG res A) args s 0 0 A) 9 0 0 95 [(0, .ref (ad 71)), (1, .ref (ad k1)), (2, .int x2), (3, .int x3), (5, .int x5)] [] σ := by
    intro k46 hk46 x2 x3 x5 σ hf H locs ls hP hD hS hl
    unfold wf_M_isWorn_95 at hf
    refine lv_iconst (v := 0) hx hb wd_M_isWorn_95 (by decide) ?_
    exact J96 k46 hk46 x2 x3 x5 0 σ hf _ _ _ hP hD hS (lv_sub hl [0, 1, 2, 3, 4] rfl)
  have J46 : ∀ (n : Nat) (x2 : Int32) (x3 : Int32) (x5 : Int32) (σ : wc_S), wf_M_isWorn_46 k1 n x2 x3 x5 σ = some res → wx_Arr p l e ({ frames := 0, cells := 0, slots := 0, locals := 0 }) s m args below meth c D ad cI cZ cJ cG A (MQ below (wx_Qi D ad cI cZ cJ cG res A) args s 0 0 A) 9 0 0 46 [(0, .ref (ad 71)), (1, .ref (ad k1)), (2, .int x2), (3, .int x3), (5, .int x5)] [] σ := by
    intro  n
    induction n with
    | zero => intro x2 x3 x5 σ hf; exact absurd hf (by intro h9; cases h9)
    | succ n hk46 =>
      intro x2 x3 x5 σ hf H locs ls hP hD hS hl
      have hf : wf_M_isWorn_46_b k1 (wf_M_isWorn_46 k1 n) x2 x3 x5 σ = some res := hf
      unfold wf_M_isWorn_46_b at hf
      refine lv_iload hx hb wd_M_isWorn_46 (lv_at hl 4 rfl) ?_
      refine lv_aload_n hx hb wd_M_isWorn_48 rfl (lv_at hl 0 rfl) ?_
      refine wx_get (v := .int (σ 71 12)) (C := "WidthCampaignsModel") (T := wx_TM) (N' := 29) hx hb hts wi_M hown hK hP 71 (by decide) rfl rfl 12 (by decide) wt_642 (fun _ h9 => h9) rfl wd_M_isWorn_49 ?_
      refine lv_topi (fun v4 ev4 => ?_)
      have hf := wc_st_e ev4 hf
      refine lv_icmp_ge (tgt := 193) hx hb wd_M_isWorn_52 (by decide) (fun c5 => ?_) (fun c5 => ?_)
      · have hf := wc_t c5 hf
        refine lv_iconst (v := 0) hx hb wd_M_isWorn_193 (by decide) ?_
        exact wx_zret hx hb hr narrow_b0 hlocks hf hP hS wd_M_isWorn_194
      · have hf := wc_f c5 hf
        refine lv_aload_n hx hb wd_M_isWorn_55 rfl (lv_at hl 0 rfl) ?_
        refine wx_get (v := .ref (ad 72)) (C := "WidthCampaignsModel") (T := wx_TM) (N' := 29) hx hb hts wi_M hown hK hP 71 (by decide) rfl rfl 2 (by decide) wt_632 (fun _ h9 => h9) rfl wd_M_isWorn_56 ?_
        refine lv_aload_n hx hb wd_M_isWorn_59 rfl (lv_at hl 1 rfl) ?_
        refine lv_iload_n hx hb wd_M_isWorn_60 rfl (lv_at hl 3 rfl) ?_
        obtain ⟨h6, hf⟩ := wc_gd_e hf
        refine wx_iald hx hb hK hP k1 (n := 9) (wx_Ml hk1_) (wx_M hk1_ _) (wc_in_e h6) wd_M_isWorn_61 ?_
        refine lv_topi (fun v7 ev7 => ?_)
        have hf := wc_st_e ev7 hf
        obtain ⟨h8, hf⟩ := wc_gd_e hf
        refine wx_iald hx hb hK hP 72 (n := 9) (by decide) rfl (wc_in_e h8) wd_M_isWorn_62 ?_
        refine lv_topi (fun v9 ev9 => ?_)
        have hf := wc_st_e ev9 hf
        refine lv_aload_n hx hb wd_M_isWorn_63 rfl (lv_at hl 0 rfl) ?_
        refine wx_get (v := .ref (ad 82)) (C := "WidthCampaignsModel") (T := wx_TM) (N' := 29) hx hb hts wi_M hown hK hP 71 (by decide) rfl rfl 13 (by decide) wt_643 (fun _ h9 => h9) rfl wd_M_isWorn_64 ?_
        refine lv_iload hx hb wd_M_isWorn_67 (lv_at hl 4 rfl) ?_
        obtain ⟨h10, hf⟩ := wc_gd_e hf
        refine wx_iald hx hb hK hP 82 (n := 4) (by decide) rfl (wc_in_e h10) wd_M_isWorn_69 ?_
        refine lv_topi (fun v11 ev11 => ?_)
        have hf := wc_st_e ev11 hf
        refine lv_icmp_lt (tgt := 95) hx hb wd_M_isWorn_70 (by decide) (fun c12 => ?_) (fun c12 => ?_)
        · have hf := wc_t c12 hf
          exact J95 (wf_M_isWorn_46 k1 n) hk46 x2 x3 x5 σ hf _ _ _ hP hD hS (lv_sub hl [0, 1, 2, 3, 4] rfl)
        · have hf := wc_f c12 hf
          refine lv_aload_n hx hb wd_M_isWorn_73 rfl (lv_at hl 0 rfl) ?_
          refine wx_get (v := .ref (ad 72)) (C := "WidthCampaignsModel") (T := wx_TM) (N' := 29) hx hb hts wi_M hown hK hP 71 (by decide) rfl rfl 2 (by decide) wt_632 (fun _ h9 => h9) rfl wd_M_isWorn_74 ?_
          refine lv_aload_n hx hb wd_M_isWorn_77 rfl (lv_at hl 1 rfl) ?_
          refine lv_iload_n hx hb wd_M_isWorn_78 rfl (lv_at hl 3 rfl) ?_
          obtain ⟨h39, hf⟩ := wc_gd_e hf
          refine wx_iald hx hb hK hP k1 (n := 9) (wx_Ml hk1_) (wx_M hk1_ _) (wc_in_e h39) wd_M_isWorn_79 ?_
          refine lv_topi (fun v40 ev40 => ?_)
          have hf := wc_st_e ev40 hf
          obtain ⟨h41, hf⟩ := wc_gd_e hf
          refine wx_iald hx hb hK hP 72 (n := 9) (by decide) rfl (wc_in_e h41) wd_M_isWorn_80 ?_
          refine lv_topi (fun v42 ev42 => ?_)
          have hf := wc_st_e ev42 hf
          refine lv_aload_n hx hb wd_M_isWorn_81 rfl (lv_at hl 0 rfl) ?_
          refine wx_get (v := .ref (ad 83)) (C := "WidthCampaignsModel") (T := wx_TM) (N' := 29) hx hb hts wi_M hown hK hP 71 (by decide) rfl rfl 14 (by decide) wt_644 (fun _ h9 => h9) rfl wd_M_isWorn_82 ?_
          refine lv_iload hx hb wd_M_isWorn_85 (lv_at hl 4 rfl) ?_
          obtain ⟨h43, hf⟩ := wc_gd_e hf
          refine wx_iald hx hb hK hP 83 (n := 4) (by decide) rfl (wc_in_e h43) wd_M_isWorn_87 ?_
          refine lv_topi (fun v44 ev44 => ?_)
          have hf := wc_st_e ev44 hf
          refine lv_icmp_gt (tgt := 95) hx hb wd_M_isWorn_88 (by decide) (fun c45 => ?_) (fun c45 => ?_)
          · have hf := wc_t c45 hf
            exact J95 (wf_M_isWorn_46 k1 n) hk46 x2 x3 x5 σ hf _ _ _ hP hD hS (lv_sub hl [0, 1, 2, 3, 4] rfl)
          · have hf := wc_f c45 hf
            refine lv_iconst (v := 1) hx hb wd_M_isWorn_91 (by decide) ?_
            refine lv_goto (tgt := 96) hx hb wd_M_isWorn_92 (by decide) ?_
            exact J96 (wf_M_isWorn_46 k1 n) hk46 x2 x3 x5 1 σ hf _ _ _ hP hD hS (lv_sub hl [0, 1, 2, 3, 4] rfl)
  have J6 : ∀ (n : Nat) (x2 : Int32) (x3 : Int32) (x4 : Int32) (x5 : Int32) (σ : wc_S), wf_M_isWorn_6 k1 n x2 x3 x4 x5 σ = some res → wx_Arr p l e ({ frames := 0, cells := 0, slots := 0, locals := 0 }) s m args below meth c D ad cI cZ cJ cG A (MQ below (wx_Qi D ad cI cZ cJ cG res A) args s 0 0 A) 9 0 0 6 [(0, .ref (ad 71)), (1, .ref (ad k1)), (2, .int x2), (3, .int x3), (4, .int x4), (5, .int x5)] [] σ := by
    intro  n
    induction n with
    | zero => intro x2 x3 x4 x5 σ hf; exact absurd hf (by intro h9; cases h9)
    | succ n hk6 =>
      intro x2 x3 x4 x5 σ hf H locs ls hP hD hS hl
      have hf : wf_M_isWorn_6_b k1 (wf_M_isWorn_6 k1 n) x2 x3 x4 x5 σ = some res := hf
      unfold wf_M_isWorn_6_b at hf
      refine lv_iload hx hb wd_M_isWorn_6 (lv_at hl 5 rfl) ?_
      refine lv_iload_n hx hb wd_M_isWorn_8 rfl (lv_at hl 3 rfl) ?_
      refine lv_icmp_gt (tgt := 32) hx hb wd_M_isWorn_9 (by decide) (fun c1 => ?_) (fun c1 => ?_)
      · have hf := wc_t c1 hf
        refine lv_iload hx hb wd_M_isWorn_32 (lv_at hl 4 rfl) ?_
        refine lv_aload_n hx hb wd_M_isWorn_34 rfl (lv_at hl 0 rfl) ?_
        refine wx_get (v := .int (σ 71 17)) (C := "WidthCampaignsModel") (T := wx_TM) (N' := 29) hx hb hts wi_M hown hK hP 71 (by decide) rfl rfl 17 (by decide) wt_647 (fun _ h9 => h9) rfl wd_M_isWorn_35 ?_
        refine lv_topi (fun v2 ev2 => ?_)
        have hf := wc_st_e ev2 hf
        refine lv_icmp_le (tgt := 43) hx hb wd_M_isWorn_38 (by decide) (fun c3 => ?_) (fun c3 => ?_)
        · have hf := wc_t c3 hf
          refine lv_iconst (v := 0) hx hb wd_M_isWorn_43 (by decide) ?_
          refine lv_istore (lv' := [(5, .int 0), (0, .ref (ad 71)), (1, .ref (ad k1)), (2, .int x2), (3, .int x3), (4, .int x4)]) hx hb wd_M_isWorn_44 hl (by decide) rfl (fun ls hl => ?_)
          exact J46 16 x2 x3 0 σ hf _ _ _ hP hD hS (lv_sub hl [1, 2, 3, 4, 0] rfl)
        · have hf := wc_f c3 hf
          refine lv_iconst (v := 1) hx hb wd_M_isWorn_41 (by decide) ?_
          exact wx_zret hx hb hr narrow_b1 hlocks hf hP hS wd_M_isWorn_42
      · have hf := wc_f c1 hf
        refine lv_iload hx hb wd_M_isWorn_12 (lv_at hl 4 rfl) ?_
        refine lv_aload_n hx hb wd_M_isWorn_14 rfl (lv_at hl 0 rfl) ?_
        refine wx_get (v := .ref (ad 75)) (C := "WidthCampaignsModel") (T := wx_TM) (N' := 29) hx hb hts wi_M hown hK hP 71 (by decide) rfl rfl 5 (by decide) wt_635 (fun _ h9 => h9) rfl wd_M_isWorn_15 ?_
        refine lv_aload_n hx hb wd_M_isWorn_18 rfl (lv_at hl 1 rfl) ?_
        refine lv_iload hx hb wd_M_isWorn_19 (lv_at hl 5 rfl) ?_
        obtain ⟨h46, hf⟩ := wc_gd_e hf
        refine wx_iald hx hb hK hP k1 (n := 9) (wx_Ml hk1_) (wx_M hk1_ _) (wc_in_e h46) wd_M_isWorn_21 ?_
        refine lv_topi (fun v47 ev47 => ?_)
        have hf := wc_st_e ev47 hf
        obtain ⟨h48, hf⟩ := wc_gd_e hf
        refine wx_iald hx hb hK hP 75 (n := 9) (by decide) rfl (wc_in_e h48) wd_M_isWorn_22 ?_
        refine lv_topi (fun v49 ev49 => ?_)
        have hf := wc_st_e ev49 hf
        refine lv_iadd hx hb wd_M_isWorn_23 ?_
        refine lv_topi (fun v50 ev50 => ?_)
        have hf := wc_st_e ev50 hf
        refine lv_istore (lv' := [(4, .int v50), (0, .ref (ad 71)), (1, .ref (ad k1)), (2, .int x2), (3, .int x3), (5, .int x5)]) hx hb wd_M_isWorn_24 hl (by decide) rfl (fun ls hl => ?_)
        obtain ⟨v51, ev51⟩ : ∃ y : Int32, y = x5 + 1 := ⟨_, rfl⟩
        have hf := wc_st_e ev51 hf
        refine lv_iinc (v := v51) (lv' := [(5, .int v51), (4, .int v50), (0, .ref (ad 71)), (1, .ref (ad k1)), (2, .int x2), (3, .int x3)]) hx hb wd_M_isWorn_26 hl (k := 5) rfl (by rw [ev51]; rfl) (by decide) rfl (fun ls hl => ?_)
        refine lv_goto (tgt := 6) hx hb wd_M_isWorn_29 (by decide) ?_
        exact hk6 x2 x3 v50 v51 σ hf _ _ _ hP hD hS (lv_sub hl [2, 3, 4, 5, 1, 0] rfl)
  unfold wf_M_isWorn at hf
  refine lv_iconst (v := 0) hx hb wd_M_isWorn_0 (by decide) ?_
  refine lv_istore (lv' := [(4, .int 0), (0, .ref (ad 71)), (1, .ref (ad k1)), (2, .int a2), (3, .int a3)]) hx hb wd_M_isWorn_1 hl (by decide) rfl (fun ls hl => ?_)
  refine lv_iload_n hx hb wd_M_isWorn_3 rfl (lv_at hl 3 rfl) ?_
  refine lv_istore (lv' := [(5, .int a2), (4, .int 0), (0, .ref (ad 71)), (1, .ref (ad k1)), (2, .int a2), (3, .int a3)]) hx hb wd_M_isWorn_4 hl (by decide) rfl (fun ls hl => ?_)
  exact J6 16 a2 a3 0 a2 σ hf _ _ _ hP hD hS (lv_sub hl [2, 3, 4, 5, 1, 0] rfl)
