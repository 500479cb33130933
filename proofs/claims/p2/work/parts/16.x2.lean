set_option maxHeartbeats 4000000 in
set_option maxRecDepth 100000 in
theorem wm_K_coil (l : Launch) (D : va_G) (ad : Nat → Nat) (cI cZ cJ cG : ClassId) (htr : l.stackTraces = false) (sz : Nat) (a1 : Int32) (a2 : Int32) (a3 : Int32) (a4 : Int32) (σ : wc_S) (res : Int32 × wc_S) (hf : wf_K_coil a1 a2 a3 a4 σ = some res) : Met l wy_K_coil (wx_ws_K_coil) ({ frames := 8, cells := 1, slots := 6, locals := 155 }) (va_Pc [.ref (ad 0), .int a1, .int a2, .int a3, .int a4, .ref (ad 88)] (wx_pre D ad cI cZ cJ cG σ sz)) (wx_Qi D ad cI cZ cJ cG res (va_A (wx_W ad cI cZ cJ cG σ) sz)) 1 6 (va_A (wx_W ad cI cZ cJ cG σ) sz) := by
  refine wx_ofH (cc := method_3_code) (maxL := 7) (ret := (some .int)) (Qc := fun A => wx_Qi D ad cI cZ cJ cG res A) [.ref (ad 0), .int a1, .int a2, .int a3, .int a4, .ref (ad 88)] (by decide) rfl (Nat.le_of_ble_eq_true rfl) ?_
  intro p e s m args below meth c A ls hin ht hl
  obtain ⟨hx, hb, hr, hts, hown, hlocks, hml, hA, hP, hK, hD, hC, hN, hS⟩ := hin
  have hl : lv_has ls 7 [(0, .ref (ad 0)), (1, .int a1), (2, .int a2), (3, .int a3), (4, .int a4), (5, .ref (ad 88))] := hl
  unfold wf_K_coil at hf
  refine lv_aload hx hb wd_K_coil_0 (lv_at hl 5 rfl) ?_
  refine lv_iconst (v := 0) hx hb wd_K_coil_2 (by decide) ?_
  refine lv_aload_n hx hb wd_K_coil_3 rfl (lv_at hl 0 rfl) ?_
  refine lv_iload_n hx hb wd_K_coil_4 rfl (lv_at hl 1 rfl) ?_
  refine lv_iload_n hx hb wd_K_coil_5 rfl (lv_at hl 2 rfl) ?_
  refine lv_iload_n hx hb wd_K_coil_6 rfl (lv_at hl 3 rfl) ?_
  refine lv_iload hx hb wd_K_coil_7 (lv_at hl 4 rfl) ?_
  obtain ⟨q, hq, hf⟩ := wc_cti_e hf
  refine wx_callix (wz_runV (As := [.int a1, .int a2, .int a3, .int a4]) (rest := [.int 0, .ref (ad 88)]) ⟨hx, hb, hml, hown, hts⟩ (wm_W_coil l D ad cI cZ cJ cG htr _ a1 a2 a3 a4 σ _ hq) (wx_cwV 4 hts wt_260 wt_258 wt_259 wt_1 wt_257 wh_W_coil rfl rfl ⟨Nat.le_of_ble_eq_true rfl, Nat.le_of_ble_eq_true rfl⟩) (wx_preV hK hP hD hS hA hC (by decide) rfl rfl) rfl rfl hl.1 rfl (lv_room (Nat.le_of_ble_eq_true rfl)) wd_K_coil_9 ⟨Nat.le_of_ble_eq_true rfl, Nat.le_of_ble_eq_true rfl⟩) hD hS hA (fun E q9 ce k9 σ3 H locs e9 hE hP hD hS hc1 hc2 hc3 => ?_) (fun r2 σ1 H locs e9 hP hD hS => ?_)
  · subst e9
    have hf := wc_cti_l hf
    by_cases ck2 : k9 = 2
    · have hf := wc_t ck2 hf
      subst ck2
      rw [show E = "java/lang/IllegalArgumentException" from hE] at hc3
      refine wz_catch (own := "WidthCampaignsLaw") (E := "java/lang/IllegalArgumentException") [] ⟨0, 14, 17, 13⟩ [⟨0, 14, 21, 15⟩] hown hts hN (by rw [ht]; rfl) (fun _ h => absurd h List.not_mem_nil) (by decide) (by decide) wt_255 (List.mem_of_getElem? (i := 52) rfl) hc1 hc2 hc3 ?_
      refine W.widen (k := 1) (n := 6) (by decide) (by decide) ?_
      refine lv_astore (lv' := [(6, .ref q9), (0, .ref (ad 0)), (1, .int a1), (2, .int a2), (3, .int a3), (4, .int a4), (5, .ref (ad 88))]) hx hb wd_K_coil_17 hl (by decide) rfl (fun ls hl => ?_)
      refine lv_iconst (v := 1) hx hb wd_K_coil_19 (by decide) ?_
      exact wx_iret hx hb hr hlocks hf hP hS wd_K_coil_20
    · have hf := wc_f ck2 hf
      by_cases ck3 : k9 = 3
      · have hf := wc_t ck3 hf
        subst ck3
        rw [show E = "java/lang/UnsupportedOperationException" from hE] at hc3
        refine wz_catch (own := "WidthCampaignsLaw") (E := "java/lang/UnsupportedOperationException") [⟨0, 14, 17, 13⟩] ⟨0, 14, 21, 15⟩ [] hown hts hN (by rw [ht]; rfl) (List.forall_mem_cons.mpr ⟨⟨by decide, "java/lang/IllegalArgumentException", wt_255, List.mem_of_getElem? (i := 9) rfl⟩, (fun _ h => absurd h List.not_mem_nil)⟩) (by decide) (by decide) wt_256 (List.mem_of_getElem? (i := 53) rfl) hc1 hc2 hc3 ?_
        refine W.widen (k := 1) (n := 6) (by decide) (by decide) ?_
        refine lv_astore (lv' := [(6, .ref q9), (0, .ref (ad 0)), (1, .int a1), (2, .int a2), (3, .int a3), (4, .int a4), (5, .ref (ad 88))]) hx hb wd_K_coil_21 hl (by decide) rfl (fun ls hl => ?_)
        refine lv_iconst (v := 2) hx hb wd_K_coil_23 (by decide) ?_
        exact wx_iret hx hb hr hlocks hf hP hS wd_K_coil_24
      · have hf := wc_f ck3 hf
        cases hf
  · subst e9
    have hf := wc_cti_r hf
    refine W.widen (k := 1) (n := 6) (by decide) (by decide) ?_
    refine lv_i2l hx hb wd_K_coil_12 rfl ?_
    obtain ⟨h4, hf⟩ := wc_gd_e hf
    refine wx_last (x := r2) hx hb hK hP hD hS h4 rfl wd_K_coil_13 (fun σ5 H locs eσ5 hP hD hS => ?_)
    have hf := wc_st_e eσ5 hf
    refine lv_goto (tgt := 25) hx hb wd_K_coil_14 (by decide) ?_
    refine lv_iconst (v := 0) hx hb wd_K_coil_25 (by decide) ?_
    exact wx_iret hx hb hr hlocks hf hP hS wd_K_coil_26
set_option maxHeartbeats 4000000 in
set_option maxRecDepth 100000 in
theorem wm_K_table (l : Launch) (D : va_G) (ad : Nat → Nat) (cI cZ cJ cG : ClassId) (htr : l.stackTraces = false) (sz : Nat) (a1 : Int32) (a2 : Int32) (a3 : Int32) (a4 : Int32) (σ : wc_S) (res : Int32 × wc_S) (hf : wf_K_table a1 a2 a3 a4 σ = some res) : Met l wy_K_table (wx_ws_K_table) ({ frames := 8, cells := 1, slots := 6, locals := 135 }) (va_Pc [.ref (ad 0), .int a1, .int a2, .int a3, .int a4, .ref (ad 88)] (wx_pre D ad cI cZ cJ cG σ sz)) (wx_Qi D ad cI cZ cJ cG res (va_A (wx_W ad cI cZ cJ cG σ) sz)) 1 6 (va_A (wx_W ad cI cZ cJ cG σ) sz) := by
  refine wx_ofH (cc := method_4_code) (maxL := 7) (ret := (some .int)) (Qc := fun A => wx_Qi D ad cI cZ cJ cG res A) [.ref (ad 0), .int a1, .int a2, .int a3, .int a4, .ref (ad 88)] (by decide) rfl (Nat.le_of_ble_eq_true rfl) ?_
  intro p e s m args below meth c A ls hin ht hl
  obtain ⟨hx, hb, hr, hts, hown, hlocks, hml, hA, hP, hK, hD, hC, hN, hS⟩ := hin
  have hl : lv_has ls 7 [(0, .ref (ad 0)), (1, .int a1), (2, .int a2), (3, .int a3), (4, .int a4), (5, .ref (ad 88))] := hl
  unfold wf_K_table at hf
  refine lv_aload hx hb wd_K_table_0 (lv_at hl 5 rfl) ?_
  refine lv_iconst (v := 0) hx hb wd_K_table_2 (by decide) ?_
  refine lv_aload_n hx hb wd_K_table_3 rfl (lv_at hl 0 rfl) ?_
  refine lv_iload_n hx hb wd_K_table_4 rfl (lv_at hl 1 rfl) ?_
  refine lv_iload_n hx hb wd_K_table_5 rfl (lv_at hl 2 rfl) ?_
  refine lv_iload_n hx hb wd_K_table_6 rfl (lv_at hl 3 rfl) ?_
  refine lv_iload hx hb wd_K_table_7 (lv_at hl 4 rfl) ?_
  obtain ⟨q, hq, hf⟩ := wc_cti_e hf
  refine wx_callix (wz_runV (As := [.int a1, .int a2, .int a3, .int a4]) (rest := [.int 0, .ref (ad 88)]) ⟨hx, hb, hml, hown, hts⟩ (wm_W_table l D ad cI cZ cJ cG htr _ a1 a2 a3 a4 σ _ hq) (wx_cwV 4 hts wt_379 wt_377 wt_378 wt_1 wt_376 wh_W_table rfl rfl ⟨Nat.le_of_ble_eq_true rfl, Nat.le_of_ble_eq_true rfl⟩) (wx_preV hK hP hD hS hA hC (by decide) rfl rfl) rfl rfl hl.1 rfl (lv_room (Nat.le_of_ble_eq_true rfl)) wd_K_table_9 ⟨Nat.le_of_ble_eq_true rfl, Nat.le_of_ble_eq_true rfl⟩) hD hS hA (fun E q9 ce k9 σ3 H locs e9 hE hP hD hS hc1 hc2 hc3 => ?_) (fun r2 σ1 H locs e9 hP hD hS => ?_)
  · subst e9
    have hf := wc_cti_l hf
    by_cases ck0 : k9 = 0
    · have hf := wc_t ck0 hf
      subst ck0
      rw [show E = "java/lang/IndexOutOfBoundsException" from hE] at hc3
      refine wz_catch (own := "WidthCampaignsLaw") (E := "java/lang/IndexOutOfBoundsException") [] ⟨0, 14, 17, 20⟩ [⟨0, 14, 21, 13⟩, ⟨0, 14, 25, 15⟩] hown hts hN (by rw [ht]; rfl) (fun _ h => absurd h List.not_mem_nil) (by decide) (by decide) wt_375 (List.mem_of_getElem? (i := 54) rfl) hc1 hc2 hc3 ?_
      refine W.widen (k := 1) (n := 6) (by decide) (by decide) ?_
      refine lv_astore (lv' := [(6, .ref q9), (0, .ref (ad 0)), (1, .int a1), (2, .int a2), (3, .int a3), (4, .int a4), (5, .ref (ad 88))]) hx hb wd_K_table_17 hl (by decide) rfl (fun ls hl => ?_)
      refine lv_iconst (v := 1) hx hb wd_K_table_19 (by decide) ?_
      exact wx_iret hx hb hr hlocks hf hP hS wd_K_table_20
    · have hf := wc_f ck0 hf
      by_cases ck2 : k9 = 2
      · have hf := wc_t ck2 hf
        subst ck2
        rw [show E = "java/lang/IllegalArgumentException" from hE] at hc3
        refine wz_catch (own := "WidthCampaignsLaw") (E := "java/lang/IllegalArgumentException") [⟨0, 14, 17, 20⟩] ⟨0, 14, 21, 13⟩ [⟨0, 14, 25, 15⟩] hown hts hN (by rw [ht]; rfl) (List.forall_mem_cons.mpr ⟨⟨by decide, "java/lang/IndexOutOfBoundsException", wt_375, List.mem_of_getElem? (i := 1) rfl⟩, (fun _ h => absurd h List.not_mem_nil)⟩) (by decide) (by decide) wt_255 (List.mem_of_getElem? (i := 52) rfl) hc1 hc2 hc3 ?_
        refine W.widen (k := 1) (n := 6) (by decide) (by decide) ?_
        refine lv_astore (lv' := [(6, .ref q9), (0, .ref (ad 0)), (1, .int a1), (2, .int a2), (3, .int a3), (4, .int a4), (5, .ref (ad 88))]) hx hb wd_K_table_21 hl (by decide) rfl (fun ls hl => ?_)
        refine lv_iconst (v := 2) hx hb wd_K_table_23 (by decide) ?_
        exact wx_iret hx hb hr hlocks hf hP hS wd_K_table_24
      · have hf := wc_f ck2 hf
        by_cases ck3 : k9 = 3
        · have hf := wc_t ck3 hf
          subst ck3
          rw [show E = "java/lang/UnsupportedOperationException" from hE] at hc3
          refine wz_catch (own := "WidthCampaignsLaw") (E := "java/lang/UnsupportedOperationException") [⟨0, 14, 17, 20⟩, ⟨0, 14, 21, 13⟩] ⟨0, 14, 25, 15⟩ [] hown hts hN (by rw [ht]; rfl) (List.forall_mem_cons.mpr ⟨⟨by decide, "java/lang/IndexOutOfBoundsException", wt_375, List.mem_of_getElem? (i := 11) rfl⟩, (List.forall_mem_cons.mpr ⟨⟨by decide, "java/lang/IllegalArgumentException", wt_255, List.mem_of_getElem? (i := 9) rfl⟩, (fun _ h => absurd h List.not_mem_nil)⟩)⟩) (by decide) (by decide) wt_256 (List.mem_of_getElem? (i := 53) rfl) hc1 hc2 hc3 ?_
          refine W.widen (k := 1) (n := 6) (by decide) (by decide) ?_
          refine lv_astore (lv' := [(6, .ref q9), (0, .ref (ad 0)), (1, .int a1), (2, .int a2), (3, .int a3), (4, .int a4), (5, .ref (ad 88))]) hx hb wd_K_table_25 hl (by decide) rfl (fun ls hl => ?_)
          refine lv_iconst (v := 3) hx hb wd_K_table_27 (by decide) ?_
          exact wx_iret hx hb hr hlocks hf hP hS wd_K_table_28
        · have hf := wc_f ck3 hf
          cases hf
  · subst e9
    have hf := wc_cti_r hf
    refine W.widen (k := 1) (n := 6) (by decide) (by decide) ?_
    refine lv_i2l hx hb wd_K_table_12 rfl ?_
    obtain ⟨h4, hf⟩ := wc_gd_e hf
    refine wx_last (x := r2) hx hb hK hP hD hS h4 rfl wd_K_table_13 (fun σ5 H locs eσ5 hP hD hS => ?_)
    have hf := wc_st_e eσ5 hf
    refine lv_goto (tgt := 29) hx hb wd_K_table_14 (by decide) ?_
    refine lv_iconst (v := 0) hx hb wd_K_table_29 (by decide) ?_
    exact wx_iret hx hb hr hlocks hf hP hS wd_K_table_30
set_option maxHeartbeats 4000000 in
set_option maxRecDepth 100000 in
theorem wm_K_group (l : Launch) (D : va_G) (ad : Nat → Nat) (cI cZ cJ cG : ClassId) (htr : l.stackTraces = false) (sz : Nat) (a1 : Int32) (a2 : Int32) (a3 : Int32) (σ : wc_S) (res : Int32 × wc_S) (hf : wf_K_group a1 a2 a3 σ = some res) : Met l wy_K_group (wx_ws_K_group) ({ frames := 8, cells := 1, slots := 6, locals := 133 }) (va_Pc [.ref (ad 0), .int a1, .int a2, .int a3, .ref (ad 88)] (wx_pre D ad cI cZ cJ cG σ sz)) (wx_Qi D ad cI cZ cJ cG res (va_A (wx_W ad cI cZ cJ cG σ) sz)) 1 6 (va_A (wx_W ad cI cZ cJ cG σ) sz) := by
  refine wx_ofH (cc := method_5_code) (maxL := 6) (ret := (some .int)) (Qc := fun A => wx_Qi D ad cI cZ cJ cG res A) [.ref (ad 0), .int a1, .int a2, .int a3, .ref (ad 88)] (by decide) rfl (Nat.le_of_ble_eq_true rfl) ?_
  intro p e s m args below meth c A ls hin ht hl
  obtain ⟨hx, hb, hr, hts, hown, hlocks, hml, hA, hP, hK, hD, hC, hN, hS⟩ := hin
  have hl : lv_has ls 6 [(0, .ref (ad 0)), (1, .int a1), (2, .int a2), (3, .int a3), (4, .ref (ad 88))] := hl
  unfold wf_K_group at hf
  refine lv_aload hx hb wd_K_group_0 (lv_at hl 4 rfl) ?_
  refine lv_iconst (v := 0) hx hb wd_K_group_2 (by decide) ?_
  refine lv_aload_n hx hb wd_K_group_3 rfl (lv_at hl 0 rfl) ?_
  refine lv_iload_n hx hb wd_K_group_4 rfl (lv_at hl 1 rfl) ?_
  refine lv_iload_n hx hb wd_K_group_5 rfl (lv_at hl 2 rfl) ?_
  refine lv_iload_n hx hb wd_K_group_6 rfl (lv_at hl 3 rfl) ?_
  obtain ⟨q, hq, hf⟩ := wc_cti_e hf
  refine wx_callix (wz_runV (As := [.int a1, .int a2, .int a3]) (rest := [.int 0, .ref (ad 88)]) ⟨hx, hb, hml, hown, hts⟩ (wm_W_group l D ad cI cZ cJ cG htr _ a1 a2 a3 σ _ hq) (wx_cwV 3 hts wt_409 wt_407 wt_408 wt_1 wt_406 wh_W_group rfl rfl ⟨Nat.le_of_ble_eq_true rfl, Nat.le_of_ble_eq_true rfl⟩) (wx_preV hK hP hD hS hA hC (by decide) rfl rfl) rfl rfl hl.1 rfl (lv_room (Nat.le_of_ble_eq_true rfl)) wd_K_group_7 ⟨Nat.le_of_ble_eq_true rfl, Nat.le_of_ble_eq_true rfl⟩) hD hS hA (fun E q9 ce k9 σ3 H locs e9 hE hP hD hS hc1 hc2 hc3 => ?_) (fun r2 σ1 H locs e9 hP hD hS => ?_)
  · subst e9
    have hf := wc_cti_l hf
    by_cases ck2 : k9 = 2
    · have hf := wc_t ck2 hf
      subst ck2
      rw [show E = "java/lang/IllegalArgumentException" from hE] at hc3
      refine wz_catch (own := "WidthCampaignsLaw") (E := "java/lang/IllegalArgumentException") [] ⟨0, 12, 15, 13⟩ [⟨0, 12, 19, 15⟩] hown hts hN (by rw [ht]; rfl) (fun _ h => absurd h List.not_mem_nil) (by decide) (by decide) wt_255 (List.mem_of_getElem? (i := 52) rfl) hc1 hc2 hc3 ?_
      refine W.widen (k := 1) (n := 6) (by decide) (by decide) ?_
      refine lv_astore (lv' := [(5, .ref q9), (0, .ref (ad 0)), (1, .int a1), (2, .int a2), (3, .int a3), (4, .ref (ad 88))]) hx hb wd_K_group_15 hl (by decide) rfl (fun ls hl => ?_)
      refine lv_iconst (v := 1) hx hb wd_K_group_17 (by decide) ?_
      exact wx_iret hx hb hr hlocks hf hP hS wd_K_group_18
    · have hf := wc_f ck2 hf
      by_cases ck3 : k9 = 3
      · have hf := wc_t ck3 hf
        subst ck3
        rw [show E = "java/lang/UnsupportedOperationException" from hE] at hc3
        refine wz_catch (own := "WidthCampaignsLaw") (E := "java/lang/UnsupportedOperationException") [⟨0, 12, 15, 13⟩] ⟨0, 12, 19, 15⟩ [] hown hts hN (by rw [ht]; rfl) (List.forall_mem_cons.mpr ⟨⟨by decide, "java/lang/IllegalArgumentException", wt_255, List.mem_of_getElem? (i := 9) rfl⟩, (fun _ h => absurd h List.not_mem_nil)⟩) (by decide) (by decide) wt_256 (List.mem_of_getElem? (i := 53) rfl) hc1 hc2 hc3 ?_
        refine W.widen (k := 1) (n := 6) (by decide) (by decide) ?_
        refine lv_astore (lv' := [(5, .ref q9), (0, .ref (ad 0)), (1, .int a1), (2, .int a2), (3, .int a3), (4, .ref (ad 88))]) hx hb wd_K_group_19 hl (by decide) rfl (fun ls hl => ?_)
        refine lv_iconst (v := 2) hx hb wd_K_group_21 (by decide) ?_
        exact wx_iret hx hb hr hlocks hf hP hS wd_K_group_22
      · have hf := wc_f ck3 hf
        cases hf
  · subst e9
    have hf := wc_cti_r hf
    refine W.widen (k := 1) (n := 6) (by decide) (by decide) ?_
    refine lv_i2l hx hb wd_K_group_10 rfl ?_
    obtain ⟨h4, hf⟩ := wc_gd_e hf
    refine wx_last (x := r2) hx hb hK hP hD hS h4 rfl wd_K_group_11 (fun σ5 H locs eσ5 hP hD hS => ?_)
    have hf := wc_st_e eσ5 hf
    refine lv_goto (tgt := 23) hx hb wd_K_group_12 (by decide) ?_
    refine lv_iconst (v := 0) hx hb wd_K_group_23 (by decide) ?_
    exact wx_iret hx hb hr hlocks hf hP hS wd_K_group_24
set_option maxHeartbeats 4000000 in
set_option maxRecDepth 100000 in
theorem wm_K_urgent (l : Launch) (D : va_G) (ad : Nat → Nat) (cI cZ cJ cG : ClassId) (htr : l.stackTraces = false) (sz : Nat) (a1 : Int32) (a2 : Int32) (σ : wc_S) (res : Int32 × wc_S) (hf : wf_K_urgent a1 a2 σ = some res) : Met l wy_K_urgent (wx_ws_K_urgent) ({ frames := 8, cells := 1, slots := 6, locals := 132 }) (va_Pc [.ref (ad 0), .int a1, .int a2] (wx_pre D ad cI cZ cJ cG σ sz)) (wx_Qi D ad cI cZ cJ cG res (va_A (wx_W ad cI cZ cJ cG σ) sz)) 1 6 (va_A (wx_W ad cI cZ cJ cG σ) sz) := by
  refine wx_ofH (cc := method_6_code) (maxL := 4) (ret := (some .int)) (Qc := fun A => wx_Qi D ad cI cZ cJ cG res A) [.ref (ad 0), .int a1, .int a2] (by decide) rfl (Nat.le_of_ble_eq_true rfl) ?_
  intro p e s m args below meth c A ls hin ht hl
  obtain ⟨hx, hb, hr, hts, hown, hlocks, hml, hA, hP, hK, hD, hC, hN, hS⟩ := hin
  have hl : lv_has ls 4 [(0, .ref (ad 0)), (1, .int a1), (2, .int a2)] := hl
  unfold wf_K_urgent at hf
  refine lv_aload_n hx hb wd_K_urgent_0 rfl (lv_at hl 0 rfl) ?_
  refine lv_iload_n hx hb wd_K_urgent_1 rfl (lv_at hl 1 rfl) ?_
  refine lv_iload_n hx hb wd_K_urgent_2 rfl (lv_at hl 2 rfl) ?_
  obtain ⟨q, hq, hf⟩ := wc_ctv_e hf
  refine wx_callvx (wz_runV (As := [.int a1, .int a2]) (rest := []) ⟨hx, hb, hml, hown, hts⟩ (wm_W_urgent l D ad cI cZ cJ cG htr _ a1 a2 σ _ hq) (wx_cwV 2 hts wt_422 wt_420 wt_421 wt_1 wt_419 wh_W_urgent rfl rfl ⟨Nat.le_of_ble_eq_true rfl, Nat.le_of_ble_eq_true rfl⟩) (wx_preV hK hP hD hS hA hC (by decide) rfl rfl) rfl rfl hl.1 rfl (lv_room (Nat.le_of_ble_eq_true rfl)) wd_K_urgent_3 ⟨Nat.le_of_ble_eq_true rfl, Nat.le_of_ble_eq_true rfl⟩) hD hS hA (fun E q9 ce k9 σ2 H locs e9 hE hP hD hS hc1 hc2 hc3 => ?_) (fun σ1 H locs e9 hP hD hS => ?_)
  · subst e9
    have hf := wc_ctv_l hf
    by_cases ck0 : k9 = 0
    · have hf := wc_t ck0 hf
      subst ck0
      rw [show E = "java/lang/IndexOutOfBoundsException" from hE] at hc3
      refine wz_catch (own := "WidthCampaignsLaw") (E := "java/lang/IndexOutOfBoundsException") [] ⟨0, 6, 9, 20⟩ [⟨0, 6, 12, 13⟩] hown hts hN (by rw [ht]; rfl) (fun _ h => absurd h List.not_mem_nil) (by decide) (by decide) wt_375 (List.mem_of_getElem? (i := 54) rfl) hc1 hc2 hc3 ?_
      refine W.widen (k := 1) (n := 6) (by decide) (by decide) ?_
      refine lv_astore_n (lv' := [(3, .ref q9), (0, .ref (ad 0)), (1, .int a1), (2, .int a2)]) hx hb wd_K_urgent_9 rfl hl (by decide) rfl (fun ls hl => ?_)
      refine lv_iconst (v := 1) hx hb wd_K_urgent_10 (by decide) ?_
      exact wx_iret hx hb hr hlocks hf hP hS wd_K_urgent_11
    · have hf := wc_f ck0 hf
      by_cases ck2 : k9 = 2
      · have hf := wc_t ck2 hf
        subst ck2
        rw [show E = "java/lang/IllegalArgumentException" from hE] at hc3
        refine wz_catch (own := "WidthCampaignsLaw") (E := "java/lang/IllegalArgumentException") [⟨0, 6, 9, 20⟩] ⟨0, 6, 12, 13⟩ [] hown hts hN (by rw [ht]; rfl) (List.forall_mem_cons.mpr ⟨⟨by decide, "java/lang/IndexOutOfBoundsException", wt_375, List.mem_of_getElem? (i := 1) rfl⟩, (fun _ h => absurd h List.not_mem_nil)⟩) (by decide) (by decide) wt_255 (List.mem_of_getElem? (i := 52) rfl) hc1 hc2 hc3 ?_
        refine W.widen (k := 1) (n := 6) (by decide) (by decide) ?_
        refine lv_astore_n (lv' := [(3, .ref q9), (0, .ref (ad 0)), (1, .int a1), (2, .int a2)]) hx hb wd_K_urgent_12 rfl hl (by decide) rfl (fun ls hl => ?_)
        refine lv_iconst (v := 2) hx hb wd_K_urgent_13 (by decide) ?_
        exact wx_iret hx hb hr hlocks hf hP hS wd_K_urgent_14
      · have hf := wc_f ck2 hf
        cases hf
  · subst e9
    have hf := wc_ctv_r hf
    refine W.widen (k := 1) (n := 6) (by decide) (by decide) ?_
    refine lv_goto (tgt := 15) hx hb wd_K_urgent_6 (by decide) ?_
    refine lv_iconst (v := 0) hx hb wd_K_urgent_15 (by decide) ?_
    exact wx_iret hx hb hr hlocks hf hP hS wd_K_urgent_16
set_option maxHeartbeats 4000000 in
set_option maxRecDepth 100000 in
theorem wm_K_old (l : Launch) (D : va_G) (ad : Nat → Nat) (cI cZ cJ cG : ClassId) (htr : l.stackTraces = false) (sz : Nat) (a1 : Int32) (a2 : Int32) (σ : wc_S) (res : Int32 × wc_S) (hf : wf_K_old a1 a2 σ = some res) : Met l wy_K_old (wx_ws_K_old) ({ frames := 8, cells := 1, slots := 6, locals := 132 }) (va_Pc [.ref (ad 0), .int a1, .int a2] (wx_pre D ad cI cZ cJ cG σ sz)) (wx_Qi D ad cI cZ cJ cG res (va_A (wx_W ad cI cZ cJ cG σ) sz)) 1 6 (va_A (wx_W ad cI cZ cJ cG σ) sz) := by
  refine wx_ofH (cc := method_7_code) (maxL := 4) (ret := (some .int)) (Qc := fun A => wx_Qi D ad cI cZ cJ cG res A) [.ref (ad 0), .int a1, .int a2] (by decide) rfl (Nat.le_of_ble_eq_true rfl) ?_
  intro p e s m args below meth c A ls hin ht hl
  obtain ⟨hx, hb, hr, hts, hown, hlocks, hml, hA, hP, hK, hD, hC, hN, hS⟩ := hin
  have hl : lv_has ls 4 [(0, .ref (ad 0)), (1, .int a1), (2, .int a2)] := hl
  unfold wf_K_old at hf
  refine lv_aload_n hx hb wd_K_old_0 rfl (lv_at hl 0 rfl) ?_
  refine lv_iload_n hx hb wd_K_old_1 rfl (lv_at hl 1 rfl) ?_
  refine lv_iload_n hx hb wd_K_old_2 rfl (lv_at hl 2 rfl) ?_
  obtain ⟨q, hq, hf⟩ := wc_ctv_e hf
  refine wx_callvx (wz_runV (As := [.int a1, .int a2]) (rest := []) ⟨hx, hb, hml, hown, hts⟩ (wm_W_old l D ad cI cZ cJ cG htr _ a1 a2 σ _ hq) (wx_cwV 2 hts wt_435 wt_433 wt_434 wt_1 wt_432 wh_W_old rfl rfl ⟨Nat.le_of_ble_eq_true rfl, Nat.le_of_ble_eq_true rfl⟩) (wx_preV hK hP hD hS hA hC (by decide) rfl rfl) rfl rfl hl.1 rfl (lv_room (Nat.le_of_ble_eq_true rfl)) wd_K_old_3 ⟨Nat.le_of_ble_eq_true rfl, Nat.le_of_ble_eq_true rfl⟩) hD hS hA (fun E q9 ce k9 σ2 H locs e9 hE hP hD hS hc1 hc2 hc3 => ?_) (fun σ1 H locs e9 hP hD hS => ?_)
  · subst e9
    have hf := wc_ctv_l hf
    by_cases ck0 : k9 = 0
    · have hf := wc_t ck0 hf
      subst ck0
      rw [show E = "java/lang/IndexOutOfBoundsException" from hE] at hc3
      refine wz_catch (own := "WidthCampaignsLaw") (E := "java/lang/IndexOutOfBoundsException") [] ⟨0, 6, 9, 20⟩ [⟨0, 6, 12, 13⟩] hown hts hN (by rw [ht]; rfl) (fun _ h => absurd h List.not_mem_nil) (by decide) (by decide) wt_375 (List.mem_of_getElem? (i := 54) rfl) hc1 hc2 hc3 ?_
      refine W.widen (k := 1) (n := 6) (by decide) (by decide) ?_
      refine lv_astore_n (lv' := [(3, .ref q9), (0, .ref (ad 0)), (1, .int a1), (2, .int a2)]) hx hb wd_K_old_9 rfl hl (by decide) rfl (fun ls hl => ?_)
      refine lv_iconst (v := 1) hx hb wd_K_old_10 (by decide) ?_
      exact wx_iret hx hb hr hlocks hf hP hS wd_K_old_11
    · have hf := wc_f ck0 hf
      by_cases ck2 : k9 = 2
      · have hf := wc_t ck2 hf
        subst ck2
        rw [show E = "java/lang/IllegalArgumentException" from hE] at hc3
        refine wz_catch (own := "WidthCampaignsLaw") (E := "java/lang/IllegalArgumentException") [⟨0, 6, 9, 20⟩] ⟨0, 6, 12, 13⟩ [] hown hts hN (by rw [ht]; rfl) (List.forall_mem_cons.mpr ⟨⟨by decide, "java/lang/IndexOutOfBoundsException", wt_375, List.mem_of_getElem? (i := 1) rfl⟩, (fun _ h => absurd h List.not_mem_nil)⟩) (by decide) (by decide) wt_255 (List.mem_of_getElem? (i := 52) rfl) hc1 hc2 hc3 ?_
        refine W.widen (k := 1) (n := 6) (by decide) (by decide) ?_
        refine lv_astore_n (lv' := [(3, .ref q9), (0, .ref (ad 0)), (1, .int a1), (2, .int a2)]) hx hb wd_K_old_12 rfl hl (by decide) rfl (fun ls hl => ?_)
        refine lv_iconst (v := 2) hx hb wd_K_old_13 (by decide) ?_
        exact wx_iret hx hb hr hlocks hf hP hS wd_K_old_14
      · have hf := wc_f ck2 hf
        cases hf
  · subst e9
    have hf := wc_ctv_r hf
    refine W.widen (k := 1) (n := 6) (by decide) (by decide) ?_
    refine lv_goto (tgt := 15) hx hb wd_K_old_6 (by decide) ?_
    refine lv_iconst (v := 0) hx hb wd_K_old_15 (by decide) ?_
    exact wx_iret hx hb hr hlocks hf hP hS wd_K_old_16
set_option maxHeartbeats 4000000 in
set_option maxRecDepth 100000 in
theorem wm_K_rules (l : Launch) (D : va_G) (ad : Nat → Nat) (cI cZ cJ cG : ClassId) (htr : l.stackTraces = false) (sz : Nat) (a1 : Int32) (a2 : Int32) (a3 : Int32) (a4 : Int32) (σ : wc_S) (res : Int32 × wc_S) (hf : wf_K_rules a1 a2 a3 a4 σ = some res) : Met l wy_K_rules (wx_ws_K_rules) ({ frames := 8, cells := 1, slots := 6, locals := 134 }) (va_Pc [.ref (ad 0), .int a1, .int a2, .int a3, .int a4] (wx_pre D ad cI cZ cJ cG σ sz)) (wx_Qi D ad cI cZ cJ cG res (va_A (wx_W ad cI cZ cJ cG σ) sz)) 1 6 (va_A (wx_W ad cI cZ cJ cG σ) sz) := by
  refine wx_ofH (cc := method_8_code) (maxL := 6) (ret := (some .int)) (Qc := fun A => wx_Qi D ad cI cZ cJ cG res A) [.ref (ad 0), .int a1, .int a2, .int a3, .int a4] (by decide) rfl (Nat.le_of_ble_eq_true rfl) ?_
  intro p e s m args below meth c A ls hin ht hl
  obtain ⟨hx, hb, hr, hts, hown, hlocks, hml, hA, hP, hK, hD, hC, hN, hS⟩ := hin
  have hl : lv_has ls 6 [(0, .ref (ad 0)), (1, .int a1), (2, .int a2), (3, .int a3), (4, .int a4)] := hl
  unfold wf_K_rules at hf
  refine lv_aload_n hx hb wd_K_rules_0 rfl (lv_at hl 0 rfl) ?_
  refine lv_iload_n hx hb wd_K_rules_1 rfl (lv_at hl 1 rfl) ?_
  refine lv_iload_n hx hb wd_K_rules_2 rfl (lv_at hl 2 rfl) ?_
  refine lv_iload_n hx hb wd_K_rules_3 rfl (lv_at hl 3 rfl) ?_
  refine lv_iload hx hb wd_K_rules_4 (lv_at hl 4 rfl) ?_
  obtain ⟨q, hq, hf⟩ := wc_ctv_e hf
  refine wx_callvx (wz_runV (As := [.int a1, .int a2, .int a3, .int a4]) (rest := []) ⟨hx, hb, hml, hown, hts⟩ (wm_W_rules l D ad cI cZ cJ cG htr _ a1 a2 a3 a4 σ _ hq) (wx_cwV 4 hts wt_443 wt_441 wt_442 wt_1 wt_440 wh_W_rules rfl rfl ⟨Nat.le_of_ble_eq_true rfl, Nat.le_of_ble_eq_true rfl⟩) (wx_preV hK hP hD hS hA hC (by decide) rfl rfl) rfl rfl hl.1 rfl (lv_room (Nat.le_of_ble_eq_true rfl)) wd_K_rules_6 ⟨Nat.le_of_ble_eq_true rfl, Nat.le_of_ble_eq_true rfl⟩) hD hS hA (fun E q9 ce k9 σ2 H locs e9 hE hP hD hS hc1 hc2 hc3 => ?_) (fun σ1 H locs e9 hP hD hS => ?_)
  · subst e9
    have hf := wc_ctv_l hf
    by_cases ck2 : k9 = 2
    · have hf := wc_t ck2 hf
      subst ck2
      rw [show E = "java/lang/IllegalArgumentException" from hE] at hc3
      refine wz_catch (own := "WidthCampaignsLaw") (E := "java/lang/IllegalArgumentException") [] ⟨0, 9, 12, 13⟩ [] hown hts hN (by rw [ht]; rfl) (fun _ h => absurd h List.not_mem_nil) (by decide) (by decide) wt_255 (List.mem_of_getElem? (i := 52) rfl) hc1 hc2 hc3 ?_
      refine W.widen (k := 1) (n := 6) (by decide) (by decide) ?_
      refine lv_astore (lv' := [(5, .ref q9), (0, .ref (ad 0)), (1, .int a1), (2, .int a2), (3, .int a3), (4, .int a4)]) hx hb wd_K_rules_12 hl (by decide) rfl (fun ls hl => ?_)
      refine lv_iconst (v := 1) hx hb wd_K_rules_14 (by decide) ?_
      exact wx_iret hx hb hr hlocks hf hP hS wd_K_rules_15
    · have hf := wc_f ck2 hf
      cases hf
  · subst e9
    have hf := wc_ctv_r hf
    refine W.widen (k := 1) (n := 6) (by decide) (by decide) ?_
    refine lv_goto (tgt := 16) hx hb wd_K_rules_9 (by decide) ?_
    refine lv_iconst (v := 0) hx hb wd_K_rules_16 (by decide) ?_
    exact wx_iret hx hb hr hlocks hf hP hS wd_K_rules_17
set_option maxHeartbeats 4000000 in
set_option maxRecDepth 100000 in
theorem wm_K_run (l : Launch) (D : va_G) (ad : Nat → Nat) (cI cZ cJ cG : ClassId) (htr : l.stackTraces = false) (sz : Nat) (a1 : Int32) (σ : wc_S) (res : Int32 × wc_S) (hf : wf_K_run a1 σ = some res) : Met l wy_K_run (wx_ws_K_run) ({ frames := 28, cells := 1, slots := 6, locals := 628 }) (va_Pc [.ref (ad 0), .int a1, .ref (ad 88)] (wx_pre D ad cI cZ cJ cG σ sz)) (wx_Qi D ad cI cZ cJ cG res (va_A (wx_W ad cI cZ cJ cG σ) sz)) 1 6 (va_A (wx_W ad cI cZ cJ cG σ) sz) := by
  refine wx_ofH (cc := method_9_code) (maxL := 4) (ret := (some .int)) (Qc := fun A => wx_Qi D ad cI cZ cJ cG res A) [.ref (ad 0), .int a1, .ref (ad 88)] (by decide) rfl (Nat.le_of_ble_eq_true rfl) ?_
  intro p e s m args below meth c A ls hin ht hl
  obtain ⟨hx, hb, hr, hts, hown, hlocks, hml, hA, hP, hK, hD, hC, hN, hS⟩ := hin
  have hl : lv_has ls 4 [(0, .ref (ad 0)), (1, .int a1), (2, .ref (ad 88))] := hl
  unfold wf_K_run at hf
  refine lv_aload_n hx hb wd_K_run_0 rfl (lv_at hl 2 rfl) ?_
  refine lv_iconst (v := 0) hx hb wd_K_run_1 (by decide) ?_
  refine lv_aload_n hx hb wd_K_run_2 rfl (lv_at hl 0 rfl) ?_
  refine lv_iload_n hx hb wd_K_run_3 rfl (lv_at hl 1 rfl) ?_
  obtain ⟨q, hq, hf⟩ := wc_cti_e hf
  refine wx_callix (wz_runV (As := [.int a1]) (rest := [.int 0, .ref (ad 88)]) ⟨hx, hb, hml, hown, hts⟩ (wm_W_run l D ad cI cZ cJ cG htr _ a1 σ _ hq) (wx_cwV 1 hts wt_451 wt_449 wt_450 wt_1 wt_448 wh_W_run rfl rfl ⟨Nat.le_of_ble_eq_true rfl, Nat.le_of_ble_eq_true rfl⟩) (wx_preV hK hP hD hS hA hC (by decide) rfl rfl) rfl rfl hl.1 rfl (lv_room (Nat.le_of_ble_eq_true rfl)) wd_K_run_4 ⟨Nat.le_of_ble_eq_true rfl, Nat.le_of_ble_eq_true rfl⟩) hD hS hA (fun E q9 ce k9 σ3 H locs e9 hE hP hD hS hc1 hc2 hc3 => ?_) (fun r2 σ1 H locs e9 hP hD hS => ?_)
  · subst e9
    have hf := wc_cti_l hf
    by_cases ck2 : k9 = 2
    · have hf := wc_t ck2 hf
      subst ck2
      rw [show E = "java/lang/IllegalArgumentException" from hE] at hc3
      refine wz_catch (own := "WidthCampaignsLaw") (E := "java/lang/IllegalArgumentException") [] ⟨0, 9, 12, 13⟩ [] hown hts hN (by rw [ht]; rfl) (fun _ h => absurd h List.not_mem_nil) (by decide) (by decide) wt_255 (List.mem_of_getElem? (i := 52) rfl) hc1 hc2 hc3 ?_
      refine W.widen (k := 1) (n := 6) (by decide) (by decide) ?_
      refine lv_astore_n (lv' := [(3, .ref q9), (0, .ref (ad 0)), (1, .int a1), (2, .ref (ad 88))]) hx hb wd_K_run_12 rfl hl (by decide) rfl (fun ls hl => ?_)
      refine lv_iconst (v := 1) hx hb wd_K_run_13 (by decide) ?_
      exact wx_iret hx hb hr hlocks hf hP hS wd_K_run_14
    · have hf := wc_f ck2 hf
      cases hf
  · subst e9
    have hf := wc_cti_r hf
    refine W.widen (k := 1) (n := 6) (by decide) (by decide) ?_
    refine lv_i2l hx hb wd_K_run_7 rfl ?_
    obtain ⟨h4, hf⟩ := wc_gd_e hf
    refine wx_last (x := r2) hx hb hK hP hD hS h4 rfl wd_K_run_8 (fun σ5 H locs eσ5 hP hD hS => ?_)
    have hf := wc_st_e eσ5 hf
    refine lv_goto (tgt := 15) hx hb wd_K_run_9 (by decide) ?_
    refine lv_iconst (v := 0) hx hb wd_K_run_15 (by decide) ?_
    exact wx_iret hx hb hr hlocks hf hP hS wd_K_run_16
