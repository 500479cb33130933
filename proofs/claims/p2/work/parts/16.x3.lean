set_option maxHeartbeats 4000000 in
set_option maxRecDepth 100000 in
theorem wm_K_proved (l : Launch) (D : va_G) (ad : Nat → Nat) (cI cZ cJ cG : ClassId) (htr : l.stackTraces = false) (sz : Nat) (σ : wc_S) (res : Int32 × wc_S) (hf : wf_K_proved  σ = some res) : Met l wy_K_proved (wx_ws_K_proved) ({ frames := 8, cells := 1, slots := 6, locals := 130 }) (va_Pc [.ref (ad 0), .ref (ad 88)] (wx_pre D ad cI cZ cJ cG σ sz)) (wx_Qi D ad cI cZ cJ cG res (va_A (wx_W ad cI cZ cJ cG σ) sz)) 1 6 (va_A (wx_W ad cI cZ cJ cG σ) sz) := by
  refine wx_ofH (cc := method_10_code) (maxL := 3) (ret := (some .int)) (Qc := fun A => wx_Qi D ad cI cZ cJ cG res A) [.ref (ad 0), .ref (ad 88)] (by decide) rfl (Nat.le_of_ble_eq_true rfl) ?_
  intro p e s m args below meth c A ls hin ht hl
  obtain ⟨hx, hb, hr, hts, hown, hlocks, hml, hA, hP, hK, hD, hC, hN, hS⟩ := hin
  have hl : lv_has ls 3 [(0, .ref (ad 0)), (1, .ref (ad 88))] := hl
  unfold wf_K_proved at hf
  refine lv_aload_n hx hb wd_K_proved_0 rfl (lv_at hl 1 rfl) ?_
  refine lv_iconst (v := 0) hx hb wd_K_proved_1 (by decide) ?_
  refine lv_aload_n hx hb wd_K_proved_2 rfl (lv_at hl 0 rfl) ?_
  obtain ⟨q, hq, hf⟩ := wc_cti_e hf
  refine wx_callix (wz_runV (As := []) (rest := [.int 0, .ref (ad 88)]) ⟨hx, hb, hml, hown, hts⟩ (wm_W_proved l D ad cI cZ cJ cG htr _ σ _ hq) (wx_cwV 0 hts wt_528 wt_526 wt_527 wt_1 wt_525 wh_W_proved rfl rfl ⟨Nat.le_of_ble_eq_true rfl, Nat.le_of_ble_eq_true rfl⟩) (wx_preV hK hP hD hS hA hC (by decide) rfl rfl) rfl rfl hl.1 rfl (lv_room (Nat.le_of_ble_eq_true rfl)) wd_K_proved_3 ⟨Nat.le_of_ble_eq_true rfl, Nat.le_of_ble_eq_true rfl⟩) hD hS hA (fun E q9 ce k9 σ3 H locs e9 hE hP hD hS hc1 hc2 hc3 => ?_) (fun r2 σ1 H locs e9 hP hD hS => ?_)
  · subst e9
    have hf := wc_cti_l hf
    by_cases ck1 : k9 = 1
    · have hf := wc_t ck1 hf
      subst ck1
      rw [show E = "java/lang/IllegalStateException" from hE] at hc3
      refine wz_catch (own := "WidthCampaignsLaw") (E := "java/lang/IllegalStateException") [] ⟨0, 15, 18, 45⟩ [] hown hts hN (by rw [ht]; rfl) (fun _ h => absurd h List.not_mem_nil) (by decide) (by decide) wt_524 (List.mem_of_getElem? (i := 55) rfl) hc1 hc2 hc3 ?_
      refine W.widen (k := 1) (n := 6) (by decide) (by decide) ?_
      refine lv_astore_n (lv' := [(2, .ref q9), (0, .ref (ad 0)), (1, .ref (ad 88))]) hx hb wd_K_proved_18 rfl hl (by decide) rfl (fun ls hl => ?_)
      refine lv_iconst (v := 1) hx hb wd_K_proved_19 (by decide) ?_
      exact wx_iret hx hb hr hlocks hf hP hS wd_K_proved_20
    · have hf := wc_f ck1 hf
      cases hf
  · subst e9
    have hf := wc_cti_r hf
    refine W.widen (k := 1) (n := 6) (by decide) (by decide) ?_
    refine lv_if_eq (tgt := 13) hx hb wd_K_proved_6 (by decide) (fun c4 => ?_) (fun c4 => ?_)
    · have hf := wc_t c4 hf
      refine lv_lconst (v := 0) hx hb wd_K_proved_13 (by decide) ?_
      obtain ⟨h5, hf⟩ := wc_gd_e hf
      refine wx_last (x := 0) hx hb hK hP hD hS h5 rfl wd_K_proved_14 (fun σ6 H locs eσ6 hP hD hS => ?_)
      have hf := wc_st_e eσ6 hf
      refine lv_goto (tgt := 21) hx hb wd_K_proved_15 (by decide) ?_
      refine lv_iconst (v := 0) hx hb wd_K_proved_21 (by decide) ?_
      exact wx_iret hx hb hr hlocks hf hP hS wd_K_proved_22
    · have hf := wc_f c4 hf
      refine lv_lconst (v := 1) hx hb wd_K_proved_9 (by decide) ?_
      refine lv_goto (tgt := 14) hx hb wd_K_proved_10 (by decide) ?_
      obtain ⟨h7, hf⟩ := wc_gd_e hf
      refine wx_last (x := 1) hx hb hK hP hD hS h7 rfl wd_K_proved_14 (fun σ8 H locs eσ8 hP hD hS => ?_)
      have hf := wc_st_e eσ8 hf
      refine lv_goto (tgt := 21) hx hb wd_K_proved_15 (by decide) ?_
      refine lv_iconst (v := 0) hx hb wd_K_proved_21 (by decide) ?_
      exact wx_iret hx hb hr hlocks hf hP hS wd_K_proved_22
set_option maxHeartbeats 4000000 in
set_option maxRecDepth 100000 in
theorem wm_K_order (l : Launch) (D : va_G) (ad : Nat → Nat) (cI cZ cJ cG : ClassId) (htr : l.stackTraces = false) (sz : Nat) (a1 : Int32) (σ : wc_S) (res : Int32 × wc_S) (hf : wf_K_order a1 σ = some res) : Met l wy_K_order (wx_ws_K_order) ({ frames := 9, cells := 2, slots := 12, locals := 152 }) (va_Pc [.ref (ad 0), .int a1, .ref (ad 88)] (wx_pre D ad cI cZ cJ cG σ sz)) (wx_Qi D ad cI cZ cJ cG res (va_A (wx_W ad cI cZ cJ cG σ) sz)) 2 12 (va_A (wx_W ad cI cZ cJ cG σ) sz) := by
  refine wx_ofH (cc := method_11_code) (maxL := 4) (ret := (some .int)) (Qc := fun A => wx_Qi D ad cI cZ cJ cG res A) [.ref (ad 0), .int a1, .ref (ad 88)] (by decide) rfl (Nat.le_of_ble_eq_true rfl) ?_
  intro p e s m args below meth c A ls hin ht hl
  obtain ⟨hx, hb, hr, hts, hown, hlocks, hml, hA, hP, hK, hD, hC, hN, hS⟩ := hin
  have hl : lv_has ls 4 [(0, .ref (ad 0)), (1, .int a1), (2, .ref (ad 88))] := hl
  unfold wf_K_order at hf
  refine lv_aload_n hx hb wd_K_order_0 rfl (lv_at hl 2 rfl) ?_
  refine lv_iconst (v := 0) hx hb wd_K_order_1 (by decide) ?_
  refine lv_aload_n hx hb wd_K_order_2 rfl (lv_at hl 0 rfl) ?_
  refine lv_iload_n hx hb wd_K_order_3 rfl (lv_at hl 1 rfl) ?_
  obtain ⟨q, hq, hf⟩ := wc_cti_e hf
  refine wx_callix (wz_runV (As := [.int a1]) (rest := [.int 0, .ref (ad 88)]) ⟨hx, hb, hml, hown, hts⟩ (wm_W_order l D ad cI cZ cJ cG htr _ a1 σ _ hq) (wx_cwV 1 hts wt_551 wt_549 wt_550 wt_1 wt_548 wh_W_order rfl rfl ⟨Nat.le_of_ble_eq_true rfl, Nat.le_of_ble_eq_true rfl⟩) (wx_preV hK hP hD hS hA hC (by decide) rfl rfl) rfl rfl hl.1 rfl (lv_room (Nat.le_of_ble_eq_true rfl)) wd_K_order_4 ⟨Nat.le_of_ble_eq_true rfl, Nat.le_of_ble_eq_true rfl⟩) hD hS hA (fun E q9 ce k9 σ3 H locs e9 hE hP hD hS hc1 hc2 hc3 => ?_) (fun r2 σ1 H locs e9 hP hD hS => ?_)
  · subst e9
    have hf := wc_cti_l hf
    by_cases ck0 : k9 = 0
    · have hf := wc_t ck0 hf
      subst ck0
      rw [show E = "java/lang/IndexOutOfBoundsException" from hE] at hc3
      refine wz_catch (own := "WidthCampaignsLaw") (E := "java/lang/IndexOutOfBoundsException") [] ⟨0, 9, 12, 20⟩ [⟨0, 9, 15, 45⟩] hown hts hN (by rw [ht]; rfl) (fun _ h => absurd h List.not_mem_nil) (by decide) (by decide) wt_375 (List.mem_of_getElem? (i := 54) rfl) hc1 hc2 hc3 ?_
      refine W.widen (k := 2) (n := 12) (by decide) (by decide) ?_
      refine lv_astore_n (lv' := [(3, .ref q9), (0, .ref (ad 0)), (1, .int a1), (2, .ref (ad 88))]) hx hb wd_K_order_12 rfl hl (by decide) rfl (fun ls hl => ?_)
      refine lv_iconst (v := 1) hx hb wd_K_order_13 (by decide) ?_
      exact wx_iret hx hb hr hlocks hf hP hS wd_K_order_14
    · have hf := wc_f ck0 hf
      by_cases ck1 : k9 = 1
      · have hf := wc_t ck1 hf
        subst ck1
        rw [show E = "java/lang/IllegalStateException" from hE] at hc3
        refine wz_catch (own := "WidthCampaignsLaw") (E := "java/lang/IllegalStateException") [⟨0, 9, 12, 20⟩] ⟨0, 9, 15, 45⟩ [] hown hts hN (by rw [ht]; rfl) (List.forall_mem_cons.mpr ⟨⟨by decide, "java/lang/IndexOutOfBoundsException", wt_375, List.mem_of_getElem? (i := 4) rfl⟩, (fun _ h => absurd h List.not_mem_nil)⟩) (by decide) (by decide) wt_524 (List.mem_of_getElem? (i := 55) rfl) hc1 hc2 hc3 ?_
        refine W.widen (k := 2) (n := 12) (by decide) (by decide) ?_
        refine lv_astore_n (lv' := [(3, .ref q9), (0, .ref (ad 0)), (1, .int a1), (2, .ref (ad 88))]) hx hb wd_K_order_15 rfl hl (by decide) rfl (fun ls hl => ?_)
        refine lv_iconst (v := 2) hx hb wd_K_order_16 (by decide) ?_
        exact wx_iret hx hb hr hlocks hf hP hS wd_K_order_17
      · have hf := wc_f ck1 hf
        cases hf
  · subst e9
    have hf := wc_cti_r hf
    refine W.widen (k := 2) (n := 12) (by decide) (by decide) ?_
    refine lv_i2l hx hb wd_K_order_7 rfl ?_
    obtain ⟨h4, hf⟩ := wc_gd_e hf
    refine wx_last (x := r2) hx hb hK hP hD hS h4 rfl wd_K_order_8 (fun σ5 H locs eσ5 hP hD hS => ?_)
    have hf := wc_st_e eσ5 hf
    refine lv_goto (tgt := 18) hx hb wd_K_order_9 (by decide) ?_
    refine lv_iconst (v := 0) hx hb wd_K_order_18 (by decide) ?_
    exact wx_iret hx hb hr hlocks hf hP hS wd_K_order_19
set_option maxHeartbeats 4000000 in
set_option maxRecDepth 100000 in
theorem wm_K_told (l : Launch) (D : va_G) (ad : Nat → Nat) (cI cZ cJ cG : ClassId) (htr : l.stackTraces = false) (sz : Nat) (a1 : Int32) (σ : wc_S) (res : Int32 × wc_S) (hf : wf_K_told a1 σ = some res) : Met l wy_K_told (wx_ws_K_told) ({ frames := 9, cells := 2, slots := 12, locals := 151 }) (va_Pc [.ref (ad 0), .int a1, .ref (ad 88)] (wx_pre D ad cI cZ cJ cG σ sz)) (wx_Qi D ad cI cZ cJ cG res (va_A (wx_W ad cI cZ cJ cG σ) sz)) 2 12 (va_A (wx_W ad cI cZ cJ cG σ) sz) := by
  refine wx_ofH (cc := method_12_code) (maxL := 4) (ret := (some .int)) (Qc := fun A => wx_Qi D ad cI cZ cJ cG res A) [.ref (ad 0), .int a1, .ref (ad 88)] (by decide) rfl (Nat.le_of_ble_eq_true rfl) ?_
  intro p e s m args below meth c A ls hin ht hl
  obtain ⟨hx, hb, hr, hts, hown, hlocks, hml, hA, hP, hK, hD, hC, hN, hS⟩ := hin
  have hl : lv_has ls 4 [(0, .ref (ad 0)), (1, .int a1), (2, .ref (ad 88))] := hl
  unfold wf_K_told at hf
  refine lv_aload_n hx hb wd_K_told_0 rfl (lv_at hl 2 rfl) ?_
  refine lv_iconst (v := 0) hx hb wd_K_told_1 (by decide) ?_
  refine lv_aload_n hx hb wd_K_told_2 rfl (lv_at hl 0 rfl) ?_
  refine lv_iload_n hx hb wd_K_told_3 rfl (lv_at hl 1 rfl) ?_
  obtain ⟨q, hq, hf⟩ := wc_cti_e hf
  refine wx_callix (wz_runV (As := [.int a1]) (rest := [.int 0, .ref (ad 88)]) ⟨hx, hb, hml, hown, hts⟩ (wm_W_told l D ad cI cZ cJ cG htr _ a1 σ _ hq) (wx_cwV 1 hts wt_568 wt_566 wt_567 wt_1 wt_565 wh_W_told rfl rfl ⟨Nat.le_of_ble_eq_true rfl, Nat.le_of_ble_eq_true rfl⟩) (wx_preV hK hP hD hS hA hC (by decide) rfl rfl) rfl rfl hl.1 rfl (lv_room (Nat.le_of_ble_eq_true rfl)) wd_K_told_4 ⟨Nat.le_of_ble_eq_true rfl, Nat.le_of_ble_eq_true rfl⟩) hD hS hA (fun E q9 ce k9 σ3 H locs e9 hE hP hD hS hc1 hc2 hc3 => ?_) (fun r2 σ1 H locs e9 hP hD hS => ?_)
  · subst e9
    have hf := wc_cti_l hf
    by_cases ck0 : k9 = 0
    · have hf := wc_t ck0 hf
      subst ck0
      rw [show E = "java/lang/IndexOutOfBoundsException" from hE] at hc3
      refine wz_catch (own := "WidthCampaignsLaw") (E := "java/lang/IndexOutOfBoundsException") [] ⟨0, 9, 12, 20⟩ [⟨0, 9, 15, 45⟩] hown hts hN (by rw [ht]; rfl) (fun _ h => absurd h List.not_mem_nil) (by decide) (by decide) wt_375 (List.mem_of_getElem? (i := 54) rfl) hc1 hc2 hc3 ?_
      refine W.widen (k := 2) (n := 12) (by decide) (by decide) ?_
      refine lv_astore_n (lv' := [(3, .ref q9), (0, .ref (ad 0)), (1, .int a1), (2, .ref (ad 88))]) hx hb wd_K_told_12 rfl hl (by decide) rfl (fun ls hl => ?_)
      refine lv_iconst (v := 1) hx hb wd_K_told_13 (by decide) ?_
      exact wx_iret hx hb hr hlocks hf hP hS wd_K_told_14
    · have hf := wc_f ck0 hf
      by_cases ck1 : k9 = 1
      · have hf := wc_t ck1 hf
        subst ck1
        rw [show E = "java/lang/IllegalStateException" from hE] at hc3
        refine wz_catch (own := "WidthCampaignsLaw") (E := "java/lang/IllegalStateException") [⟨0, 9, 12, 20⟩] ⟨0, 9, 15, 45⟩ [] hown hts hN (by rw [ht]; rfl) (List.forall_mem_cons.mpr ⟨⟨by decide, "java/lang/IndexOutOfBoundsException", wt_375, List.mem_of_getElem? (i := 4) rfl⟩, (fun _ h => absurd h List.not_mem_nil)⟩) (by decide) (by decide) wt_524 (List.mem_of_getElem? (i := 55) rfl) hc1 hc2 hc3 ?_
        refine W.widen (k := 2) (n := 12) (by decide) (by decide) ?_
        refine lv_astore_n (lv' := [(3, .ref q9), (0, .ref (ad 0)), (1, .int a1), (2, .ref (ad 88))]) hx hb wd_K_told_15 rfl hl (by decide) rfl (fun ls hl => ?_)
        refine lv_iconst (v := 2) hx hb wd_K_told_16 (by decide) ?_
        exact wx_iret hx hb hr hlocks hf hP hS wd_K_told_17
      · have hf := wc_f ck1 hf
        cases hf
  · subst e9
    have hf := wc_cti_r hf
    refine W.widen (k := 2) (n := 12) (by decide) (by decide) ?_
    refine lv_i2l hx hb wd_K_told_7 rfl ?_
    obtain ⟨h4, hf⟩ := wc_gd_e hf
    refine wx_last (x := r2) hx hb hK hP hD hS h4 rfl wd_K_told_8 (fun σ5 H locs eσ5 hP hD hS => ?_)
    have hf := wc_st_e eσ5 hf
    refine lv_goto (tgt := 18) hx hb wd_K_told_9 (by decide) ?_
    refine lv_iconst (v := 0) hx hb wd_K_told_18 (by decide) ?_
    exact wx_iret hx hb hr hlocks hf hP hS wd_K_told_19
set_option maxHeartbeats 4000000 in
set_option maxRecDepth 100000 in
theorem wm_K_change (l : Launch) (D : va_G) (ad : Nat → Nat) (cI cZ cJ cG : ClassId) (htr : l.stackTraces = false) (sz : Nat) (a1 : Int32) (σ : wc_S) (res : Int32 × wc_S) (hf : wf_K_change a1 σ = some res) : Met l wy_K_change (wx_ws_K_change) ({ frames := 9, cells := 2, slots := 12, locals := 152 }) (va_Pc [.ref (ad 0), .int a1, .ref (ad 88)] (wx_pre D ad cI cZ cJ cG σ sz)) (wx_Qi D ad cI cZ cJ cG res (va_A (wx_W ad cI cZ cJ cG σ) sz)) 2 12 (va_A (wx_W ad cI cZ cJ cG σ) sz) := by
  refine wx_ofH (cc := method_13_code) (maxL := 4) (ret := (some .int)) (Qc := fun A => wx_Qi D ad cI cZ cJ cG res A) [.ref (ad 0), .int a1, .ref (ad 88)] (by decide) rfl (Nat.le_of_ble_eq_true rfl) ?_
  intro p e s m args below meth c A ls hin ht hl
  obtain ⟨hx, hb, hr, hts, hown, hlocks, hml, hA, hP, hK, hD, hC, hN, hS⟩ := hin
  have hl : lv_has ls 4 [(0, .ref (ad 0)), (1, .int a1), (2, .ref (ad 88))] := hl
  unfold wf_K_change at hf
  refine lv_aload_n hx hb wd_K_change_0 rfl (lv_at hl 2 rfl) ?_
  refine lv_iconst (v := 0) hx hb wd_K_change_1 (by decide) ?_
  refine lv_aload_n hx hb wd_K_change_2 rfl (lv_at hl 0 rfl) ?_
  refine lv_iload_n hx hb wd_K_change_3 rfl (lv_at hl 1 rfl) ?_
  obtain ⟨q, hq, hf⟩ := wc_cti_e hf
  refine wx_callix (wz_runV (As := [.int a1]) (rest := [.int 0, .ref (ad 88)]) ⟨hx, hb, hml, hown, hts⟩ (wm_W_change l D ad cI cZ cJ cG htr _ a1 σ _ hq) (wx_cwV 1 hts wt_585 wt_583 wt_584 wt_1 wt_582 wh_W_change rfl rfl ⟨Nat.le_of_ble_eq_true rfl, Nat.le_of_ble_eq_true rfl⟩) (wx_preV hK hP hD hS hA hC (by decide) rfl rfl) rfl rfl hl.1 rfl (lv_room (Nat.le_of_ble_eq_true rfl)) wd_K_change_4 ⟨Nat.le_of_ble_eq_true rfl, Nat.le_of_ble_eq_true rfl⟩) hD hS hA (fun E q9 ce k9 σ3 H locs e9 hE hP hD hS hc1 hc2 hc3 => ?_) (fun r2 σ1 H locs e9 hP hD hS => ?_)
  · subst e9
    have hf := wc_cti_l hf
    by_cases ck0 : k9 = 0
    · have hf := wc_t ck0 hf
      subst ck0
      rw [show E = "java/lang/IndexOutOfBoundsException" from hE] at hc3
      refine wz_catch (own := "WidthCampaignsLaw") (E := "java/lang/IndexOutOfBoundsException") [] ⟨0, 16, 19, 20⟩ [⟨0, 16, 22, 45⟩] hown hts hN (by rw [ht]; rfl) (fun _ h => absurd h List.not_mem_nil) (by decide) (by decide) wt_375 (List.mem_of_getElem? (i := 54) rfl) hc1 hc2 hc3 ?_
      refine W.widen (k := 2) (n := 12) (by decide) (by decide) ?_
      refine lv_astore_n (lv' := [(3, .ref q9), (0, .ref (ad 0)), (1, .int a1), (2, .ref (ad 88))]) hx hb wd_K_change_19 rfl hl (by decide) rfl (fun ls hl => ?_)
      refine lv_iconst (v := 1) hx hb wd_K_change_20 (by decide) ?_
      exact wx_iret hx hb hr hlocks hf hP hS wd_K_change_21
    · have hf := wc_f ck0 hf
      by_cases ck1 : k9 = 1
      · have hf := wc_t ck1 hf
        subst ck1
        rw [show E = "java/lang/IllegalStateException" from hE] at hc3
        refine wz_catch (own := "WidthCampaignsLaw") (E := "java/lang/IllegalStateException") [⟨0, 16, 19, 20⟩] ⟨0, 16, 22, 45⟩ [] hown hts hN (by rw [ht]; rfl) (List.forall_mem_cons.mpr ⟨⟨by decide, "java/lang/IndexOutOfBoundsException", wt_375, List.mem_of_getElem? (i := 4) rfl⟩, (fun _ h => absurd h List.not_mem_nil)⟩) (by decide) (by decide) wt_524 (List.mem_of_getElem? (i := 55) rfl) hc1 hc2 hc3 ?_
        refine W.widen (k := 2) (n := 12) (by decide) (by decide) ?_
        refine lv_astore_n (lv' := [(3, .ref q9), (0, .ref (ad 0)), (1, .int a1), (2, .ref (ad 88))]) hx hb wd_K_change_22 rfl hl (by decide) rfl (fun ls hl => ?_)
        refine lv_iconst (v := 2) hx hb wd_K_change_23 (by decide) ?_
        exact wx_iret hx hb hr hlocks hf hP hS wd_K_change_24
      · have hf := wc_f ck1 hf
        cases hf
  · subst e9
    have hf := wc_cti_r hf
    refine W.widen (k := 2) (n := 12) (by decide) (by decide) ?_
    refine lv_if_eq (tgt := 14) hx hb wd_K_change_7 (by decide) (fun c4 => ?_) (fun c4 => ?_)
    · have hf := wc_t c4 hf
      refine lv_lconst (v := 0) hx hb wd_K_change_14 (by decide) ?_
      obtain ⟨h5, hf⟩ := wc_gd_e hf
      refine wx_last (x := 0) hx hb hK hP hD hS h5 rfl wd_K_change_15 (fun σ6 H locs eσ6 hP hD hS => ?_)
      have hf := wc_st_e eσ6 hf
      refine lv_goto (tgt := 25) hx hb wd_K_change_16 (by decide) ?_
      refine lv_iconst (v := 0) hx hb wd_K_change_25 (by decide) ?_
      exact wx_iret hx hb hr hlocks hf hP hS wd_K_change_26
    · have hf := wc_f c4 hf
      refine lv_lconst (v := 1) hx hb wd_K_change_10 (by decide) ?_
      refine lv_goto (tgt := 15) hx hb wd_K_change_11 (by decide) ?_
      obtain ⟨h7, hf⟩ := wc_gd_e hf
      refine wx_last (x := 1) hx hb hK hP hD hS h7 rfl wd_K_change_15 (fun σ8 H locs eσ8 hP hD hS => ?_)
      have hf := wc_st_e eσ8 hf
      refine lv_goto (tgt := 25) hx hb wd_K_change_16 (by decide) ?_
      refine lv_iconst (v := 0) hx hb wd_K_change_25 (by decide) ?_
      exact wx_iret hx hb hr hlocks hf hP hS wd_K_change_26
set_option maxHeartbeats 4000000 in
set_option maxRecDepth 100000 in
theorem wm_K_jump (l : Launch) (D : va_G) (ad : Nat → Nat) (cI cZ cJ cG : ClassId) (htr : l.stackTraces = false) (sz : Nat) (a1 : Int32) (a2 : Int32) (σ : wc_S) (res : Int32 × wc_S) (hf : wf_K_jump a1 a2 σ = some res) : Met l wy_K_jump (wx_ws_K_jump) ({ frames := 8, cells := 1, slots := 6, locals := 132 }) (va_Pc [.ref (ad 0), .int a1, .int a2, .ref (ad 88)] (wx_pre D ad cI cZ cJ cG σ sz)) (wx_Qi D ad cI cZ cJ cG res (va_A (wx_W ad cI cZ cJ cG σ) sz)) 1 6 (va_A (wx_W ad cI cZ cJ cG σ) sz) := by
  refine wx_ofH (cc := method_14_code) (maxL := 5) (ret := (some .int)) (Qc := fun A => wx_Qi D ad cI cZ cJ cG res A) [.ref (ad 0), .int a1, .int a2, .ref (ad 88)] (by decide) rfl (Nat.le_of_ble_eq_true rfl) ?_
  intro p e s m args below meth c A ls hin ht hl
  obtain ⟨hx, hb, hr, hts, hown, hlocks, hml, hA, hP, hK, hD, hC, hN, hS⟩ := hin
  have hl : lv_has ls 5 [(0, .ref (ad 0)), (1, .int a1), (2, .int a2), (3, .ref (ad 88))] := hl
  unfold wf_K_jump at hf
  refine lv_aload_n hx hb wd_K_jump_0 rfl (lv_at hl 3 rfl) ?_
  refine lv_iconst (v := 0) hx hb wd_K_jump_1 (by decide) ?_
  refine lv_aload_n hx hb wd_K_jump_2 rfl (lv_at hl 0 rfl) ?_
  refine lv_iload_n hx hb wd_K_jump_3 rfl (lv_at hl 1 rfl) ?_
  refine lv_iload_n hx hb wd_K_jump_4 rfl (lv_at hl 2 rfl) ?_
  obtain ⟨q, hq, hf⟩ := wc_cti_e hf
  refine wx_callix (wz_runV (As := [.int a1, .int a2]) (rest := [.int 0, .ref (ad 88)]) ⟨hx, hb, hml, hown, hts⟩ (wm_W_jump l D ad cI cZ cJ cG htr _ a1 a2 σ _ hq) (wx_cwV 2 hts wt_592 wt_590 wt_591 wt_1 wt_589 wh_W_jump rfl rfl ⟨Nat.le_of_ble_eq_true rfl, Nat.le_of_ble_eq_true rfl⟩) (wx_preV hK hP hD hS hA hC (by decide) rfl rfl) rfl rfl hl.1 rfl (lv_room (Nat.le_of_ble_eq_true rfl)) wd_K_jump_5 ⟨Nat.le_of_ble_eq_true rfl, Nat.le_of_ble_eq_true rfl⟩) hD hS hA (fun E q9 ce k9 σ3 H locs e9 hE hP hD hS hc1 hc2 hc3 => ?_) (fun r2 σ1 H locs e9 hP hD hS => ?_)
  · subst e9
    have hf := wc_cti_l hf
    by_cases ck0 : k9 = 0
    · have hf := wc_t ck0 hf
      subst ck0
      rw [show E = "java/lang/IndexOutOfBoundsException" from hE] at hc3
      refine wz_catch (own := "WidthCampaignsLaw") (E := "java/lang/IndexOutOfBoundsException") [] ⟨0, 10, 13, 20⟩ [] hown hts hN (by rw [ht]; rfl) (fun _ h => absurd h List.not_mem_nil) (by decide) (by decide) wt_375 (List.mem_of_getElem? (i := 54) rfl) hc1 hc2 hc3 ?_
      refine W.widen (k := 1) (n := 6) (by decide) (by decide) ?_
      refine lv_astore (lv' := [(4, .ref q9), (0, .ref (ad 0)), (1, .int a1), (2, .int a2), (3, .ref (ad 88))]) hx hb wd_K_jump_13 hl (by decide) rfl (fun ls hl => ?_)
      refine lv_iconst (v := 1) hx hb wd_K_jump_15 (by decide) ?_
      exact wx_iret hx hb hr hlocks hf hP hS wd_K_jump_16
    · have hf := wc_f ck0 hf
      cases hf
  · subst e9
    have hf := wc_cti_r hf
    refine W.widen (k := 1) (n := 6) (by decide) (by decide) ?_
    refine lv_i2l hx hb wd_K_jump_8 rfl ?_
    obtain ⟨h4, hf⟩ := wc_gd_e hf
    refine wx_last (x := r2) hx hb hK hP hD hS h4 rfl wd_K_jump_9 (fun σ5 H locs eσ5 hP hD hS => ?_)
    have hf := wc_st_e eσ5 hf
    refine lv_goto (tgt := 17) hx hb wd_K_jump_10 (by decide) ?_
    refine lv_iconst (v := 0) hx hb wd_K_jump_17 (by decide) ?_
    exact wx_iret hx hb hr hlocks hf hP hS wd_K_jump_18
set_option maxHeartbeats 4000000 in
set_option maxRecDepth 100000 in
theorem wm_K_tell (l : Launch) (D : va_G) (ad : Nat → Nat) (cI cZ cJ cG : ClassId) (htr : l.stackTraces = false) (sz : Nat) (a1 : Int64) (σ : wc_S) (res : Int32 × wc_S) (hf : wf_K_tell a1 σ = some res) : Met l wy_K_tell (wx_ws_K_tell) ({ frames := 8, cells := 1, slots := 6, locals := 132 }) (va_Pc [.ref (ad 0), .long a1] (wx_pre D ad cI cZ cJ cG σ sz)) (wx_Qi D ad cI cZ cJ cG res (va_A (wx_W ad cI cZ cJ cG σ) sz)) 1 6 (va_A (wx_W ad cI cZ cJ cG σ) sz) := by
  refine wx_ofH (cc := method_15_code) (maxL := 4) (ret := (some .int)) (Qc := fun A => wx_Qi D ad cI cZ cJ cG res A) [.ref (ad 0), .long a1] (by decide) rfl (Nat.le_of_ble_eq_true rfl) ?_
  intro p e s m args below meth c A ls hin ht hl
  obtain ⟨hx, hb, hr, hts, hown, hlocks, hml, hA, hP, hK, hD, hC, hN, hS⟩ := hin
  have hl : lv_has ls 4 [(0, .ref (ad 0)), (1, .long a1)] := hl
  unfold wf_K_tell at hf
  refine lv_aload_n hx hb wd_K_tell_0 rfl (lv_at hl 0 rfl) ?_
  refine lv_lload_n hx hb wd_K_tell_1 rfl (lv_at hl 1 rfl) ?_
  obtain ⟨q, hq, hf⟩ := wc_ctv_e hf
  refine wx_callvx (wz_runV (As := [.long a1]) (rest := []) ⟨hx, hb, hml, hown, hts⟩ (wm_W_tell l D ad cI cZ cJ cG htr _ a1 σ _ hq) (wx_cwV 1 hts wt_600 wt_598 wt_599 wt_1 wt_597 wh_W_tell rfl rfl ⟨Nat.le_of_ble_eq_true rfl, Nat.le_of_ble_eq_true rfl⟩) (wx_preV hK hP hD hS hA hC (by decide) rfl rfl) rfl rfl hl.1 rfl (lv_room (Nat.le_of_ble_eq_true rfl)) wd_K_tell_2 ⟨Nat.le_of_ble_eq_true rfl, Nat.le_of_ble_eq_true rfl⟩) hD hS hA (fun E q9 ce k9 σ2 H locs e9 hE hP hD hS hc1 hc2 hc3 => ?_) (fun σ1 H locs e9 hP hD hS => ?_)
  · subst e9
    have hf := wc_ctv_l hf
    by_cases ck0 : k9 = 0
    · have hf := wc_t ck0 hf
      subst ck0
      rw [show E = "java/lang/IndexOutOfBoundsException" from hE] at hc3
      refine wz_catch (own := "WidthCampaignsLaw") (E := "java/lang/IndexOutOfBoundsException") [] ⟨0, 5, 8, 20⟩ [⟨0, 5, 11, 15⟩] hown hts hN (by rw [ht]; rfl) (fun _ h => absurd h List.not_mem_nil) (by decide) (by decide) wt_375 (List.mem_of_getElem? (i := 54) rfl) hc1 hc2 hc3 ?_
      refine W.widen (k := 1) (n := 6) (by decide) (by decide) ?_
      refine lv_astore_n (lv' := [(3, .ref q9), (0, .ref (ad 0)), (1, .long a1)]) hx hb wd_K_tell_8 rfl hl (by decide) rfl (fun ls hl => ?_)
      refine lv_iconst (v := 1) hx hb wd_K_tell_9 (by decide) ?_
      exact wx_iret hx hb hr hlocks hf hP hS wd_K_tell_10
    · have hf := wc_f ck0 hf
      by_cases ck3 : k9 = 3
      · have hf := wc_t ck3 hf
        subst ck3
        rw [show E = "java/lang/UnsupportedOperationException" from hE] at hc3
        refine wz_catch (own := "WidthCampaignsLaw") (E := "java/lang/UnsupportedOperationException") [⟨0, 5, 8, 20⟩] ⟨0, 5, 11, 15⟩ [] hown hts hN (by rw [ht]; rfl) (List.forall_mem_cons.mpr ⟨⟨by decide, "java/lang/IndexOutOfBoundsException", wt_375, List.mem_of_getElem? (i := 11) rfl⟩, (fun _ h => absurd h List.not_mem_nil)⟩) (by decide) (by decide) wt_256 (List.mem_of_getElem? (i := 53) rfl) hc1 hc2 hc3 ?_
        refine W.widen (k := 1) (n := 6) (by decide) (by decide) ?_
        refine lv_astore_n (lv' := [(3, .ref q9), (0, .ref (ad 0)), (1, .long a1)]) hx hb wd_K_tell_11 rfl hl (by decide) rfl (fun ls hl => ?_)
        refine lv_iconst (v := 2) hx hb wd_K_tell_12 (by decide) ?_
        exact wx_iret hx hb hr hlocks hf hP hS wd_K_tell_13
      · have hf := wc_f ck3 hf
        cases hf
  · subst e9
    have hf := wc_ctv_r hf
    refine W.widen (k := 1) (n := 6) (by decide) (by decide) ?_
    refine lv_goto (tgt := 14) hx hb wd_K_tell_5 (by decide) ?_
    refine lv_iconst (v := 0) hx hb wd_K_tell_14 (by decide) ?_
    exact wx_iret hx hb hr hlocks hf hP hS wd_K_tell_15
set_option maxHeartbeats 4000000 in
set_option maxRecDepth 100000 in
theorem wm_K_improve (l : Launch) (D : va_G) (ad : Nat → Nat) (cI cZ cJ cG : ClassId) (htr : l.stackTraces = false) (sz : Nat) (a1 : Int32) (σ : wc_S) (res : Int32 × wc_S) (hf : wf_K_improve a1 σ = some res) : Met l wy_K_improve (wx_ws_K_improve) ({ frames := 9, cells := 2, slots := 12, locals := 158 }) (va_Pc [.ref (ad 0), .int a1, .ref (ad 88)] (wx_pre D ad cI cZ cJ cG σ sz)) (wx_Qi D ad cI cZ cJ cG res (va_A (wx_W ad cI cZ cJ cG σ) sz)) 2 12 (va_A (wx_W ad cI cZ cJ cG σ) sz) := by
  refine wx_ofH (cc := method_16_code) (maxL := 4) (ret := (some .int)) (Qc := fun A => wx_Qi D ad cI cZ cJ cG res A) [.ref (ad 0), .int a1, .ref (ad 88)] (by decide) rfl (Nat.le_of_ble_eq_true rfl) ?_
  intro p e s m args below meth c A ls hin ht hl
  obtain ⟨hx, hb, hr, hts, hown, hlocks, hml, hA, hP, hK, hD, hC, hN, hS⟩ := hin
  have hl : lv_has ls 4 [(0, .ref (ad 0)), (1, .int a1), (2, .ref (ad 88))] := hl
  unfold wf_K_improve at hf
  refine lv_aload_n hx hb wd_K_improve_0 rfl (lv_at hl 2 rfl) ?_
  refine lv_iconst (v := 0) hx hb wd_K_improve_1 (by decide) ?_
  refine lv_aload_n hx hb wd_K_improve_2 rfl (lv_at hl 0 rfl) ?_
  refine lv_iload_n hx hb wd_K_improve_3 rfl (lv_at hl 1 rfl) ?_
  obtain ⟨q, hq, hf⟩ := wc_cti_e hf
  refine wx_callix (wz_runV (As := [.int a1]) (rest := [.int 0, .ref (ad 88)]) ⟨hx, hb, hml, hown, hts⟩ (wm_W_improve l D ad cI cZ cJ cG htr _ a1 σ _ hq) (wx_cwV 1 hts wt_613 wt_611 wt_612 wt_1 wt_610 wh_W_improve rfl rfl ⟨Nat.le_of_ble_eq_true rfl, Nat.le_of_ble_eq_true rfl⟩) (wx_preV hK hP hD hS hA hC (by decide) rfl rfl) rfl rfl hl.1 rfl (lv_room (Nat.le_of_ble_eq_true rfl)) wd_K_improve_4 ⟨Nat.le_of_ble_eq_true rfl, Nat.le_of_ble_eq_true rfl⟩) hD hS hA (fun E q9 ce k9 σ3 H locs e9 hE hP hD hS hc1 hc2 hc3 => ?_) (fun r2 σ1 H locs e9 hP hD hS => ?_)
  · subst e9
    have hf := wc_cti_l hf
    by_cases ck1 : k9 = 1
    · have hf := wc_t ck1 hf
      subst ck1
      rw [show E = "java/lang/IllegalStateException" from hE] at hc3
      refine wz_catch (own := "WidthCampaignsLaw") (E := "java/lang/IllegalStateException") [] ⟨0, 9, 12, 45⟩ [⟨0, 9, 15, 13⟩] hown hts hN (by rw [ht]; rfl) (fun _ h => absurd h List.not_mem_nil) (by decide) (by decide) wt_524 (List.mem_of_getElem? (i := 55) rfl) hc1 hc2 hc3 ?_
      refine W.widen (k := 2) (n := 12) (by decide) (by decide) ?_
      refine lv_astore_n (lv' := [(3, .ref q9), (0, .ref (ad 0)), (1, .int a1), (2, .ref (ad 88))]) hx hb wd_K_improve_12 rfl hl (by decide) rfl (fun ls hl => ?_)
      refine lv_iconst (v := 1) hx hb wd_K_improve_13 (by decide) ?_
      exact wx_iret hx hb hr hlocks hf hP hS wd_K_improve_14
    · have hf := wc_f ck1 hf
      by_cases ck2 : k9 = 2
      · have hf := wc_t ck2 hf
        subst ck2
        rw [show E = "java/lang/IllegalArgumentException" from hE] at hc3
        refine wz_catch (own := "WidthCampaignsLaw") (E := "java/lang/IllegalArgumentException") [⟨0, 9, 12, 45⟩] ⟨0, 9, 15, 13⟩ [] hown hts hN (by rw [ht]; rfl) (List.forall_mem_cons.mpr ⟨⟨by decide, "java/lang/IllegalStateException", wt_524, List.mem_of_getElem? (i := 0) rfl⟩, (fun _ h => absurd h List.not_mem_nil)⟩) (by decide) (by decide) wt_255 (List.mem_of_getElem? (i := 52) rfl) hc1 hc2 hc3 ?_
        refine W.widen (k := 2) (n := 12) (by decide) (by decide) ?_
        refine lv_astore_n (lv' := [(3, .ref q9), (0, .ref (ad 0)), (1, .int a1), (2, .ref (ad 88))]) hx hb wd_K_improve_15 rfl hl (by decide) rfl (fun ls hl => ?_)
        refine lv_iconst (v := 2) hx hb wd_K_improve_16 (by decide) ?_
        exact wx_iret hx hb hr hlocks hf hP hS wd_K_improve_17
      · have hf := wc_f ck2 hf
        cases hf
  · subst e9
    have hf := wc_cti_r hf
    refine W.widen (k := 2) (n := 12) (by decide) (by decide) ?_
    refine lv_i2l hx hb wd_K_improve_7 rfl ?_
    obtain ⟨h4, hf⟩ := wc_gd_e hf
    refine wx_last (x := r2) hx hb hK hP hD hS h4 rfl wd_K_improve_8 (fun σ5 H locs eσ5 hP hD hS => ?_)
    have hf := wc_st_e eσ5 hf
    refine lv_goto (tgt := 18) hx hb wd_K_improve_9 (by decide) ?_
    refine lv_iconst (v := 0) hx hb wd_K_improve_18 (by decide) ?_
    exact wx_iret hx hb hr hlocks hf hP hS wd_K_improve_19
