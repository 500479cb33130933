set_option maxHeartbeats 4000000 in
set_option maxRecDepth 100000 in
theorem wm_J_addRow (l : Launch) (D : va_G) (ad : Nat → Nat) (cI cZ cJ cG : ClassId) (sz : Nat) (b : Nat) (hb_ : b = 18 ∨ b = 22) (a1 : Int32) (a2 : Int32) (a3 : Int32) (σ : wc_S) (res : wc_S) (hf : wf_J_addRow b a1 a2 a3 σ = some res) : Met l wy_J_addRow (wx_ws_J_addRow) ({ frames := 0, cells := 0, slots := 0, locals := 0 }) (va_Pc [.ref (ad b), .int a1, .int a2, .int a3] (wx_pre D ad cI cZ cJ cG σ sz)) (wx_Qv D ad cI cZ cJ cG res (va_A (wx_W ad cI cZ cJ cG σ) sz)) 0 0 (va_A (wx_W ad cI cZ cJ cG σ) sz) := by
  refine wx_ofW (cc := prog_2_method_2_code) (maxL := 4) (ret := none) (Qc := fun A => wx_Qv D ad cI cZ cJ cG res A) [.ref (ad b), .int a1, .int a2, .int a3] (by decide) rfl (Nat.le_of_ble_eq_true rfl) ?_
  intro p e s m args below meth c A ls hin hl
  obtain ⟨hx, hb, hr, hts, hown, hlocks, hml, hA, hP, hK, hD, hC, hN, hS⟩ := hin
  have hl : lv_has ls 4 [(0, .ref (ad b)), (1, .int a1), (2, .int a2), (3, .int a3)] := hl
  unfold wf_J_addRow at hf
  refine lv_aload_n hx hb wd_J_addRow_0 rfl (lv_at hl 0 rfl) ?_
  refine wx_get (v := .ref (ad (b + 1))) (C := "WidthCampaigns$JumpTable") (T := wx_TJ) (N' := 4) hx hb hts wi_J hown hK hP b (wx_Jl0 hb_) (wx_J0 hb_ _) rfl 0 (by decide) wt_39 (fun _ h9 => h9) rfl wd_J_addRow_1 ?_
  refine lv_aload_n hx hb wd_J_addRow_4 rfl (lv_at hl 0 rfl) ?_
  refine wx_get (v := .int (σ b 3)) (C := "WidthCampaigns$JumpTable") (T := wx_TJ) (N' := 4) hx hb hts wi_J hown hK hP b (wx_Jl0 hb_) (wx_J0 hb_ _) rfl 3 (by decide) wt_42 (fun _ h9 => h9) rfl wd_J_addRow_5 ?_
  refine lv_topi (fun v1 ev1 => ?_)
  have hf := wc_st_e ev1 hf
  refine lv_iload_n hx hb wd_J_addRow_8 rfl (lv_at hl 1 rfl) ?_
  obtain ⟨h2, hf⟩ := wc_gd_e hf
  refine wx_iast hx hb hK hP hD hS (b + 1) (n := 8) (wx_Jl1 hb_) (fun _ => (wx_J1 hb_ _)) h2 wd_J_addRow_9 (fun σ3 H locs eσ3 hP hD hS => ?_)
  have hf := wc_st_e eσ3 hf
  refine lv_aload_n hx hb wd_J_addRow_10 rfl (lv_at hl 0 rfl) ?_
  refine wx_get (v := .ref (ad (b + 2))) (C := "WidthCampaigns$JumpTable") (T := wx_TJ) (N' := 4) hx hb hts wi_J hown hK hP b (wx_Jl0 hb_) (wx_J0 hb_ _) rfl 1 (by decide) wt_40 (fun _ h9 => h9) rfl wd_J_addRow_11 ?_
  refine lv_aload_n hx hb wd_J_addRow_14 rfl (lv_at hl 0 rfl) ?_
  refine wx_get (v := .int (σ3 b 3)) (C := "WidthCampaigns$JumpTable") (T := wx_TJ) (N' := 4) hx hb hts wi_J hown hK hP b (wx_Jl0 hb_) (wx_J0 hb_ _) rfl 3 (by decide) wt_42 (fun _ h9 => h9) rfl wd_J_addRow_15 ?_
  refine lv_topi (fun v4 ev4 => ?_)
  have hf := wc_st_e ev4 hf
  refine lv_iload_n hx hb wd_J_addRow_18 rfl (lv_at hl 2 rfl) ?_
  obtain ⟨h5, hf⟩ := wc_gd_e hf
  refine wx_iast hx hb hK hP hD hS (b + 2) (n := 8) (wx_Jl2 hb_) (fun _ => (wx_J2 hb_ _)) h5 wd_J_addRow_19 (fun σ6 H locs eσ6 hP hD hS => ?_)
  have hf := wc_st_e eσ6 hf
  refine lv_aload_n hx hb wd_J_addRow_20 rfl (lv_at hl 0 rfl) ?_
  refine wx_get (v := .ref (ad (b + 3))) (C := "WidthCampaigns$JumpTable") (T := wx_TJ) (N' := 4) hx hb hts wi_J hown hK hP b (wx_Jl0 hb_) (wx_J0 hb_ _) rfl 2 (by decide) wt_41 (fun _ h9 => h9) rfl wd_J_addRow_21 ?_
  refine lv_aload_n hx hb wd_J_addRow_24 rfl (lv_at hl 0 rfl) ?_
  refine wx_get (v := .int (σ6 b 3)) (C := "WidthCampaigns$JumpTable") (T := wx_TJ) (N' := 4) hx hb hts wi_J hown hK hP b (wx_Jl0 hb_) (wx_J0 hb_ _) rfl 3 (by decide) wt_42 (fun _ h9 => h9) rfl wd_J_addRow_25 ?_
  refine lv_topi (fun v7 ev7 => ?_)
  have hf := wc_st_e ev7 hf
  refine lv_iload_n hx hb wd_J_addRow_28 rfl (lv_at hl 3 rfl) ?_
  obtain ⟨h8, hf⟩ := wc_gd_e hf
  refine wx_iast hx hb hK hP hD hS (b + 3) (n := 8) (wx_Jl3 hb_) (fun _ => (wx_J3 hb_ _)) h8 wd_J_addRow_29 (fun σ9 H locs eσ9 hP hD hS => ?_)
  have hf := wc_st_e eσ9 hf
  refine lv_aload_n hx hb wd_J_addRow_30 rfl (lv_at hl 0 rfl) ?_
  refine lv_dup hx hb wd_J_addRow_31 rfl ?_
  refine wx_get (v := .int (σ9 b 3)) (C := "WidthCampaigns$JumpTable") (T := wx_TJ) (N' := 4) hx hb hts wi_J hown hK hP b (wx_Jl0 hb_) (wx_J0 hb_ _) rfl 3 (by decide) wt_42 (fun _ h9 => h9) rfl wd_J_addRow_32 ?_
  refine lv_topi (fun v10 ev10 => ?_)
  have hf := wc_st_e ev10 hf
  refine lv_iconst (v := 1) hx hb wd_J_addRow_35 (by decide) ?_
  refine lv_iadd hx hb wd_J_addRow_36 ?_
  refine lv_topi (fun v11 ev11 => ?_)
  have hf := wc_st_e ev11 hf
  refine wx_put (x := v11) (ty := .int) (C := "WidthCampaigns$JumpTable") (T := wx_TJ) (N' := 4) hx hb hts wi_J wx_tJ wx_toJ wx_nJ hown hK hP hD hS b (wx_Jl0 hb_) (fun _ => (wx_J0 hb_ _)) rfl 3 (by decide) wt_42 (fun _ h9 => h9) rfl (by decide +kernel) rfl rfl (Nat.le_of_ble_eq_true rfl) rfl wd_J_addRow_37 (fun σ12 H locs eσ12 hP hD hS => ?_)
  have hf := wc_st_e eσ12 hf
  exact wx_vret hx hb hr hlocks hf hP hS wd_J_addRow_40
set_option maxHeartbeats 4000000 in
set_option maxRecDepth 100000 in
theorem wm_J_costOf (l : Launch) (D : va_G) (ad : Nat → Nat) (cI cZ cJ cG : ClassId) (sz : Nat) (b : Nat) (hb_ : b = 18 ∨ b = 22) (a1 : Int32) (σ : wc_S) (res : Int32 × wc_S) (hf : wf_J_costOf b a1 σ = some res) : Met l wy_J_costOf (wx_ws_J_costOf) ({ frames := 0, cells := 0, slots := 0, locals := 0 }) (va_Pc [.ref (ad b), .int a1] (wx_pre D ad cI cZ cJ cG σ sz)) (wx_Qi D ad cI cZ cJ cG res (va_A (wx_W ad cI cZ cJ cG σ) sz)) 0 0 (va_A (wx_W ad cI cZ cJ cG σ) sz) := by
  refine wx_ofW (cc := prog_2_method_3_code) (maxL := 3) (ret := (some .int)) (Qc := fun A => wx_Qi D ad cI cZ cJ cG res A) [.ref (ad b), .int a1] (by decide) rfl (Nat.le_of_ble_eq_true rfl) ?_
  intro p e s m args below meth c A ls hin hl
  obtain ⟨hx, hb, hr, hts, hown, hlocks, hml, hA, hP, hK, hD, hC, hN, hS⟩ := hin
  have hl : lv_has ls 3 [(0, .ref (ad b)), (1, .int a1)] := hl
  have J46 : ∀ (k11 : Int32 → Int32 → wc_S → Option (Int32 × wc_S)) (hk11 : (∀ (x1 : Int32) (x2 : Int32) (σ : wc_S), k11 x1 x2 σ = some res → wx_Arr p l e ({ frames := 0, cells := 0, slots := 0, locals := 0 }) s m args below meth c D ad cI cZ cJ cG A (MQ below (wx_Qi D ad cI cZ cJ cG res A) args s 0 0 A) 3 0 0 11 [(0, .ref (ad b)), (1, .int x1), (2, .int x2)] [] σ)) (x1 : Int32) (x2 : Int32) (σ : wc_S), wf_J_costOf_46 b k11 x1 x2 σ = some res → wx_Arr p l e ({ frames := 0, cells := 0, slots := 0, locals := 0 }) s m args below meth c D ad cI cZ cJ cG A (MQ below (wx_Qi D ad cI cZ cJ cG res A) args s 0 0 A) 3 0 0 46 [(0, .ref (ad b)), (1, .int x1), (2, .int x2)] [] σ := by
    intro k11 hk11 x1 x2 σ hf H locs ls hP hD hS hl
    unfold wf_J_costOf_46 at hf
    obtain ⟨v8, ev8⟩ : ∃ y : Int32, y = x2 + 1 := ⟨_, rfl⟩
    have hf := wc_st_e ev8 hf
    refine lv_iinc (v := v8) (lv' := [(2, .int v8), (0, .ref (ad b)), (1, .int x1)]) hx hb wd_J_costOf_46 hl (k := 2) rfl (by rw [ev8]; rfl) (by decide) rfl (fun ls hl => ?_)
    refine lv_goto (tgt := 11) hx hb wd_J_costOf_49 (by decide) ?_
    exact hk11 x1 v8 σ hf _ _ _ hP hD hS (lv_sub hl [1, 2, 0] rfl)
  have J11 : ∀ (n : Nat) (x1 : Int32) (x2 : Int32) (σ : wc_S), wf_J_costOf_11 b n x1 x2 σ = some res → wx_Arr p l e ({ frames := 0, cells := 0, slots := 0, locals := 0 }) s m args below meth c D ad cI cZ cJ cG A (MQ below (wx_Qi D ad cI cZ cJ cG res A) args s 0 0 A) 3 0 0 11 [(0, .ref (ad b)), (1, .int x1), (2, .int x2)] [] σ := by
    intro  n
    induction n with
    | zero => intro x1 x2 σ hf; exact absurd hf (by intro h9; cases h9)
    | succ n hk11 =>
      intro x1 x2 σ hf H locs ls hP hD hS hl
      have hf : wf_J_costOf_11_b b (wf_J_costOf_11 b n) x1 x2 σ = some res := hf
      unfold wf_J_costOf_11_b at hf
      refine lv_iload_n hx hb wd_J_costOf_11 rfl (lv_at hl 2 rfl) ?_
      refine lv_aload_n hx hb wd_J_costOf_12 rfl (lv_at hl 0 rfl) ?_
      refine wx_get (v := .int (σ b 3)) (C := "WidthCampaigns$JumpTable") (T := wx_TJ) (N' := 4) hx hb hts wi_J hown hK hP b (wx_Jl0 hb_) (wx_J0 hb_ _) rfl 3 (by decide) wt_42 (fun _ h9 => h9) rfl wd_J_costOf_13 ?_
      refine lv_topi (fun v3 ev3 => ?_)
      have hf := wc_st_e ev3 hf
      refine lv_icmp_ge (tgt := 52) hx hb wd_J_costOf_16 (by decide) (fun c4 => ?_) (fun c4 => ?_)
      · have hf := wc_t c4 hf
        refine lv_iconst (v := (-1)) hx hb wd_J_costOf_52 (by decide) ?_
        exact wx_iret hx hb hr hlocks hf hP hS wd_J_costOf_53
      · have hf := wc_f c4 hf
        refine lv_aload_n hx hb wd_J_costOf_19 rfl (lv_at hl 0 rfl) ?_
        refine wx_get (v := .ref (ad (b + 1))) (C := "WidthCampaigns$JumpTable") (T := wx_TJ) (N' := 4) hx hb hts wi_J hown hK hP b (wx_Jl0 hb_) (wx_J0 hb_ _) rfl 0 (by decide) wt_39 (fun _ h9 => h9) rfl wd_J_costOf_20 ?_
        refine lv_iload_n hx hb wd_J_costOf_23 rfl (lv_at hl 2 rfl) ?_
        obtain ⟨h5, hf⟩ := wc_gd_e hf
        refine wx_iald hx hb hK hP (b + 1) (n := 8) (wx_Jl1 hb_) (wx_J1 hb_ _) (wc_in_e h5) wd_J_costOf_24 ?_
        refine lv_topi (fun v6 ev6 => ?_)
        have hf := wc_st_e ev6 hf
        refine lv_iload_n hx hb wd_J_costOf_25 rfl (lv_at hl 1 rfl) ?_
        refine lv_icmp_gt (tgt := 46) hx hb wd_J_costOf_26 (by decide) (fun c7 => ?_) (fun c7 => ?_)
        · have hf := wc_t c7 hf
          exact J46 (wf_J_costOf_11 b n) hk11 x1 x2 σ hf _ _ _ hP hD hS (lv_sub hl [0, 1, 2] rfl)
        · have hf := wc_f c7 hf
          refine lv_iload_n hx hb wd_J_costOf_29 rfl (lv_at hl 1 rfl) ?_
          refine lv_aload_n hx hb wd_J_costOf_30 rfl (lv_at hl 0 rfl) ?_
          refine wx_get (v := .ref (ad (b + 2))) (C := "WidthCampaigns$JumpTable") (T := wx_TJ) (N' := 4) hx hb hts wi_J hown hK hP b (wx_Jl0 hb_) (wx_J0 hb_ _) rfl 1 (by decide) wt_40 (fun _ h9 => h9) rfl wd_J_costOf_31 ?_
          refine lv_iload_n hx hb wd_J_costOf_34 rfl (lv_at hl 2 rfl) ?_
          obtain ⟨h9, hf⟩ := wc_gd_e hf
          refine wx_iald hx hb hK hP (b + 2) (n := 8) (wx_Jl2 hb_) (wx_J2 hb_ _) (wc_in_e h9) wd_J_costOf_35 ?_
          refine lv_topi (fun v10 ev10 => ?_)
          have hf := wc_st_e ev10 hf
          refine lv_icmp_gt (tgt := 46) hx hb wd_J_costOf_36 (by decide) (fun c11 => ?_) (fun c11 => ?_)
          · have hf := wc_t c11 hf
            exact J46 (wf_J_costOf_11 b n) hk11 x1 x2 σ hf _ _ _ hP hD hS (lv_sub hl [0, 1, 2] rfl)
          · have hf := wc_f c11 hf
            refine lv_aload_n hx hb wd_J_costOf_39 rfl (lv_at hl 0 rfl) ?_
            refine wx_get (v := .ref (ad (b + 3))) (C := "WidthCampaigns$JumpTable") (T := wx_TJ) (N' := 4) hx hb hts wi_J hown hK hP b (wx_Jl0 hb_) (wx_J0 hb_ _) rfl 2 (by decide) wt_41 (fun _ h9 => h9) rfl wd_J_costOf_40 ?_
            refine lv_iload_n hx hb wd_J_costOf_43 rfl (lv_at hl 2 rfl) ?_
            obtain ⟨h12, hf⟩ := wc_gd_e hf
            refine wx_iald hx hb hK hP (b + 3) (n := 8) (wx_Jl3 hb_) (wx_J3 hb_ _) (wc_in_e h12) wd_J_costOf_44 ?_
            refine lv_topi (fun v13 ev13 => ?_)
            have hf := wc_st_e ev13 hf
            exact wx_iret hx hb hr hlocks hf hP hS wd_J_costOf_45
  unfold wf_J_costOf at hf
  refine lv_aload_n hx hb wd_J_costOf_0 rfl (lv_at hl 0 rfl) ?_
  refine wx_get (v := .int (σ b 3)) (C := "WidthCampaigns$JumpTable") (T := wx_TJ) (N' := 4) hx hb hts wi_J hown hK hP b (wx_Jl0 hb_) (wx_J0 hb_ _) rfl 3 (by decide) wt_42 (fun _ h9 => h9) rfl wd_J_costOf_1 ?_
  refine lv_topi (fun v1 ev1 => ?_)
  have hf := wc_st_e ev1 hf
  refine lv_if_ne (tgt := 9) hx hb wd_J_costOf_4 (by decide) (fun c2 => ?_) (fun c2 => ?_)
  · have hf := wc_f c2 hf
    refine lv_iconst (v := 0) hx hb wd_J_costOf_9 (by decide) ?_
    refine lv_istore_n (lv' := [(2, .int 0), (0, .ref (ad b)), (1, .int a1)]) hx hb wd_J_costOf_10 rfl hl (by decide) rfl (fun ls hl => ?_)
    exact J11 16 a1 0 σ hf _ _ _ hP hD hS (lv_sub hl [1, 2, 0] rfl)
  · have hf := wc_t c2 hf
    refine lv_iconst (v := 0) hx hb wd_J_costOf_7 (by decide) ?_
    exact wx_iret hx hb hr hlocks hf hP hS wd_J_costOf_8
set_option maxHeartbeats 4000000 in
set_option maxRecDepth 100000 in
theorem wm_G_addGroup (l : Launch) (D : va_G) (ad : Nat → Nat) (cI cZ cJ cG : ClassId) (sz : Nat) (a1 : Int32) (a2 : Int32) (a3 : Int32) (σ : wc_S) (res : wc_S) (hf : wf_G_addGroup a1 a2 a3 σ = some res) : Met l wy_G_addGroup (wx_ws_G_addGroup) ({ frames := 0, cells := 0, slots := 0, locals := 0 }) (va_Pc [.ref (ad 26), .int a1, .int a2, .int a3] (wx_pre D ad cI cZ cJ cG σ sz)) (wx_Qv D ad cI cZ cJ cG res (va_A (wx_W ad cI cZ cJ cG σ) sz)) 0 0 (va_A (wx_W ad cI cZ cJ cG σ) sz) := by
  refine wx_ofW (cc := prog_6_method_2_code) (maxL := 4) (ret := none) (Qc := fun A => wx_Qv D ad cI cZ cJ cG res A) [.ref (ad 26), .int a1, .int a2, .int a3] (by decide) rfl (Nat.le_of_ble_eq_true rfl) ?_
  intro p e s m args below meth c A ls hin hl
  obtain ⟨hx, hb, hr, hts, hown, hlocks, hml, hA, hP, hK, hD, hC, hN, hS⟩ := hin
  have hl : lv_has ls 4 [(0, .ref (ad 26)), (1, .int a1), (2, .int a2), (3, .int a3)] := hl
  unfold wf_G_addGroup at hf
  refine lv_aload_n hx hb wd_G_addGroup_0 rfl (lv_at hl 0 rfl) ?_
  refine wx_get (v := .ref (ad 27)) (C := "WidthCampaigns$WidthGroups") (T := wx_TG) (N' := 4) hx hb hts wi_G hown hK hP 26 (by decide) rfl rfl 0 (by decide) wt_60 (fun _ h9 => h9) rfl wd_G_addGroup_1 ?_
  refine lv_aload_n hx hb wd_G_addGroup_4 rfl (lv_at hl 0 rfl) ?_
  refine wx_get (v := .int (σ 26 3)) (C := "WidthCampaigns$WidthGroups") (T := wx_TG) (N' := 4) hx hb hts wi_G hown hK hP 26 (by decide) rfl rfl 3 (by decide) wt_66 (fun _ h9 => h9) rfl wd_G_addGroup_5 ?_
  refine lv_topi (fun v1 ev1 => ?_)
  have hf := wc_st_e ev1 hf
  refine lv_iload_n hx hb wd_G_addGroup_8 rfl (lv_at hl 1 rfl) ?_
  obtain ⟨h2, hf⟩ := wc_gd_e hf
  refine wx_iast hx hb hK hP hD hS 27 (n := 4) (by decide) (fun _ => rfl) h2 wd_G_addGroup_9 (fun σ3 H locs eσ3 hP hD hS => ?_)
  have hf := wc_st_e eσ3 hf
  refine lv_aload_n hx hb wd_G_addGroup_10 rfl (lv_at hl 0 rfl) ?_
  refine wx_get (v := .ref (ad 28)) (C := "WidthCampaigns$WidthGroups") (T := wx_TG) (N' := 4) hx hb hts wi_G hown hK hP 26 (by decide) rfl rfl 1 (by decide) wt_62 (fun _ h9 => h9) rfl wd_G_addGroup_11 ?_
  refine lv_aload_n hx hb wd_G_addGroup_14 rfl (lv_at hl 0 rfl) ?_
  refine wx_get (v := .int (σ3 26 3)) (C := "WidthCampaigns$WidthGroups") (T := wx_TG) (N' := 4) hx hb hts wi_G hown hK hP 26 (by decide) rfl rfl 3 (by decide) wt_66 (fun _ h9 => h9) rfl wd_G_addGroup_15 ?_
  refine lv_topi (fun v4 ev4 => ?_)
  have hf := wc_st_e ev4 hf
  refine lv_iload_n hx hb wd_G_addGroup_18 rfl (lv_at hl 2 rfl) ?_
  obtain ⟨h5, hf⟩ := wc_gd_e hf
  refine wx_iast hx hb hK hP hD hS 28 (n := 4) (by decide) (fun _ => rfl) h5 wd_G_addGroup_19 (fun σ6 H locs eσ6 hP hD hS => ?_)
  have hf := wc_st_e eσ6 hf
  refine lv_aload_n hx hb wd_G_addGroup_20 rfl (lv_at hl 0 rfl) ?_
  refine wx_get (v := .ref (ad 29)) (C := "WidthCampaigns$WidthGroups") (T := wx_TG) (N' := 4) hx hb hts wi_G hown hK hP 26 (by decide) rfl rfl 2 (by decide) wt_64 (fun _ h9 => h9) rfl wd_G_addGroup_21 ?_
  refine lv_aload_n hx hb wd_G_addGroup_24 rfl (lv_at hl 0 rfl) ?_
  refine wx_get (v := .int (σ6 26 3)) (C := "WidthCampaigns$WidthGroups") (T := wx_TG) (N' := 4) hx hb hts wi_G hown hK hP 26 (by decide) rfl rfl 3 (by decide) wt_66 (fun _ h9 => h9) rfl wd_G_addGroup_25 ?_
  refine lv_topi (fun v7 ev7 => ?_)
  have hf := wc_st_e ev7 hf
  refine lv_iload_n hx hb wd_G_addGroup_28 rfl (lv_at hl 3 rfl) ?_
  obtain ⟨h8, hf⟩ := wc_gd_e hf
  refine wx_iast hx hb hK hP hD hS 29 (n := 4) (by decide) (fun _ => rfl) h8 wd_G_addGroup_29 (fun σ9 H locs eσ9 hP hD hS => ?_)
  have hf := wc_st_e eσ9 hf
  refine lv_aload_n hx hb wd_G_addGroup_30 rfl (lv_at hl 0 rfl) ?_
  refine lv_dup hx hb wd_G_addGroup_31 rfl ?_
  refine wx_get (v := .int (σ9 26 3)) (C := "WidthCampaigns$WidthGroups") (T := wx_TG) (N' := 4) hx hb hts wi_G hown hK hP 26 (by decide) rfl rfl 3 (by decide) wt_66 (fun _ h9 => h9) rfl wd_G_addGroup_32 ?_
  refine lv_topi (fun v10 ev10 => ?_)
  have hf := wc_st_e ev10 hf
  refine lv_iconst (v := 1) hx hb wd_G_addGroup_35 (by decide) ?_
  refine lv_iadd hx hb wd_G_addGroup_36 ?_
  refine lv_topi (fun v11 ev11 => ?_)
  have hf := wc_st_e ev11 hf
  refine wx_put (x := v11) (ty := .int) (C := "WidthCampaigns$WidthGroups") (T := wx_TG) (N' := 4) hx hb hts wi_G wx_tG wx_toG wx_nG hown hK hP hD hS 26 (by decide) (fun _ => rfl) rfl 3 (by decide) wt_66 (fun _ h9 => h9) rfl (by decide +kernel) rfl rfl (Nat.le_of_ble_eq_true rfl) rfl wd_G_addGroup_37 (fun σ12 H locs eσ12 hP hD hS => ?_)
  have hf := wc_st_e eσ12 hf
  exact wx_vret hx hb hr hlocks hf hP hS wd_G_addGroup_40
set_option maxHeartbeats 4000000 in
set_option maxRecDepth 100000 in
theorem wm_P_reckonJump (l : Launch) (D : va_G) (ad : Nat → Nat) (cI cZ cJ cG : ClassId) (sz : Nat) (a1 : Int32) (a2 : Int32) (σ : wc_S) (res : Int32 × wc_S) (hf : wf_P_reckonJump a1 a2 σ = some res) : Met l wy_P_reckonJump (wx_ws_P_reckonJump) ({ frames := 1, cells := 0, slots := 0, locals := 60 }) (va_Pc [.ref (ad 1), .int a1, .int a2] (wx_pre D ad cI cZ cJ cG σ sz)) (wx_Qi D ad cI cZ cJ cG res (va_A (wx_W ad cI cZ cJ cG σ) sz)) 0 0 (va_A (wx_W ad cI cZ cJ cG σ) sz) := by
  refine wx_ofW (cc := prog_4_method_4_code) (maxL := 5) (ret := (some .int)) (Qc := fun A => wx_Qi D ad cI cZ cJ cG res A) [.ref (ad 1), .int a1, .int a2] (by decide) rfl (Nat.le_of_ble_eq_true rfl) ?_
  intro p e s m args below meth c A ls hin hl
  obtain ⟨hx, hb, hr, hts, hown, hlocks, hml, hA, hP, hK, hD, hC, hN, hS⟩ := hin
  have hl : lv_has ls 5 [(0, .ref (ad 1)), (1, .int a1), (2, .int a2)] := hl
  unfold wf_P_reckonJump at hf
  refine lv_aload_n hx hb wd_P_reckonJump_0 rfl (lv_at hl 0 rfl) ?_
  refine wx_get (v := .ref (ad 18)) (C := "WidthCampaigns$Plant") (T := wx_TP) (N' := 15) hx hb hts wi_P hown hK hP 1 (by decide) rfl rfl 7 (by decide) wt_93 (fun _ h9 => h9) rfl wd_P_reckonJump_1 ?_
  refine lv_aload_n hx hb wd_P_reckonJump_4 rfl (lv_at hl 0 rfl) ?_
  refine wx_get (v := .ref (ad 4)) (C := "WidthCampaigns$Plant") (T := wx_TP) (N' := 15) hx hb hts wi_P hown hK hP 1 (by decide) rfl rfl 2 (by decide) wt_81 (fun _ h9 => h9) rfl wd_P_reckonJump_5 ?_
  refine lv_iload_n hx hb wd_P_reckonJump_8 rfl (lv_at hl 1 rfl) ?_
  obtain ⟨h1, hf⟩ := wc_gd_e hf
  refine wx_iald hx hb hK hP 4 (n := 9) (by decide) rfl (wc_in_e h1) wd_P_reckonJump_9 ?_
  refine lv_topi (fun v2 ev2 => ?_)
  have hf := wc_st_e ev2 hf
  refine lv_aload_n hx hb wd_P_reckonJump_10 rfl (lv_at hl 0 rfl) ?_
  refine wx_get (v := .ref (ad 4)) (C := "WidthCampaigns$Plant") (T := wx_TP) (N' := 15) hx hb hts wi_P hown hK hP 1 (by decide) rfl rfl 2 (by decide) wt_81 (fun _ h9 => h9) rfl wd_P_reckonJump_11 ?_
  refine lv_iload_n hx hb wd_P_reckonJump_14 rfl (lv_at hl 2 rfl) ?_
  obtain ⟨h3, hf⟩ := wc_gd_e hf
  refine wx_iald hx hb hK hP 4 (n := 9) (by decide) rfl (wc_in_e h3) wd_P_reckonJump_15 ?_
  refine lv_topi (fun v4 ev4 => ?_)
  have hf := wc_st_e ev4 hf
  refine lv_isub hx hb wd_P_reckonJump_16 ?_
  refine lv_topi (fun v5 ev5 => ?_)
  have hf := wc_st_e ev5 hf
  refine va_mabs hx hb (hml.trans hl.1.symm) hown (wx_hw hts wt_365) (wx_hw hts wt_366) (wx_hw hts wt_13) (wx_hw hts wt_367) (Nat.le_of_ble_eq_true rfl) (Nat.le_of_ble_eq_true rfl) (Nat.le_of_ble_eq_true rfl) (Nat.le_of_ble_eq_true rfl) wd_P_reckonJump_17 ?_
  refine lv_topi (fun v6 ev6 => ?_)
  have hf := wc_st_e ev6 hf
  obtain ⟨r8, σ7, hq, hf⟩ := wc_b2_e hf
  refine wx_calli (va_runVN (As := [.int v6]) (rest := []) ⟨hx, hb, hml, hown, hts⟩ (wm_J_costOf l D ad cI cZ cJ cG _ 18 (Or.inl rfl) v6 σ _ hq) (wx_cwN 1 hts wt_371 wt_370 wp_6 wt_3 (hN.1 _ (List.mem_of_getElem? (i := 0) rfl) #[]) wh_J_costOf rfl rfl ⟨Nat.le_of_ble_eq_true rfl, Nat.le_of_ble_eq_true rfl⟩) (wx_preV hK hP hD hS hA hC (by decide) rfl rfl) rfl rfl hl.1 rfl (lv_room (Nat.le_of_ble_eq_true rfl)) wd_P_reckonJump_20 ⟨Nat.le_of_ble_eq_true rfl, Nat.le_of_ble_eq_true rfl⟩) hD hS hA (fun H locs hP hD hS => ?_)
  refine lv_istore_n (lv' := [(3, .int r8), (0, .ref (ad 1)), (1, .int a1), (2, .int a2)]) hx hb wd_P_reckonJump_23 rfl hl (by decide) rfl (fun ls hl => ?_)
  refine lv_aload_n hx hb wd_P_reckonJump_24 rfl (lv_at hl 1 rfl) ?_
  refine wx_get (v := .ref (ad 22)) (C := "WidthCampaigns$Plant") (T := wx_TP) (N' := 15) hx hb hts wi_P hown hK hP 1 (by decide) rfl rfl 8 (by decide) wt_95 (fun _ h9 => h9) rfl wd_P_reckonJump_25 ?_
  refine lv_aload_n hx hb wd_P_reckonJump_28 rfl (lv_at hl 1 rfl) ?_
  refine wx_get (v := .ref (ad 3)) (C := "WidthCampaigns$Plant") (T := wx_TP) (N' := 15) hx hb hts wi_P hown hK hP 1 (by decide) rfl rfl 1 (by decide) wt_80 (fun _ h9 => h9) rfl wd_P_reckonJump_29 ?_
  refine lv_iload_n hx hb wd_P_reckonJump_32 rfl (lv_at hl 2 rfl) ?_
  obtain ⟨h9, hf⟩ := wc_gd_e hf
  refine wx_iald hx hb hK hP 3 (n := 9) (by decide) rfl (wc_in_e h9) wd_P_reckonJump_33 ?_
  refine lv_topi (fun v10 ev10 => ?_)
  have hf := wc_st_e ev10 hf
  refine lv_aload_n hx hb wd_P_reckonJump_34 rfl (lv_at hl 1 rfl) ?_
  refine wx_get (v := .ref (ad 3)) (C := "WidthCampaigns$Plant") (T := wx_TP) (N' := 15) hx hb hts wi_P hown hK hP 1 (by decide) rfl rfl 1 (by decide) wt_80 (fun _ h9 => h9) rfl wd_P_reckonJump_35 ?_
  refine lv_iload_n hx hb wd_P_reckonJump_38 rfl (lv_at hl 3 rfl) ?_
  obtain ⟨h11, hf⟩ := wc_gd_e hf
  refine wx_iald hx hb hK hP 3 (n := 9) (by decide) rfl (wc_in_e h11) wd_P_reckonJump_39 ?_
  refine lv_topi (fun v12 ev12 => ?_)
  have hf := wc_st_e ev12 hf
  refine lv_isub hx hb wd_P_reckonJump_40 ?_
  refine lv_topi (fun v13 ev13 => ?_)
  have hf := wc_st_e ev13 hf
  refine va_mabs hx hb (hml.trans hl.1.symm) hown (wx_hw hts wt_365) (wx_hw hts wt_366) (wx_hw hts wt_13) (wx_hw hts wt_367) (Nat.le_of_ble_eq_true rfl) (Nat.le_of_ble_eq_true rfl) (Nat.le_of_ble_eq_true rfl) (Nat.le_of_ble_eq_true rfl) wd_P_reckonJump_41 ?_
  refine lv_topi (fun v14 ev14 => ?_)
  have hf := wc_st_e ev14 hf
  obtain ⟨r16, σ15, hq, hf⟩ := wc_b2_e hf
  refine wx_calli (va_runVN (As := [.int v14]) (rest := []) ⟨hx, hb, hml, hown, hts⟩ (wm_J_costOf l D ad cI cZ cJ cG _ 22 (Or.inr rfl) v14 σ7 _ hq) (wx_cwN 1 hts wt_371 wt_370 wp_6 wt_3 (hN.1 _ (List.mem_of_getElem? (i := 0) rfl) #[]) wh_J_costOf rfl rfl ⟨Nat.le_of_ble_eq_true rfl, Nat.le_of_ble_eq_true rfl⟩) (wx_preV hK hP hD hS hA hC (by decide) rfl rfl) rfl rfl hl.1 rfl (lv_room (Nat.le_of_ble_eq_true rfl)) wd_P_reckonJump_44 ⟨Nat.le_of_ble_eq_true rfl, Nat.le_of_ble_eq_true rfl⟩) hD hS hA (fun H locs hP hD hS => ?_)
  refine lv_istore (lv' := [(4, .int r16), (3, .int r8), (0, .ref (ad 1)), (1, .int a1), (2, .int a2)]) hx hb wd_P_reckonJump_47 hl (by decide) rfl (fun ls hl => ?_)
  refine lv_iload_n hx hb wd_P_reckonJump_49 rfl (lv_at hl 1 rfl) ?_
  refine lv_iconst (v := (-1)) hx hb wd_P_reckonJump_50 (by decide) ?_
  refine lv_icmp_eq (tgt := 60) hx hb wd_P_reckonJump_51 (by decide) (fun c17 => ?_) (fun c17 => ?_)
  · have hf := wc_t c17 hf
    refine lv_iconst (v := (-1)) hx hb wd_P_reckonJump_60 (by decide) ?_
    exact wx_iret hx hb hr hlocks hf hP hS wd_P_reckonJump_61
  · have hf := wc_f c17 hf
    refine lv_iload hx hb wd_P_reckonJump_54 (lv_at hl 0 rfl) ?_
    refine lv_iconst (v := (-1)) hx hb wd_P_reckonJump_56 (by decide) ?_
    refine lv_icmp_ne (tgt := 62) hx hb wd_P_reckonJump_57 (by decide) (fun c18 => ?_) (fun c18 => ?_)
    · have hf := wc_f c18 hf
      refine lv_iload_n hx hb wd_P_reckonJump_62 rfl (lv_at hl 1 rfl) ?_
      refine lv_iload hx hb wd_P_reckonJump_63 (lv_at hl 0 rfl) ?_
      refine lv_iadd hx hb wd_P_reckonJump_65 ?_
      refine lv_topi (fun v19 ev19 => ?_)
      have hf := wc_st_e ev19 hf
      exact wx_iret hx hb hr hlocks hf hP hS wd_P_reckonJump_66
    · have hf := wc_t c18 hf
      refine lv_iconst (v := (-1)) hx hb wd_P_reckonJump_60 (by decide) ?_
      exact wx_iret hx hb hr hlocks hf hP hS wd_P_reckonJump_61
set_option maxHeartbeats 4000000 in
set_option maxRecDepth 100000 in
theorem wm_P_reckonJumps (l : Launch) (D : va_G) (ad : Nat → Nat) (cI cZ cJ cG : ClassId) (sz : Nat) (σ : wc_S) (res : wc_S) (hf : wf_P_reckonJumps  σ = some res) : Met l wy_P_reckonJumps (wx_ws_P_reckonJumps) ({ frames := 2, cells := 0, slots := 0, locals := 84 }) (va_Pc [.ref (ad 1)] (wx_pre D ad cI cZ cJ cG σ sz)) (wx_Qv D ad cI cZ cJ cG res (va_A (wx_W ad cI cZ cJ cG σ) sz)) 0 0 (va_A (wx_W ad cI cZ cJ cG σ) sz) := by
  refine wx_ofW (cc := prog_4_method_3_code) (maxL := 3) (ret := none) (Qc := fun A => wx_Qv D ad cI cZ cJ cG res A) [.ref (ad 1)] (by decide) rfl (Nat.le_of_ble_eq_true rfl) ?_
  intro p e s m args below meth c A ls hin hl
  obtain ⟨hx, hb, hr, hts, hown, hlocks, hml, hA, hP, hK, hD, hC, hN, hS⟩ := hin
  have hl : lv_has ls 3 [(0, .ref (ad 1))] := hl
  have J12 : ∀ (k2 : Int32 → wc_S → Option wc_S) (hk2 : (∀ (x1 : Int32) (σ : wc_S), k2 x1 σ = some res → wx_Arr p l e ({ frames := 2, cells := 0, slots := 0, locals := 84 }) s m args below meth c D ad cI cZ cJ cG A (MQ below (wx_Qv D ad cI cZ cJ cG res A) args s 0 0 A) 3 0 0 2 [(0, .ref (ad 1)), (1, .int x1)] [] σ)) (n : Nat) (x1 : Int32) (x2 : Int32) (σ : wc_S), wf_P_reckonJumps_12 k2 n x1 x2 σ = some res → wx_Arr p l e ({ frames := 2, cells := 0, slots := 0, locals := 84 }) s m args below meth c D ad cI cZ cJ cG A (MQ below (wx_Qv D ad cI cZ cJ cG res A) args s 0 0 A) 3 0 0 12 [(0, .ref (ad 1)), (1, .int x1), (2, .int x2)] [] σ := by
    intro k2 hk2 n
    induction n with
    | zero => intro x1 x2 σ hf; exact absurd hf (by intro h9; cases h9)
    | succ n hk12 =>
      intro x1 x2 σ hf H locs ls hP hD hS hl
      have hf : wf_P_reckonJumps_12_b k2 (wf_P_reckonJumps_12 k2 n) x1 x2 σ = some res := hf
      unfold wf_P_reckonJumps_12_b at hf
      refine lv_iload_n hx hb wd_P_reckonJumps_12 rfl (lv_at hl 2 rfl) ?_
      refine lv_aload_n hx hb wd_P_reckonJumps_13 rfl (lv_at hl 0 rfl) ?_
      refine wx_get (v := .int (σ 1 10)) (C := "WidthCampaigns$Plant") (T := wx_TP) (N' := 15) hx hb hts wi_P hown hK hP 1 (by decide) rfl rfl 10 (by decide) wt_100 (fun _ h9 => h9) rfl wd_P_reckonJumps_14 ?_
      refine lv_topi (fun v3 ev3 => ?_)
      have hf := wc_st_e ev3 hf
      refine lv_icmp_ge (tgt := 40) hx hb wd_P_reckonJumps_17 (by decide) (fun c4 => ?_) (fun c4 => ?_)
      · have hf := wc_t c4 hf
        obtain ⟨v5, ev5⟩ : ∃ y : Int32, y = x1 + 1 := ⟨_, rfl⟩
        have hf := wc_st_e ev5 hf
        refine lv_iinc (v := v5) (lv' := [(1, .int v5), (0, .ref (ad 1)), (2, .int x2)]) hx hb wd_P_reckonJumps_40 hl (k := 1) rfl (by rw [ev5]; rfl) (by decide) rfl (fun ls hl => ?_)
        refine lv_goto (tgt := 2) hx hb wd_P_reckonJumps_43 (by decide) ?_
        exact hk2 v5 σ hf _ _ _ hP hD hS (lv_sub hl [1, 0] rfl)
      · have hf := wc_f c4 hf
        refine lv_aload_n hx hb wd_P_reckonJumps_20 rfl (lv_at hl 0 rfl) ?_
        refine wx_get (v := .ref (ad 8)) (C := "WidthCampaigns$Plant") (T := wx_TP) (N' := 15) hx hb hts wi_P hown hK hP 1 (by decide) rfl rfl 6 (by decide) wt_90 (fun _ h9 => h9) rfl wd_P_reckonJumps_21 ?_
        refine lv_iload_n hx hb wd_P_reckonJumps_24 rfl (lv_at hl 1 rfl) ?_
        obtain ⟨h6, hf⟩ := wc_gd_e hf
        refine wx_aald (bs := 9) hx hb hK hP 8 (n := 9) (by decide) rfl h6 wd_P_reckonJumps_25 ?_
        refine lv_iload_n hx hb wd_P_reckonJumps_26 rfl (lv_at hl 2 rfl) ?_
        refine lv_aload_n hx hb wd_P_reckonJumps_27 rfl (lv_at hl 0 rfl) ?_
        refine lv_iload_n hx hb wd_P_reckonJumps_28 rfl (lv_at hl 1 rfl) ?_
        refine lv_iload_n hx hb wd_P_reckonJumps_29 rfl (lv_at hl 2 rfl) ?_
        obtain ⟨r8, σ7, hq, hf⟩ := wc_b2_e hf
        refine wx_calli (va_runV (As := [.int x1, .int x2]) (rest := [.int x2, .ref (ad (9 + x1.toNatClampNeg))]) ⟨hx, hb, hml, hown, hts⟩ (wm_P_reckonJump l D ad cI cZ cJ cG _ x1 x2 σ _ hq) (wx_cwV 2 hts wt_364 wt_363 wp_5 wt_2 wt_361 wh_P_reckonJump rfl rfl ⟨Nat.le_of_ble_eq_true rfl, Nat.le_of_ble_eq_true rfl⟩) (wx_preV hK hP hD hS hA hC (by decide) rfl rfl) rfl rfl hl.1 rfl (lv_room (Nat.le_of_ble_eq_true rfl)) wd_P_reckonJumps_30 ⟨Nat.le_of_ble_eq_true rfl, Nat.le_of_ble_eq_true rfl⟩) hD hS hA (fun H locs hP hD hS => ?_)
        obtain ⟨h9, hf⟩ := wc_gd_e hf
        refine wx_iast hx hb hK hP hD hS (9 + x1.toNatClampNeg) (n := 9) (wx_g8l h6) (fun _ => (wx_g8 h6 _)) h9 wd_P_reckonJumps_33 (fun σ10 H locs eσ10 hP hD hS => ?_)
        have hf := wc_st_e eσ10 hf
        obtain ⟨v11, ev11⟩ : ∃ y : Int32, y = x2 + 1 := ⟨_, rfl⟩
        have hf := wc_st_e ev11 hf
        refine lv_iinc (v := v11) (lv' := [(2, .int v11), (0, .ref (ad 1)), (1, .int x1)]) hx hb wd_P_reckonJumps_34 hl (k := 2) rfl (by rw [ev11]; rfl) (by decide) rfl (fun ls hl => ?_)
        refine lv_goto (tgt := 12) hx hb wd_P_reckonJumps_37 (by decide) ?_
        exact hk12 x1 v11 σ10 hf _ _ _ hP hD hS (lv_sub hl [1, 2, 0] rfl)
  have J2 : ∀ (n : Nat) (x1 : Int32) (σ : wc_S), wf_P_reckonJumps_2 n x1 σ = some res → wx_Arr p l e ({ frames := 2, cells := 0, slots := 0, locals := 84 }) s m args below meth c D ad cI cZ cJ cG A (MQ below (wx_Qv D ad cI cZ cJ cG res A) args s 0 0 A) 3 0 0 2 [(0, .ref (ad 1)), (1, .int x1)] [] σ := by
    intro  n
    induction n with
    | zero => intro x1 σ hf; exact absurd hf (by intro h9; cases h9)
    | succ n hk2 =>
      intro x1 σ hf H locs ls hP hD hS hl
      have hf : wf_P_reckonJumps_2_b (wf_P_reckonJumps_2 n) x1 σ = some res := hf
      unfold wf_P_reckonJumps_2_b at hf
      refine lv_iload_n hx hb wd_P_reckonJumps_2 rfl (lv_at hl 1 rfl) ?_
      refine lv_aload_n hx hb wd_P_reckonJumps_3 rfl (lv_at hl 0 rfl) ?_
      refine wx_get (v := .int (σ 1 10)) (C := "WidthCampaigns$Plant") (T := wx_TP) (N' := 15) hx hb hts wi_P hown hK hP 1 (by decide) rfl rfl 10 (by decide) wt_100 (fun _ h9 => h9) rfl wd_P_reckonJumps_4 ?_
      refine lv_topi (fun v1 ev1 => ?_)
      have hf := wc_st_e ev1 hf
      refine lv_icmp_ge (tgt := 46) hx hb wd_P_reckonJumps_7 (by decide) (fun c2 => ?_) (fun c2 => ?_)
      · have hf := wc_t c2 hf
        exact wx_vret hx hb hr hlocks hf hP hS wd_P_reckonJumps_46
      · have hf := wc_f c2 hf
        refine lv_iconst (v := 0) hx hb wd_P_reckonJumps_10 (by decide) ?_
        refine lv_istore_n (lv' := [(2, .int 0), (0, .ref (ad 1)), (1, .int x1)]) hx hb wd_P_reckonJumps_11 rfl hl (by decide) rfl (fun ls hl => ?_)
        exact J12 (wf_P_reckonJumps_2 n) hk2 16 x1 0 σ hf _ _ _ hP hD hS (lv_sub hl [1, 2, 0] rfl)
  unfold wf_P_reckonJumps at hf
  refine lv_iconst (v := 0) hx hb wd_P_reckonJumps_0 (by decide) ?_
  refine lv_istore_n (lv' := [(1, .int 0), (0, .ref (ad 1))]) hx hb wd_P_reckonJumps_1 rfl hl (by decide) rfl (fun ls hl => ?_)
  exact J2 16 0 σ hf _ _ _ hP hD hS (lv_sub hl [1, 0] rfl)
set_option maxHeartbeats 4000000 in
set_option maxRecDepth 100000 in
theorem wm_P_addCoil (l : Launch) (D : va_G) (ad : Nat → Nat) (cI cZ cJ cG : ClassId) (sz : Nat) (a1 : Int32) (a2 : Int32) (a3 : Int32) (a4 : Int32) (σ : wc_S) (res : Int32 × wc_S) (hf : wf_P_addCoil a1 a2 a3 a4 σ = some res) : Met l wy_P_addCoil (wx_ws_P_addCoil) ({ frames := 3, cells := 0, slots := 0, locals := 106 }) (va_Pc [.ref (ad 1), .int a1, .int a2, .int a3, .int a4] (wx_pre D ad cI cZ cJ cG σ sz)) (wx_Qi D ad cI cZ cJ cG res (va_A (wx_W ad cI cZ cJ cG σ) sz)) 0 0 (va_A (wx_W ad cI cZ cJ cG σ) sz) := by
  refine wx_ofW (cc := prog_4_method_2_code) (maxL := 6) (ret := (some .int)) (Qc := fun A => wx_Qi D ad cI cZ cJ cG res A) [.ref (ad 1), .int a1, .int a2, .int a3, .int a4] (by decide) rfl (Nat.le_of_ble_eq_true rfl) ?_
  intro p e s m args below meth c A ls hin hl
  obtain ⟨hx, hb, hr, hts, hown, hlocks, hml, hA, hP, hK, hD, hC, hN, hS⟩ := hin
  have hl : lv_has ls 6 [(0, .ref (ad 1)), (1, .int a1), (2, .int a2), (3, .int a3), (4, .int a4)] := hl
  unfold wf_P_addCoil at hf
  refine lv_aload_n hx hb wd_P_addCoil_0 rfl (lv_at hl 0 rfl) ?_
  refine wx_get (v := .int (σ 1 10)) (C := "WidthCampaigns$Plant") (T := wx_TP) (N' := 15) hx hb hts wi_P hown hK hP 1 (by decide) rfl rfl 10 (by decide) wt_100 (fun _ h9 => h9) rfl wd_P_addCoil_1 ?_
  refine lv_topi (fun v1 ev1 => ?_)
  have hf := wc_st_e ev1 hf
  refine lv_istore (lv' := [(5, .int v1), (0, .ref (ad 1)), (1, .int a1), (2, .int a2), (3, .int a3), (4, .int a4)]) hx hb wd_P_addCoil_4 hl (by decide) rfl (fun ls hl => ?_)
  refine lv_aload_n hx hb wd_P_addCoil_6 rfl (lv_at hl 1 rfl) ?_
  refine wx_get (v := .ref (ad 2)) (C := "WidthCampaigns$Plant") (T := wx_TP) (N' := 15) hx hb hts wi_P hown hK hP 1 (by decide) rfl rfl 0 (by decide) wt_78 (fun _ h9 => h9) rfl wd_P_addCoil_7 ?_
  refine lv_iload hx hb wd_P_addCoil_10 (lv_at hl 0 rfl) ?_
  refine lv_iload_n hx hb wd_P_addCoil_12 rfl (lv_at hl 2 rfl) ?_
  obtain ⟨h2, hf⟩ := wc_gd_e hf
  refine wx_iast hx hb hK hP hD hS 2 (n := 9) (by decide) (fun _ => rfl) h2 wd_P_addCoil_13 (fun σ3 H locs eσ3 hP hD hS => ?_)
  have hf := wc_st_e eσ3 hf
  refine lv_aload_n hx hb wd_P_addCoil_14 rfl (lv_at hl 1 rfl) ?_
  refine wx_get (v := .ref (ad 3)) (C := "WidthCampaigns$Plant") (T := wx_TP) (N' := 15) hx hb hts wi_P hown hK hP 1 (by decide) rfl rfl 1 (by decide) wt_80 (fun _ h9 => h9) rfl wd_P_addCoil_15 ?_
  refine lv_iload hx hb wd_P_addCoil_18 (lv_at hl 0 rfl) ?_
  refine lv_iload_n hx hb wd_P_addCoil_20 rfl (lv_at hl 3 rfl) ?_
  obtain ⟨h4, hf⟩ := wc_gd_e hf
  refine wx_iast hx hb hK hP hD hS 3 (n := 9) (by decide) (fun _ => rfl) h4 wd_P_addCoil_21 (fun σ5 H locs eσ5 hP hD hS => ?_)
  have hf := wc_st_e eσ5 hf
  refine lv_aload_n hx hb wd_P_addCoil_22 rfl (lv_at hl 1 rfl) ?_
  refine wx_get (v := .ref (ad 4)) (C := "WidthCampaigns$Plant") (T := wx_TP) (N' := 15) hx hb hts wi_P hown hK hP 1 (by decide) rfl rfl 2 (by decide) wt_81 (fun _ h9 => h9) rfl wd_P_addCoil_23 ?_
  refine lv_iload hx hb wd_P_addCoil_26 (lv_at hl 0 rfl) ?_
  refine lv_iload_n hx hb wd_P_addCoil_28 rfl (lv_at hl 4 rfl) ?_
  obtain ⟨h6, hf⟩ := wc_gd_e hf
  refine wx_iast hx hb hK hP hD hS 4 (n := 9) (by decide) (fun _ => rfl) h6 wd_P_addCoil_29 (fun σ7 H locs eσ7 hP hD hS => ?_)
  have hf := wc_st_e eσ7 hf
  refine lv_aload_n hx hb wd_P_addCoil_30 rfl (lv_at hl 1 rfl) ?_
  refine wx_get (v := .ref (ad 5)) (C := "WidthCampaigns$Plant") (T := wx_TP) (N' := 15) hx hb hts wi_P hown hK hP 1 (by decide) rfl rfl 3 (by decide) wt_82 (fun _ h9 => h9) rfl wd_P_addCoil_31 ?_
  refine lv_iload hx hb wd_P_addCoil_34 (lv_at hl 0 rfl) ?_
  refine lv_iload hx hb wd_P_addCoil_36 (lv_at hl 5 rfl) ?_
  obtain ⟨h8, hf⟩ := wc_gd_e hf
  refine wx_iast hx hb hK hP hD hS 5 (n := 9) (by decide) (fun _ => rfl) h8 wd_P_addCoil_38 (fun σ9 H locs eσ9 hP hD hS => ?_)
  have hf := wc_st_e eσ9 hf
  refine lv_aload_n hx hb wd_P_addCoil_39 rfl (lv_at hl 1 rfl) ?_
  refine wx_get (v := .ref (ad 6)) (C := "WidthCampaigns$Plant") (T := wx_TP) (N' := 15) hx hb hts wi_P hown hK hP 1 (by decide) rfl rfl 4 (by decide) wt_84 (fun _ h9 => h9) rfl wd_P_addCoil_40 ?_
  refine lv_iload hx hb wd_P_addCoil_43 (lv_at hl 0 rfl) ?_
  refine lv_bipush (v := 8) hx hb wd_P_addCoil_45 (by decide) ?_
  obtain ⟨h10, hf⟩ := wc_gd_e hf
  refine wx_iast hx hb hK hP hD hS 6 (n := 9) (by decide) (fun _ => rfl) h10 wd_P_addCoil_47 (fun σ11 H locs eσ11 hP hD hS => ?_)
  have hf := wc_st_e eσ11 hf
  refine lv_aload_n hx hb wd_P_addCoil_48 rfl (lv_at hl 1 rfl) ?_
  refine wx_get (v := .ref (ad 7)) (C := "WidthCampaigns$Plant") (T := wx_TP) (N' := 15) hx hb hts wi_P hown hK hP 1 (by decide) rfl rfl 5 (by decide) wt_87 (fun _ h9 => h9) rfl wd_P_addCoil_49 ?_
  refine lv_iload hx hb wd_P_addCoil_52 (lv_at hl 0 rfl) ?_
  refine lv_iconst (v := (-1)) hx hb wd_P_addCoil_54 (by decide) ?_
  obtain ⟨h12, hf⟩ := wc_gd_e hf
  refine wx_iast hx hb hK hP hD hS 7 (n := 9) (by decide) (fun _ => rfl) h12 wd_P_addCoil_55 (fun σ13 H locs eσ13 hP hD hS => ?_)
  have hf := wc_st_e eσ13 hf
  refine lv_aload_n hx hb wd_P_addCoil_56 rfl (lv_at hl 1 rfl) ?_
  refine lv_dup hx hb wd_P_addCoil_57 rfl ?_
  refine wx_get (v := .int (σ13 1 10)) (C := "WidthCampaigns$Plant") (T := wx_TP) (N' := 15) hx hb hts wi_P hown hK hP 1 (by decide) rfl rfl 10 (by decide) wt_100 (fun _ h9 => h9) rfl wd_P_addCoil_58 ?_
  refine lv_topi (fun v14 ev14 => ?_)
  have hf := wc_st_e ev14 hf
  refine lv_iconst (v := 1) hx hb wd_P_addCoil_61 (by decide) ?_
  refine lv_iadd hx hb wd_P_addCoil_62 ?_
  refine lv_topi (fun v15 ev15 => ?_)
  have hf := wc_st_e ev15 hf
  refine wx_put (x := v15) (ty := .int) (C := "WidthCampaigns$Plant") (T := wx_TP) (N' := 15) hx hb hts wi_P wx_tP wx_toP wx_nP hown hK hP hD hS 1 (by decide) (fun _ => rfl) rfl 10 (by decide) wt_100 (fun _ h9 => h9) rfl (by decide +kernel) rfl rfl (Nat.le_of_ble_eq_true rfl) rfl wd_P_addCoil_63 (fun σ16 H locs eσ16 hP hD hS => ?_)
  have hf := wc_st_e eσ16 hf
  refine lv_aload_n hx hb wd_P_addCoil_66 rfl (lv_at hl 1 rfl) ?_
  obtain ⟨σ17, hq, hf⟩ := wc_b1_e hf
  refine wx_callv (va_runV (As := []) (rest := []) ⟨hx, hb, hml, hown, hts⟩ (wm_P_reckonJumps l D ad cI cZ cJ cG _ σ16 _ hq) (wx_cwV 0 hts wt_360 wt_359 wp_4 wt_2 wt_357 wh_P_reckonJumps rfl rfl ⟨Nat.le_of_ble_eq_true rfl, Nat.le_of_ble_eq_true rfl⟩) (wx_preV hK hP hD hS hA hC (by decide) rfl rfl) rfl rfl hl.1 rfl (lv_room (Nat.le_of_ble_eq_true rfl)) wd_P_addCoil_67 ⟨Nat.le_of_ble_eq_true rfl, Nat.le_of_ble_eq_true rfl⟩) hD hS hA (fun H locs hP hD hS => ?_)
  refine lv_iload hx hb wd_P_addCoil_70 (lv_at hl 0 rfl) ?_
  exact wx_iret hx hb hr hlocks hf hP hS wd_P_addCoil_72
