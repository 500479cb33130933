set_option maxHeartbeats 4000000 in
set_option maxRecDepth 100000 in
theorem wm_J_addRow (l : Launch) (D : va_G) (ad : Nat → Nat) (cI cZ cJ cG : ClassId) (sz : Nat) (b : Nat) (hb_ : b = 18 ∨ b = 22) (a1 : Int32) (a2 : Int32) (a3 : Int32) (σ : wc_S) (res : wc_S) (hf : wf_J_addRow b a1 a2 a3 σ = some res) : Met l wy_J_addRow (wx_ws_J_addRow) ({ frames := 0, cells := 0, slots := 0, locals := 0 }) (va_Pc [.ref (ad b), .int a1, .int a2, .int a3] (wx_pre D ad cI cZ cJ cG σ sz)) (wx_Qv D ad cI cZ cJ cG res (va_A (wx_W ad cI cZ cJ cG σ) sz)) 0 0 (va_A (wx_W ad cI cZ cJ cG σ) sz) := by
  refine wx_ofW (cc := prog_2_method_2_code) (maxL := 4) (ret := none) (Qc := fun A => wx_Qv D ad cI cZ cJ cG res A) [.ref (ad b), .int a1, .int a2, .int a3] (by decide) rfl (Nat.le_of_ble_eq_true rfl) ?_
  intro p e s m args below meth c A ls hin hl
  obtain ⟨hx, hb, hr, hts, hown, hlocks, hml, hA, hP, hK, hD, hC, hN, hS⟩ := hin
  have hl : lv_has ls 4 [(0, .ref (ad b)), (1, .int a1), (2, .int a2), (3, .int a3)] := hl
  unfold wf_J_addRow at hf
  refine lv_aload_n hx hb wd_J_addRow_0 rfl (lv_at hl 0 rfl) ?_
  refine wx_get (v := .ref (ad (b + 1))) (C := "WidthCampaigns$JumpTable") (T := wx_TJ) (N' := 4) hx hb hts wi_J hown hK hP b (wx_Jl0 hb_) (wx_J0 hb_ _) rfl 0 (by decide) wt_39 (fun _ h9 => h9) rfl wd_J_addRow_1 ?_
  refine lv_aload_n hx hb wd_J_addRow_4 rfl (lv_at hl 0 rfl) ?_
  refine wx_get (v := .int (σ b 3)) (C := "WidthCampaigns$JumpTable") (T := wx_TJ) (N' := 4) hx hb hts wi_J hown hK hP b (wx_Jl0 hb_) (wx_J0 hb_ _) rfl 3 (by decide) wt_42 (fun _ h9 => h9) rfl wd_J_addRow_5 ?_
  refine lv_topi (fun v1 ev1 => ?_)
  have hf := wc_st_e ev1 hf
  refine lv_iload_n hx hb wd_J_addRow_8 rfl (lv_at hl 1 rfl) ?_
  obtain ⟨h2, hf⟩ := wc_gd_e hf
  refine wx_iast hx hb hK hP hD hS (b + 1) (n := 8) (wx_Jl1 hb_) (fun _ => (wx_J1 hb_ _)) h2 wd_J_addRow_9 (fun σ3 H locs eσ3 hP hD hS => ?_)
  have hf := wc_st_e eσ3 hf
  refine lv_aload_n hx hb wd_J_addRow_10 rfl (lv_at hl 0 rfl) ?_
  refine wx_get (v := .ref (ad (b + 2))) (C := "WidthCampaigns$JumpTable") (T := wx_TJ) (N' := 4) hx hb hts wi_J hown hK hP b (wx_Jl0 hb_) (wx_J0 hb_ _) rfl 1 (by decide) wt_40 (fun _ h9 => h9) rfl wd_J_addRow_11 ?_
  refine lv_aload_n hx hb wd_J_addRow_14 rfl (lv_at hl 0 rfl) ?_
  refine wx_get (v := .int (σ3 b 3)) (C := "WidthCampaigns$JumpTable") (T := wx_TJ) (N' := 4) hx hb hts wi_J hown hK hP b (wx_Jl0 hb_) (wx_J0 hb_ _) rfl 3 (by decide) wt_42 (fun _ h9 => h9) rfl wd_J_addRow_15 ?_
  refine lv_topi (fun v4 ev4 => ?_)
  have hf := wc_st_e ev4 hf
  refine lv_iload_n hx hb wd_J_addRow_18 rfl (lv_at hl 2 rfl) ?_
  obtain ⟨h5, hf⟩ := wc_gd_e hf
  refine wx_iast hx hb hK hP hD hS (b + 2) (n := 8) (wx_Jl2 hb_) (fun _ => (wx_J2 hb_ _)) h5 wd_J_addRow_19 (fun σ6 H locs eσ6 hP hD hS => ?_)
  have hf := wc_st_e eσ6 hf
  refine lv_aload_n hx hb wd_J_addRow_20 rfl (lv_at hl 0 rfl) ?_
  refine wx_get (v := .ref (ad (b + 3))) (C := "WidthCampaigns$JumpTable") (T := wx_TJ) (N' := 4) hx hb hts wi_J hown hK hP b (wx_Jl0 hb_) (wx_J0 hb_ _) rfl 2 (by decide) wt_41 (fun _ h9 => h9) rfl wd_J_addRow_21 ?_
  refine lv_aload_n hx hb wd_J_addRow_24 rfl (lv_at hl 0 rfl) ?_
  refine wx_get (v := .int (σ6 b 3)) (C := "WidthCampaigns$JumpTable") (T := wx_TJ) (N' := 4) hx hb hts wi_J hown hK hP b (wx_Jl0 hb_) (wx_J0 hb_ _) rfl 3 (by decide) wt_42 (fun _ h9 => h9) rfl wd_J_addRow_25 ?_
  refine lv_topi (fun v7 ev7 => ?_)
  have hf := wc_st_e ev7 hf
  refine lv_iload_n hx hb wd_J_addRow_28 rfl (lv_at hl 3 rfl) ?_
  obtain ⟨h8, hf⟩ := wc_gd_e hf
  refine wx_iast hx hb hK hP hD hS (b + 3) (n := 8) (wx_Jl3 hb_) (fun _ => (wx_J3 hb_ _)) h8 wd_J_addRow_29 (fun σ9 H locs eσ9 hP hD hS => ?_)
  have hf := wc_st_e eσ9 hf
  refine lv_aload_n hx hb wd_J_addRow_30 rfl (lv_at hl 0 rfl) ?_
  refine lv_dup hx hb wd_J_addRow_31 rfl ?_
  refine wx_get (v := .int (σ9 b 3)) (C := "WidthCampaigns$JumpTable") (T := wx_TJ) (N' := 4) hx hb hts wi_J hown hK hP b (wx_Jl0 hb_) (wx_J0 hb_ _) rfl 3 (by decide) wt_42 (fun _ h9 => h9) rfl wd_J_addRow_32 ?_
  refine lv_topi (fun v10 ev10 => ?_)
  have hf := wc_st_e ev10 hf
  refine lv_iconst (v := 1) hx hb wd_J_addRow_35 (by decide) ?_
  refine lv_iadd hx hb wd_J_addRow_36 ?_
  refine lv_topi (fun v11 ev11 => ?_)
  have hf := wc_st_e ev11 hf
  refine wx_put (x := v11) (ty := .int) (C := "WidthCampaigns$JumpTable") (T := wx_TJ) (N' := 4) hx hb hts wi_J wx_tJ wx_toJ wx_nJ hown hK hP hD hS b (wx_Jl0 hb_) (fun _ => (wx_J0 hb_ _)) rfl 3 (by decide) wt_42 (fun _ h9 => h9) rfl (by decide +kernel) rfl rfl (Nat.le_of_ble_eq_true rfl) rfl wd_J_addRow_37 (fun σ12 H locs eσ12 hP hD hS => ?_)
  have hf := wc_st_e eσ12 hf
  exact wx_vret hx hb hr hlocks hf hP hS wd_J_addRow_40
set_option maxHeartbeats 4000000 in
set_option maxRecDepth 100000 in
theorem wm_J_costOf (l : Launch) (D : va_G) (ad : Nat → Nat) (cI cZ cJ cG : ClassId) (sz : Nat) (b : Nat) (hb_ : b = 18 ∨ b = 22) (a1 : Int32) (σ : wc_S) (res : Int32 × wc_S) (hf : wf_J_costOf b a1 σ = some res) : Met l wy_J_costOf (wx_ws_J_costOf) ({ frames := 0, cells := 0, slots := 0, locals := 0 }) (va_Pc [.ref (ad b), .int a1] (wx_pre D ad cI cZ cJ cG σ sz)) (wx_Qi D ad cI cZ cJ cG res (va_A (wx_W ad cI cZ cJ cG σ) sz)) 0 0 (va_A (wx_W ad cI cZ cJ cG σ) sz) := by
  refine wx_ofW (cc := prog_2_method_3_code) (maxL := 3) (ret := (some .int)) (Qc := fun A => wx_Qi D ad cI cZ cJ cG res A) [.ref (ad b), .int a1] (by decide) rfl (Nat.le_of_ble_eq_true rfl) ?_
  intro p e s m args below meth c A ls hin hl
  obtain ⟨hx, hb, hr, hts, hown, hlocks, hml, hA, hP, hK, hD, hC, hN, hS⟩ := hin
  have hl : lv_has ls 3 [(0, .ref (ad b)), (1, .int a1)] := hl
  have J46 : ∀ (k11 : Int32 → Int32 → wc_S → Option (Int32 × wc_S)) (hk11 : (∀ (x1 : Int32) (x2 : Int32) (σ : wc_S), k11 x1 x2 σ = some res → wx_Arr p l e ({ frames := 0, cells := 0, slots := 0, locals := 0 }) s m args below meth c D ad cI cZ cJ cG A (MQ below (wx_Qi D ad cI cZ cJ cG res A) args s 0 0 A) 3 0 0 11 [(0, .ref (ad b)), (1, .int x1), (2, .int x2)] [] σ)) (x1 : Int32) (x2 : Int32) (σ : wc_S), wf_J_costOf_46 b k11 x1 x2 σ = some res → wx_Arr p l e ({ frames := 0, cells := 0, slots := 0, locals := 0 }) s m args below meth c D ad cI cZ cJ cG A (MQ below (wx_Qi D ad cI cZ cJ cG res A) args s 0 0 A) 3 0 0 46 [(0, .ref (ad b)), (1, .int x1), (2, .int x2)] [] σ := by
    intro k11 hk11 x1 x2 σ hf H locs ls hP hD hS hl
    unfold wf_J_costOf_46 at hf
    obtain ⟨v8, ev8⟩ : ∃ y : Int32, y = x2 + 1 := ⟨_, rfl⟩
    have hf := wc_st_e ev8 hf
    refine lv_iinc (v := v8) (lv' := [(2, .int v8), (0, .ref (ad b)), (1, .int x1)]) hx hb wd_J_costOf_46 hl (k := 2) rfl (by rw [ev8]; rfl) (by decide) rfl (fun ls hl => ?_)
    refine lv_goto (tgt := 11) hx hb wd_J_costOf_49 (by decide) ?_
    exact hk11 x1 v8 σ hf _ _ _ hP hD hS (lv_sub hl [1, 2, 0] rfl)
  have J11 : ∀ (n : Nat) (x1 : Int32) (x2 : Int32) (σ : wc_S), wf_J_costOf_11 b n x1 x2 σ = some res → wx_Arr p l e ({ frames := 0, cells := 0, slots := 0, locals := 0 }) s m args below meth c D ad cI cZ cJ cG A (MQ below (wx_Qi D ad cI cZ cJ cG res A) args s 0 0 A) 3 0 0 11 [(0, .ref (ad b)), (1, .int x1), (2, .int x2)] [] σ := by
    intro  n
    induction n with
    | zero => intro x1 x2 σ hf; exact absurd hf (by intro h9; cases h9)
    | succ n hk11 =>
      intro x1 x2 σ hf H locs ls hP hD hS hl
      have hf : wf_J_costOf_11_b b (wf_J_costOf_11 b n) x1 x2 σ = some res := hf
      unfold wf_J_costOf_11_b at hf
      refine lv_iload_n hx hb wd_J_costOf_11 rfl (lv_at hl 2 rfl) ?_
      refine lv_aload_n hx hb wd_J_costOf_12 rfl (lv_at hl 0 rfl) ?_
      refine wx_get (v := .int (σ b 3)) (C := "WidthCampaigns$JumpTable") (T := wx_TJ) (N' := 4) hx hb hts wi_J hown hK hP b (wx_Jl0 hb_) (wx_J0 hb_ _) rfl 3 (by decide) wt_42 (fun _ h9 => h9) rfl wd_J_costOf_13 ?_
      refine lv_topi (fun v3 ev3 => ?_)
      have hf := wc_st_e ev3 hf
      refine lv_icmp_ge (tgt := 52) hx hb wd_J_costOf_16 (by decide) (fun c4 => ?_) (fun c4 => ?_)
      · have hf := wc_t c4 hf
        refine lv_iconst (v := (-1)) hx hb wd_J_costOf_52 (by decide) ?_
        exact wx_iret hx hb hr hlocks hf hP hS wd_J_costOf_53
      · have hf := wc_f c4 hf
        refine lv_aload_n hx hb wd_J_costOf_19 rfl (lv_at hl 0 rfl) ?_
        refine wx_get (v := .ref (ad (b + 1))) (C := "WidthCampaigns$JumpTable") (T := wx_TJ) (N' := 4) hx hb hts wi_J hown hK hP b (wx_Jl0 hb_) (wx_J0 hb_ _) rfl 0 (by decide) wt_39 (fun _ h9 => h9) rfl wd_J_costOf_20 ?_
        refine lv_iload_n hx hb wd_J_costOf_23 rfl (lv_at hl 2 rfl) ?_
        obtain ⟨h5, hf⟩ := wc_gd_e hf
        refine wx_iald hx hb hK hP (b + 1) (n := 8) (wx_Jl1 hb_) (wx_J1 hb_ _) (wc_in_e h5) wd_J_costOf_24 ?_
        refine lv_topi (fun v6 ev6 => ?_)
        have hf := wc_st_e ev6 hf
        refine lv_iload_n hx hb wd_J_costOf_25 rfl (lv_at hl 1 rfl) ?_
        refine lv_icmp_gt (tgt := 46) hx hb wd_J_costOf_26 (by decide) (fun c7 => ?_) (fun c7 => ?_)
        · have hf := wc_t c7 hf
          exact J46 (wf_J_costOf_11 b n) hk11 x1 x2 σ hf _ _ _ hP hD hS (lv_sub hl [0, 1, 2] rfl)
        · have hf := wc_f c7 hf
          refine lv_iload_n hx hb wd_J_costOf_29 rfl (lv_at hl 1 rfl) ?_
          refine lv_aload_n hx hb wd_J_costOf_30 rfl (lv_at hl 0 rfl) ?_
          refine wx_get (v := .ref (ad (b + 2))) (C := "WidthCampaigns$JumpTable") (T := wx_TJ) (N' := 4) hx hb hts wi_J hown hK hP b (wx_Jl0 hb_) (wx_J0 hb_ _) rfl 1 (by decide) wt_40 (fun _ h9 => h9) rfl wd_J_costOf_31 ?_
          refine lv_iload_n hx hb wd_J_costOf_34 rfl (lv_at hl 2 rfl) ?_
          obtain ⟨h9, hf⟩ := wc_gd_e hf
          refine wx_iald hx hb hK hP (b + 2) (n := 8) (wx_Jl2 hb_) (wx_J2 hb_ _) (wc_in_e h9) wd_J_costOf_35 ?_
          refine lv_topi (fun v10 ev10 => ?_)
          have hf := wc_st_e ev10 hf
          refine lv_icmp_gt (tgt := 46) hx hb wd_J_costOf_36 (by decide) (fun c11 => ?_) (fun c11 => ?_)
          · have hf := wc_t c11 hf
            exact J46 (wf_J_costOf_11 b n) hk11 x1 x2 σ hf _ _ _ hP hD hS (lv_sub hl [0, 1, 2] rfl)
          · have hf := wc_f c11 hf
            refine lv_aload_n hx hb wd_J_costOf_39 rfl (lv_at hl 0 rfl) ?_
            refine wx_get (v := .ref (ad (b + 3))) (C := "WidthCampaigns$JumpTable") (T := wx_TJ) (N' := 4) hx hb hts wi_J hown hK hP b (wx_Jl0 hb_) (wx_J0 hb_ _) rfl 2 (by decide) wt_41 (fun _ h9 => h9) rfl wd_J_costOf_40 ?_
            refine lv_iload_n hx hb wd_J_costOf_43 rfl (lv_at hl 2 rfl) ?_
            obtain ⟨h12, hf⟩ := wc_gd_e hf
            refine wx_iald hx hb hK hP (b + 3) (n := 8) (wx_Jl3 hb_) (wx_J3 hb_ _) (wc_in_e h12) wd_J_costOf_44 ?_
            refine lv_topi (fun v13 ev13 => ?_)
            have hf := wc_st_e ev13 hf
            exact wx_iret hx hb hr hlocks hf hP hS wd_J_costOf_45
  unfold wf_J_costOf at hf
  refine lv_aload_n hx hb wd_J_costOf_0 rfl (lv_at hl 0 rfl) ?_
  refine wx_get (v := .int (σ b 3)) (C := "WidthCampaigns$JumpTable") (T := wx_TJ) (N' := 4) hx hb hts wi_J hown hK hP b (wx_Jl0 hb_) (wx_J0 hb_ _) rfl 3 (by decide) wt_42 (fun _ h9 => h9) rfl wd_J_costOf_1 ?_
  refine lv_topi (fun v1 ev1 => ?_)
  have hf := wc_st_e ev1 hf
  refine lv_if_ne (tgt := 9) hx hb wd_J_costOf_4 (by decide) (fun c2 => ?_) (fun c2 => ?_)
  · have hf := wc_f c2 hf
    refine lv_iconst (v := 0) hx hb wd_J_costOf_9 (by decide) ?_
    refine lv_istore_n (lv' := [(2, .int 0), (0, .ref (ad b)), (1, .int a1)]) hx hb wd_J_costOf_10 rfl hl (by decide) rfl (fun ls hl => ?_)
    exact J11 16 a1 0 σ hf _ _ _ hP hD hS (lv_sub hl [1, 2, 0] rfl)
  · have hf := wc_t c2 hf
    refine lv_iconst (v := 0) hx hb wd_J_costOf_7 (by decide) ?_
    exact wx_iret hx hb hr hlocks hf hP hS wd_J_costOf_8
set_option maxHeartbeats 4000000 in
set_option maxRecDepth 100000 in
theorem wm_G_addGroup (l : Launch) (D : va_G) (ad : Nat → Nat) (cI cZ cJ cG : ClassId) (sz : Nat) (a1 : Int32) (a2 : Int32) (a3 : Int32) (σ : wc_S) (res : wc_S) (hf : wf_G_addGroup a1 a2 a3 σ = some res) : Met l wy_G_addGroup (wx_ws_G_addGroup) ({ frames := 0, cells := 0, slots := 0, locals := 0 }) (va_Pc [.ref (ad 26), .int a1, .int a2, .int a3] (wx_pre D ad cI cZ cJ cG σ sz)) (wx_Qv D ad cI cZ cJ cG res (va_A (wx_W ad cI cZ cJ cG σ) sz)) 0 0 (va_A (wx_W ad cI cZ cJ cG σ) sz) := by
  refine wx_ofW (cc := prog_6_method_2_code) (maxL := 4) (ret := none) (Qc := fun A => wx_Qv D ad cI cZ cJ cG res A) [.ref (ad 26), .int a1, .int a2, .int a3] (by decide) rfl (Nat.le_of_ble_eq_true rfl) ?_
  intro p e s m args below meth c A ls hin hl
  obtain ⟨hx, hb, hr, hts, hown, hlocks, hml, hA, hP, hK, hD, hC, hN, hS⟩ := hin
  have hl : lv_has ls 4 [(0, .ref (ad 26)), (1, .int a1), (2, .int a2), (3, .int a3)] := hl
  unfold wf_G_addGroup at hf
  refine lv_aload_n hx hb wd_G_addGroup_0 rfl (lv_at hl 0 rfl) ?_
  refine wx_get (v := .ref (ad 27)) (C := "WidthCampaigns$WidthGroups") (T := wx_TG) (N' := 4) hx hb hts wi_G hown hK hP 26 (by decide) rfl rfl 0 (by decide) wt_60 (fun _ h9 => h9) rfl wd_G_addGroup_1 ?_
  refine lv_aload_n hx hb wd_G_addGroup_4 rfl (lv_at hl 0 rfl) ?_
  refine wx_get (v := .int (σ 26 3)) (C := "WidthCampaigns$WidthGroups") (T := wx_TG) (N' := 4) hx hb hts wi_G hown hK hP 26 (by decide) rfl rfl 3 (by decide) wt_66 (fun _ h9 => h9) rfl wd_G_addGroup_5 ?_
  refine lv_topi (fun v1 ev1 => ?_)
  have hf := wc_st_e ev1 hf
  refine lv_iload_n hx hb wd_G_addGroup_8 rfl (lv_at hl 1 rfl) ?_
  obtain ⟨h2, hf⟩ := wc_gd_e hf
  refine wx_iast hx hb hK hP hD hS 27 (n := 4) (by decide) (fun _ => rfl) h2 wd_G_addGroup_9 (fun σ3 H locs eσ3 hP hD hS => ?_)
  have hf := wc_st_e eσ3 hf
  refine lv_aload_n hx hb wd_G_addGroup_10 rfl (lv_at hl 0 rfl) ?_
  refine wx_get (v := .ref (ad 28)) (C := "WidthCampaigns$WidthGroups") (T := wx_TG) (N' := 4) hx hb hts wi_G hown hK hP 26 (by decide) rfl rfl 1 (by decide) wt_62 (fun _ h9 => h9) rfl wd_G_addGroup_11 ?_
  refine lv_aload_n hx hb wd_G_addGroup_14 rfl (lv_at hl 0 rfl) ?_
  refine wx_get (v := .int (σ3 26 3)) (C := "WidthCampaigns$WidthGroups") (T := wx_TG) (N' := 4) hx hb hts wi_G hown hK hP 26 (by decide) rfl rfl 3 (by decide) wt_66 (fun _ h9 => h9) rfl wd_G_addGroup_15 ?_
  refine lv_topi (fun v4 ev4 => ?_)
  have hf := wc_st_e ev4 hf
  refine lv_iload_n hx hb wd_G_addGroup_18 rfl (lv_at hl 2 rfl) ?_
  obtain ⟨h5, hf⟩ := wc_gd_e hf
  refine wx_iast hx hb hK hP hD hS 28 (n := 4) (by decide) (fun _ => rfl) h5 wd_G_addGroup_19 (fun σ6 H locs eσ6 hP hD hS => ?_)
  have hf := wc_st_e eσ6 hf
  refine lv_aload_n hx hb wd_G_addGroup_20 rfl (lv_at hl 0 rfl) ?_
  refine wx_get (v := .ref (ad 29)) (C := "WidthCampaigns$WidthGroups") (T := wx_TG) (N' := 4) hx hb hts wi_G hown hK hP 26 (by decide) rfl rfl 2 (by decide) wt_64 (fun _ h9 => h9) rfl wd_G_addGroup_21 ?_
  refine lv_aload_n hx hb wd_G_addGroup_24 rfl (lv_at hl 0 rfl) ?_
  refine wx_get (v := .int (σ6 26 3)) (C := "WidthCampaigns$WidthGroups") (T := wx_TG) (N' := 4) hx hb hts wi_G hown hK hP 26 (by decide) rfl rfl 3 (by decide) wt_66 (fun _ h9 => h9) rfl wd_G_addGroup_25 ?_
  refine lv_topi (fun v7 ev7 => ?_)
  have hf := wc_st_e ev7 hf
  refine lv_iload_n hx hb wd_G_addGroup_28 rfl (lv_at hl 3 rfl) ?_
  obtain ⟨h8, hf⟩ := wc_gd_e hf
  refine wx_iast hx hb hK hP hD hS 29 (n := 4) (by decide) (fun _ => rfl) h8 wd_G_addGroup_29 (fun σ9 H locs eσ9 hP hD hS => ?_)
  have hf := wc_st_e eσ9 hf
  refine lv_aload_n hx hb wd_G_addGroup_30 rfl (lv_at hl 0 rfl) ?_
  refine lv_dup hx hb wd_G_addGroup_31 rfl ?_
  refine wx_get (v := .int (σ9 26 3)) (C := "WidthCampaigns$WidthGroups") (T := wx_TG) (N' := 4) hx hb hts wi_G hown hK hP 26 (by decide) rfl rfl 3 (by decide) wt_66 (fun _ h9 => h9) rfl wd_G_addGroup_32 ?_
  refine lv_topi (fun v10 ev10 => ?_)
  have hf := wc_st_e ev10 hf
  refine lv_iconst (v := 1) hx hb wd_G_addGroup_35 (by decide) ?_
  refine lv_iadd hx hb wd_G_addGroup_36 ?_
  refine lv_topi (fun v11 ev11 => ?_)
  have hf := wc_st_e ev11 hf
  refine wx_put (x := v11) (ty := .int) (C := "WidthCampaigns$WidthGroups") (T := wx_TG) (N' := 4) hx hb hts wi_G wx_tG wx_toG wx_nG hown hK hP hD hS 26 (by decide) (fun _ => rfl) rfl 3 (by decide) wt_66 (fun _ h9 => h9) rfl (by decide +kernel) rfl rfl (Nat.le_of_ble_eq_true rfl) rfl wd_G_addGroup_37 (fun σ12 H locs eσ12 hP hD hS => ?_)
  have hf := wc_st_e eσ12 hf
  exact wx_vret hx hb hr hlocks hf hP hS wd_G_addGroup_40
set_option maxHeartbeats 4000000 in
set_option maxRecDepth 100000 in
theorem wm_P_reckonJump (l : Launch) (D : va_G) (ad : Nat → Nat) (cI cZ cJ cG : ClassId) (sz : Nat) (a1 : Int32) (a2 : Int32) (σ : wc_S) (res : Int32 × wc_S) (hf : wf_P_reckonJump a1 a2 σ = some res) : Met l wy_P_reckonJump (wx_ws_P_reckonJump) ({ frames := 1, cells := 0, slots := 0, locals := 60 }) (va_Pc [.ref (ad 1), .int a1, .int a2] (wx_pre D ad cI cZ cJ cG σ sz)) (wx_Qi D ad cI cZ cJ cG res (va_A (wx_W ad cI cZ cJ cG σ) sz)) 0 0 (va_A (wx_W ad cI cZ cJ cG σ) sz) := by
  refine wx_ofW (cc := prog_4_method_4_code) (maxL := 5) (ret := (some .int)) (Qc := fun A => wx_Qi D ad cI cZ cJ cG res A) [.ref (ad 1), .int a1, .int a2] (by decide) rfl (Nat.le_of_ble_eq_true rfl) ?_
  intro p e s m args below meth c A ls hin hl
  obtain ⟨hx, hb, hr, hts, hown, hlocks, hml, hA, hP, hK, hD, hC, hN, hS⟩ := hin
  have hl : lv_has ls 5 [(0, .ref (ad 1)), (1, .int a1), (2, .int a2)] := hl
  unfold wf_P_reckonJump at hf
  refine lv_aload_n hx hb wd_P_reckonJump_0 rfl (lv_at hl 0 rfl) ?_
  refine wx_get (v := .ref (ad 18)) (C := "WidthCampaigns$Plant") (T := wx_TP) (N' := 15) hx hb hts wi_P hown hK hP 1 (by decide) rfl rfl 7 (by decide) wt_93 (fun _ h9 => h9) rfl wd_P_reckonJump_1 ?_
  refine lv_aload_n hx hb wd_P_reckonJump_4 rfl (lv_at hl 0 rfl) ?_
  refine wx_get (v := .ref (ad 4)) (C := "WidthCampaigns$Plant") (T := wx_TP) (N' := 15) hx hb hts wi_P hown hK hP 1 (by decide) rfl rfl 2 (by decide) wt_81 (fun _ h9 => h9) rfl wd_P_reckonJump_5 ?_
  refine lv_iload_n hx hb wd_P_reckonJump_8 rfl (lv_at hl 1 rfl) ?_
  obtain ⟨h1, hf⟩ := wc_gd_e hf
  refine wx_iald hx hb hK hP 4 (n := 9) (by decide) rfl (wc_in_e h1) wd_P_reckonJump_9 ?_
  refine lv_topi (fun v2 ev2 => ?_)
  have hf := wc_st_e ev2 hf
  refine lv_aload_n hx hb wd_P_reckonJump_10 rfl (lv_at hl 0 rfl) ?_
  refine wx_get (v := .ref (ad 4)) (C := "WidthCampaigns$Plant") (T := wx_TP) (N' := 15) hx hb hts wi_P hown hK hP 1 (by decide) rfl rfl 2 (by decide) wt_81 (fun _ h9 => h9) rfl wd_P_reckonJump_11 ?_
  refine lv_iload_n hx hb wd_P_reckonJump_14 rfl (lv_at hl 2 rfl) ?_
  obtain ⟨h3, hf⟩ := wc_gd_e hf
  refine wx_iald hx hb hK hP 4 (n := 9) (by decide) rfl (wc_in_e h3) wd_P_reckonJump_15 ?_
  refine lv_topi (fun v4 ev4 => ?_)
  have hf := wc_st_e ev4 hf
  refine lv_isub hx hb wd_P_reckonJump_16 ?_
  refine lv_topi (fun v5 ev5 => ?_)
  have hf := wc_st_e ev5 hf
  refine va_mabs hx hb (hml.trans hl.1.symm) hown (wx_hw hts wt_365) (wx_hw hts wt_366) (wx_hw hts wt_13) (wx_hw hts wt_367) (Nat.le_of_ble_eq_true rfl) (Nat.le_of_ble_eq_true rfl) (Nat.le_of_ble_eq_true rfl) (Nat.le_of_ble_eq_true rfl) wd_P_reckonJump_17 ?_
  refine lv_topi (fun v6 ev6 => ?_)
  have hf := wc_st_e ev6 hf
  obtain ⟨r8, σ7, hq, hf⟩ := wc_b2_e hf
  refine wx_calli (va_runVN (As := [.int v6]) (rest := []) ⟨hx, hb, hml, hown, hts⟩ (wm_J_costOf l D ad cI cZ cJ cG _ 18 (Or.inl rfl) v6 σ _ hq) (wx_cwN 1 hts wt_371 wt_370 wp_6 wt_3 (hN.1 _ (List.mem_of_getElem? (i := 0) rfl) #[]) wh_J_costOf rfl rfl ⟨Nat.le_of_ble_eq_true rfl, Nat.le_of_ble_eq_true rfl⟩) (wx_preV hK hP hD hS hA hC (by decide) rfl rfl) rfl rfl hl.1 rfl (lv_room (Nat.le_of_ble_eq_true rfl)) wd_P_reckonJump_20 ⟨Nat.le_of_ble_eq_true rfl, Nat.le_of_ble_eq_true rfl⟩) hD hS hA (fun H locs hP hD hS => ?_)
  refine lv_istore_n (lv' := [(3, .int r8), (0, .ref (ad 1)), (1, .int a1), (2, .int a2)]) hx hb wd_P_reckonJump_23 rfl hl (by decide) rfl (fun ls hl => ?_)
  refine lv_aload_n hx hb wd_P_reckonJump_24 rfl (lv_at hl 1 rfl) ?_
  refine wx_get (v := .ref (ad 22)) (C := "WidthCampaigns$Plant") (T := wx_TP) (N' := 15) hx hb hts wi_P hown hK hP 1 (by decide) rfl rfl 8 (by decide) wt_95 (fun _ h9 => h9) rfl wd_P_reckonJump_25 ?_
  refine lv_aload_n hx hb wd_P_reckonJump_28 rfl (lv_at hl 1 rfl) ?_
  refine wx_get (v := .ref (ad 3)) (C := "WidthCampaigns$Plant") (T := wx_TP) (N' := 15) hx hb hts wi_P hown hK hP 1 (by decide) rfl rfl 1 (by decide) wt_80 (fun _ h9 => h9) rfl wd_P_reckonJump_29 ?_
  refine lv_iload_n hx hb wd_P_reckonJump_32 rfl (lv_at hl 2 rfl) ?_
  obtain ⟨h9, hf⟩ := wc_gd_e hf
  refine wx_iald hx hb hK hP 3 (n := 9) (by decide) rfl (wc_in_e h9) wd_P_reckonJump_33 ?_
  refine lv_topi (fun v10 ev10 => ?_)
  have hf := wc_st_e ev10 hf
  refine lv_aload_n hx hb wd_P_reckonJump_34 rfl (lv_at hl 1 rfl) ?_
  refine wx_get (v := .ref (ad 3)) (C := "WidthCampaigns$Plant") (T := wx_TP) (N' := 15) hx hb hts wi_P hown hK hP 1 (by decide) rfl rfl 1 (by decide) wt_80 (fun _ h9 => h9) rfl wd_P_reckonJump_35 ?_
  refine lv_iload_n hx hb wd_P_reckonJump_38 rfl (lv_at hl 3 rfl) ?_
  obtain ⟨h11, hf⟩ := wc_gd_e hf
  refine wx_iald hx hb hK hP 3 (n := 9) (by decide) rfl (wc_in_e h11) wd_P_reckonJump_39 ?_
  refine lv_topi (fun v12 ev12 => ?_)
  have hf := wc_st_e ev12 hf
  refine lv_isub hx hb wd_P_reckonJump_40 ?_
  refine lv_topi (fun v13 ev13 => ?_)
  have hf := wc_st_e ev13 hf
  refine va_mabs hx hb (hml.trans hl.1.symm) hown (wx_hw hts wt_365) (wx_hw hts wt_366) (wx_hw hts wt_13) (wx_hw hts wt_367) (Nat.le_of_ble_eq_true rfl) (Nat.le_of_ble_eq_true rfl) (Nat.le_of_ble_eq_true rfl) (Nat.le_of_ble_eq_true rfl) wd_P_reckonJump_41 ?_
  refine lv_topi (fun v14 ev14 => ?_)
  have hf := wc_st_e ev14 hf
  obtain ⟨r16, σ15, hq, hf⟩ := wc_b2_e hf
  refine wx_calli (va_runVN (As := [.int v14]) (rest := []) ⟨hx, hb, hml, hown, hts⟩ (wm_J_costOf l D ad cI cZ cJ cG _ 22 (Or.inr rfl) v14 σ7 _ hq) (wx_cwN 1 hts wt_371 wt_370 wp_6 wt_3 (hN.1 _ (List.mem_of_getElem? (i := 0) rfl) #[]) wh_J_costOf rfl rfl ⟨Nat.le_of_ble_eq_true rfl, Nat.le_of_ble_eq_true rfl⟩) (wx_preV hK hP hD hS hA hC (by decide) rfl rfl) rfl rfl hl.1 rfl (lv_room (Nat.le_of_ble_eq_true rfl)) wd_P_reckonJump_44 ⟨Nat.le_of_ble_eq_true rfl, Nat.le_of_ble_eq_true rfl⟩) hD hS hA (fun H locs hP hD hS => ?_)
  refine lv_istore (lv' := [(4, .int r16), (3, .int r8), (0, .ref (ad 1)), (1, .int a1), (2, .int a2)]) hx hb wd_P_reckonJump_47 hl (by decide) rfl (fun ls hl => ?_)
  refine lv_iload_n hx hb wd_P_reckonJump_49 rfl (lv_at hl 1 rfl) ?_
  refine lv_iconst (v := (-1)) hx hb wd_P_reckonJump_50 (by decide) ?_
  refine lv_icmp_eq (tgt := 60) hx hb wd_P_reckonJump_51 (by decide) (fun c17 => ?_) (fun c17 => ?_)
  · have hf := wc_t c17 hf
    refine lv_iconst (v := (-1)) hx hb wd_P_reckonJump_60 (by decide) ?_
    exact wx_iret hx hb hr hlocks hf hP hS wd_P_reckonJump_61
  · have hf := wc_f c17 hf
    refine lv_iload hx hb wd_P_reckonJump_54 (lv_at hl 0 rfl) ?_
    refine lv_iconst (v := (-1)) hx hb wd_P_reckonJump_56 (by decide) ?_
    refine lv_icmp_ne (tgt := 62) hx hb wd_P_reckonJump_57 (by decide) (fun c18 => ?_) (fun c18 => ?_)
    · have hf := wc_f c18 hf
      refine lv_iload_n hx hb wd_P_reckonJump_62 rfl (lv_at hl 1 rfl) ?_
      refine lv_iload hx hb wd_P_reckonJump_63 (lv_at hl 0 rfl) ?_
      refine lv_iadd hx hb wd_P_reckonJump_65 ?_
      refine lv_topi (fun v19 ev19 => ?_)
      have hf := wc_st_e ev19 hf
      exact wx_iret hx hb hr hlocks hf hP hS wd_P_reckonJump_66
    · have hf := wc_t c18 hf
      refine lv_iconst (v := (-1)) hx hb wd_P_reckonJump_60 (by decide) ?_
      exact wx_iret hx hb hr hlocks hf hP hS wd_P_reckonJump_61
set_option maxHeartbeats 4000000 in
set_option maxRecDepth 100000 in
theorem wm_P_reckonJumps (l : Launch) (D : va_G) (ad : Nat → Nat) (cI cZ cJ cG : ClassId) (sz : Nat) (σ : wc_S) (res : wc_S) (hf : wf_P_reckonJumps  σ = some res) : Met l wy_P_reckonJumps (wx_ws_P_reckonJumps) ({ frames := 2, cells := 0, slots := 0, locals := 84 }) (va_Pc [.ref (ad 1)] (wx_pre D ad cI cZ cJ cG σ sz)) (wx_Qv D ad cI cZ cJ cG res (va_A (wx_W ad cI cZ cJ cG σ) sz)) 0 0 (va_A (wx_W ad cI cZ cJ cG σ) sz) := by
  refine wx_ofW (cc := prog_4_method_3_code) (maxL := 3) (ret := none) (Qc := fun A => wx_Qv D ad cI cZ cJ cG res A) [.ref (ad 1)] (by decide) rfl (Nat.le_of_ble_eq_true rfl) ?_
  intro p e s m args below meth c A ls hin hl
  obtain ⟨hx, hb, hr, hts, hown, hlocks, hml, hA, hP, hK, hD, hC, hN, hS⟩ := hin
  have hl : lv_has ls 3 [(0, .ref (ad 1))] := hl
  have J12 : ∀ (k2 : Int32 → wc_S → Option wc_S) (hk2 : (∀ (x1 : Int32) (σ : wc_S), k2 x1 σ = some res → wx_Arr p l e ({ frames := 2, cells := 0, slots := 0, locals := 84 }) s m args below meth c D ad cI cZ cJ cG A (MQ below (wx_Qv D ad cI cZ cJ cG res A) args s 0 0 A) 3 0 0 2 [(0, .ref (ad 1)), (1, .int x1)] [] σ)) (n : Nat) (x1 : Int32) (x2 : Int32) (σ : wc_S), wf_P_reckonJumps_12 k2 n x1 x2 σ = some res → wx_Arr p l e ({ frames := 2, cells := 0, slots := 0, locals := 84 }) s m args below meth c D ad cI cZ cJ cG A (MQ below (wx_Qv D ad cI cZ cJ cG res A) args s 0 0 A) 3 0 0 12 [(0, .ref (ad 1)), (1, .int x1), (2, .int x2)] [] σ := by
    intro k2 hk2 n
    induction n with
    | zero => intro x1 x2 σ hf; exact absurd hf (by intro h9; cases h9)
    | succ n hk12 =>
      intro x1 x2 σ hf H locs ls hP hD hS hl
      have hf : wf_P_reckonJumps_12_b k2 (wf_P_reckonJumps_12 k2 n) x1 x2 σ = some res := hf
      unfold wf_P_reckonJumps_12_b at hf
      refine lv_iload_n hx hb wd_P_reckonJumps_12 rfl (lv_at hl 2 rfl) ?_
      refine lv_aload_n hx hb wd_P_reckonJumps_13 rfl (lv_at hl 0 rfl) ?_
      refine wx_get (v := .int (σ 1 10)) (C := "WidthCampaigns$Plant") (T := wx_TP) (N' := 15) hx hb hts wi_P hown hK hP 1 (by decide) rfl rfl 10 (by decide) wt_100 (fun _ h9 => h9) rfl wd_P_reckonJumps_14 ?_
      refine lv_topi (fun v3 ev3 => ?_)
      have hf := wc_st_e ev3 hf
      refine lv_icmp_ge (tgt := 40) hx hb wd_P_reckonJumps_17 (by decide) (fun c4 => ?_) (fun c4 => ?_)
      · have hf := wc_t c4 hf
        obtain ⟨v5, ev5⟩ : ∃ y : Int32, y = x1 + 1 := ⟨_, rfl⟩
        have hf := wc_st_e ev5 hf
        refine lv_iinc (v := v5) (lv' := [(1, .int v5), (0, .ref (ad 1)), (2, .int x2)]) hx hb wd_P_reckonJumps_40 hl (k := 1) rfl (by rw [ev5]; rfl) (by decide) rfl (fun ls hl => ?_)
        refine lv_goto (tgt := 2) hx hb wd_P_reckonJumps_43 (by decide) ?_
        exact hk2 v5 σ hf _ _ _ hP hD hS (lv_sub hl [1, 0] rfl)
      · have hf := wc_f c4 hf
        refine lv_aload_n hx hb wd_P_reckonJumps_20 rfl (lv_at hl 0 rfl) ?_
        refine wx_get (v := .ref (ad 8)) (C := "WidthCampaigns$Plant") (T := wx_TP) (N' := 15) hx hb hts wi_P hown hK hP 1 (by decide) rfl rfl 6 (by decide) wt_90 (fun _ h9 => h9) rfl wd_P_reckonJumps_21 ?_
        refine lv_iload_n hx hb wd_P_reckonJumps_24 rfl (lv_at hl 1 rfl) ?_
        obtain ⟨h6, hf⟩ := wc_gd_e hf
        refine wx_aald (bs := 9) hx hb hK hP 8 (n := 9) (by decide) rfl h6 wd_P_reckonJumps_25 ?_
        refine lv_iload_n hx hb wd_P_reckonJumps_26 rfl (lv_at hl 2 rfl) ?_
        refine lv_aload_n hx hb wd_P_reckonJumps_27 rfl (lv_at hl 0 rfl) ?_
        refine lv_iload_n hx hb wd_P_reckonJumps_28 rfl (lv_at hl 1 rfl) ?_
        refine lv_iload_n hx hb wd_P_reckonJumps_29 rfl (lv_at hl 2 rfl) ?_
        obtain ⟨r8, σ7, hq, hf⟩ := wc_b2_e hf
        refine wx_calli (va_runV (As := [.int x1, .int x2]) (rest := [.int x2, .ref (ad (9 + x1.toNatClampNeg))]) ⟨hx, hb, hml, hown, hts⟩ (wm_P_reckonJump l D ad cI cZ cJ cG _ x1 x2 σ _ hq) (wx_cwV 2 hts wt_364 wt_363 wp_5 wt_2 wt_361 wh_P_reckonJump rfl rfl ⟨Nat.le_of_ble_eq_true rfl, Nat.le_of_ble_eq_true rfl⟩) (wx_preV hK hP hD hS hA hC (by decide) rfl rfl) rfl rfl hl.1 rfl (lv_room (Nat.le_of_ble_eq_true rfl)) wd_P_reckonJumps_30 ⟨Nat.le_of_ble_eq_true rfl, Nat.le_of_ble_eq_true rfl⟩) hD hS hA (fun H locs hP hD hS => ?_)
        obtain ⟨h9, hf⟩ := wc_gd_e hf
        refine wx_iast hx hb hK hP hD hS (9 + x1.toNatClampNeg) (n := 9) (wx_g8l h6) (fun _ => (wx_g8 h6 _)) h9 wd_P_reckonJumps_33 (fun σ10 H locs eσ10 hP hD hS => ?_)
        have hf := wc_st_e eσ10 hf
        obtain ⟨v11, ev11⟩ : ∃ y : Int32, y = x2 + 1 := ⟨_, rfl⟩
        have hf := wc_st_e ev11 hf
        refine lv_iinc (v := v11) (lv' := [(2, .int v11), (0, .ref (ad 1)), (1, .int x1)]) hx hb wd_P_reckonJumps_34 hl (k := 2) rfl (by rw [ev11]; rfl) (by decide) rfl (fun ls hl => ?_)
        refine lv_goto (tgt := 12) hx hb wd_P_reckonJumps_37 (by decide) ?_
        exact hk12 x1 v11 σ10 hf _ _ _ hP hD hS (lv_sub hl [1, 2, 0] rfl)
  have J2 : ∀ (n : Nat) (x1 : Int32) (σ : wc_S), wf_P_reckonJumps_2 n x1 σ = some res → wx_Arr p l e ({ frames := 2, cells := 0, slots := 0, locals := 84 }) s m args below meth c D ad cI cZ cJ cG A (MQ below (wx_Qv D ad cI cZ cJ cG res A) args s 0 0 A) 3 0 0 2 [(0, .ref (ad 1)), (1, .int x1)] [] σ := by
    intro  n
    induction n with
    | zero => intro x1 σ hf; exact absurd hf (by intro h9; cases h9)
    | succ n hk2 =>
      intro x1 σ hf H locs ls hP hD hS hl
      have hf : wf_P_reckonJumps_2_b (wf_P_reckonJumps_2 n) x1 σ = some res := hf
      unfold wf_P_reckonJumps_2_b at hf
      refine lv_iload_n hx hb wd_P_reckonJumps_2 rfl (lv_at hl 1 rfl) ?_
      refine lv_aload_n hx hb wd_P_reckonJumps_3 rfl (lv_at hl 0 rfl) ?_
      refine wx_get (v := .int (σ 1 10)) (C := "WidthCampaigns$Plant") (T := wx_TP) (N' := 15) hx hb hts wi_P hown hK hP 1 (by decide) rfl rfl 10 (by decide) wt_100 (fun _ h9 => h9) rfl wd_P_reckonJumps_4 ?_
      refine lv_topi (fun v1 ev1 => ?_)
      have hf := wc_st_e ev1 hf
      refine lv_icmp_ge (tgt := 46) hx hb wd_P_reckonJumps_7 (by decide) (fun c2 => ?_) (fun c2 => ?_)
      · have hf := wc_t c2 hf
        exact wx_vret hx hb hr hlocks hf hP hS wd_P_reckonJumps_46
      · have hf := wc_f c2 hf
        refine lv_iconst (v := 0) hx hb wd_P_reckonJumps_10 (by decide) ?_
        refine lv_istore_n (lv' := [(2, .int 0), (0, .ref (ad 1)), (1, .int x1)]) hx hb wd_P_reckonJumps_11 rfl hl (by decide) rfl (fun ls hl => ?_)
        exact J12 (wf_P_reckonJumps_2 n) hk2 16 x1 0 σ hf _ _ _ hP hD hS (lv_sub hl [1, 2, 0] rfl)
  unfold wf_P_reckonJumps at hf
  refine lv_iconst (v := 0) hx hb wd_P_reckonJumps_0 (by decide) ?_
  refine lv_istore_n (lv' := [(1, .int 0), (0, .ref (ad 1))]) hx hb wd_P_reckonJumps_1 rfl hl (by decide) rfl (fun ls hl => ?_)
  exact J2 16 0 σ hf _ _ _ hP hD hS (lv_sub hl [1, 0] rfl)
set_option maxHeartbeats 4000000 in
set_option maxRecDepth 100000 in
theorem wm_P_addCoil (l : Launch) (D : va_G) (ad : Nat → Nat) (cI cZ cJ cG : ClassId) (sz : Nat) (a1 : Int32) (a2 : Int32) (a3 : Int32) (a4 : Int32) (σ : wc_S) (res : Int32 × wc_S) (hf : wf_P_addCoil a1 a2 a3 a4 σ = some res) : Met l wy_P_addCoil (wx_ws_P_addCoil) ({ frames := 3, cells := 0, slots := 0, locals := 106 }) (va_Pc [.ref (ad 1), .int a1, .int a2, .int a3, .int a4] (wx_pre D ad cI cZ cJ cG σ sz)) (wx_Qi D ad cI cZ cJ cG res (va_A (wx_W ad cI cZ cJ cG σ) sz)) 0 0 (va_A (wx_W ad cI cZ cJ cG σ) sz) := by
  refine wx_ofW (cc := prog_4_method_2_code) (maxL := 6) (ret := (some .int)) (Qc := fun A => wx_Qi D ad cI cZ cJ cG res A) [.ref (ad 1), .int a1, .int a2, .int a3, .int a4] (by decide) rfl (Nat.le_of_ble_eq_true rfl) ?_
  intro p e s m args below meth c A ls hin hl
  obtain ⟨hx, hb, hr, hts, hown, hlocks, hml, hA, hP, hK, hD, hC, hN, hS⟩ := hin
  have hl : lv_has ls 6 [(0, .ref (ad 1)), (1, .int a1), (2, .int a2), (3, .int a3), (4, .int a4)] := hl
  unfold wf_P_addCoil at hf
  refine lv_aload_n hx hb wd_P_addCoil_0 rfl (lv_at hl 0 rfl) ?_
  refine wx_get (v := .int (σ 1 10)) (C := "WidthCampaigns$Plant") (T := wx_TP) (N' := 15) hx hb hts wi_P hown hK hP 1 (by decide) rfl rfl 10 (by decide) wt_100 (fun _ h9 => h9) rfl wd_P_addCoil_1 ?_
  refine lv_topi (fun v1 ev1 => ?_)
  have hf := wc_st_e ev1 hf
  refine lv_istore (lv' := [(5, .int v1), (0, .ref (ad 1)), (1, .int a1), (2, .int a2), (3, .int a3), (4, .int a4)]) hx hb wd_P_addCoil_4 hl (by decide) rfl (fun ls hl => ?_)
  refine lv_aload_n hx hb wd_P_addCoil_6 rfl (lv_at hl 1 rfl) ?_
  refine wx_get (v := .ref (ad 2)) (C := "WidthCampaigns$Plant") (T := wx_TP) (N' := 15) hx hb hts wi_P hown hK hP 1 (by decide) rfl rfl 0 (by decide) wt_78 (fun _ h9 => h9) rfl wd_P_addCoil_7 ?_
  refine lv_iload hx hb wd_P_addCoil_10 (lv_at hl 0 rfl) ?_
  refine lv_iload_n hx hb wd_P_addCoil_12 rfl (lv_at hl 2 rfl) ?_
  obtain ⟨h2, hf⟩ := wc_gd_e hf
  refine wx_iast hx hb hK hP hD hS 2 (n := 9) (by decide) (fun _ => rfl) h2 wd_P_addCoil_13 (fun σ3 H locs eσ3 hP hD hS => ?_)
  have hf := wc_st_e eσ3 hf
  refine lv_aload_n hx hb wd_P_addCoil_14 rfl (lv_at hl 1 rfl) ?_
  refine wx_get (v := .ref (ad 3)) (C := "WidthCampaigns$Plant") (T := wx_TP) (N' := 15) hx hb hts wi_P hown hK hP 1 (by decide) rfl rfl 1 (by decide) wt_80 (fun _ h9 => h9) rfl wd_P_addCoil_15 ?_
  refine lv_iload hx hb wd_P_addCoil_18 (lv_at hl 0 rfl) ?_
  refine lv_iload_n hx hb wd_P_addCoil_20 rfl (lv_at hl 3 rfl) ?_
  obtain ⟨h4, hf⟩ := wc_gd_e hf
  refine wx_iast hx hb hK hP hD hS 3 (n := 9) (by decide) (fun _ => rfl) h4 wd_P_addCoil_21 (fun σ5 H locs eσ5 hP hD hS => ?_)
  have hf := wc_st_e eσ5 hf
  refine lv_aload_n hx hb wd_P_addCoil_22 rfl (lv_at hl 1 rfl) ?_
  refine wx_get (v := .ref (ad 4)) (C := "WidthCampaigns$Plant") (T := wx_TP) (N' := 15) hx hb hts wi_P hown hK hP 1 (by decide) rfl rfl 2 (by decide) wt_81 (fun _ h9 => h9) rfl wd_P_addCoil_23 ?_
  refine lv_iload hx hb wd_P_addCoil_26 (lv_at hl 0 rfl) ?_
  refine lv_iload_n hx hb wd_P_addCoil_28 rfl (lv_at hl 4 rfl) ?_
  obtain ⟨h6, hf⟩ := wc_gd_e hf
  refine wx_iast hx hb hK hP hD hS 4 (n := 9) (by decide) (fun _ => rfl) h6 wd_P_addCoil_29 (fun σ7 H locs eσ7 hP hD hS => ?_)
  have hf := wc_st_e eσ7 hf
  refine lv_aload_n hx hb wd_P_addCoil_30 rfl (lv_at hl 1 rfl) ?_
  refine wx_get (v := .ref (ad 5)) (C := "WidthCampaigns$Plant") (T := wx_TP) (N' := 15) hx hb hts wi_P hown hK hP 1 (by decide) rfl rfl 3 (by decide) wt_82 (fun _ h9 => h9) rfl wd_P_addCoil_31 ?_
  refine lv_iload hx hb wd_P_addCoil_34 (lv_at hl 0 rfl) ?_
  refine lv_iload hx hb wd_P_addCoil_36 (lv_at hl 5 rfl) ?_
  obtain ⟨h8, hf⟩ := wc_gd_e hf
  refine wx_iast hx hb hK hP hD hS 5 (n := 9) (by decide) (fun _ => rfl) h8 wd_P_addCoil_38 (fun σ9 H locs eσ9 hP hD hS => ?_)
  have hf := wc_st_e eσ9 hf
  refine lv_aload_n hx hb wd_P_addCoil_39 rfl (lv_at hl 1 rfl) ?_
  refine wx_get (v := .ref (ad 6)) (C := "WidthCampaigns$Plant") (T := wx_TP) (N' := 15) hx hb hts wi_P hown hK hP 1 (by decide) rfl rfl 4 (by decide) wt_84 (fun _ h9 => h9) rfl wd_P_addCoil_40 ?_
  refine lv_iload hx hb wd_P_addCoil_43 (lv_at hl 0 rfl) ?_
  refine lv_bipush (v := 8) hx hb wd_P_addCoil_45 (by decide) ?_
  obtain ⟨h10, hf⟩ := wc_gd_e hf
  refine wx_iast hx hb hK hP hD hS 6 (n := 9) (by decide) (fun _ => rfl) h10 wd_P_addCoil_47 (fun σ11 H locs eσ11 hP hD hS => ?_)
  have hf := wc_st_e eσ11 hf
  refine lv_aload_n hx hb wd_P_addCoil_48 rfl (lv_at hl 1 rfl) ?_
  refine wx_get (v := .ref (ad 7)) (C := "WidthCampaigns$Plant") (T := wx_TP) (N' := 15) hx hb hts wi_P hown hK hP 1 (by decide) rfl rfl 5 (by decide) wt_87 (fun _ h9 => h9) rfl wd_P_addCoil_49 ?_
  refine lv_iload hx hb wd_P_addCoil_52 (lv_at hl 0 rfl) ?_
  refine lv_iconst (v := (-1)) hx hb wd_P_addCoil_54 (by decide) ?_
  obtain ⟨h12, hf⟩ := wc_gd_e hf
  refine wx_iast hx hb hK hP hD hS 7 (n := 9) (by decide) (fun _ => rfl) h12 wd_P_addCoil_55 (fun σ13 H locs eσ13 hP hD hS => ?_)
  have hf := wc_st_e eσ13 hf
  refine lv_aload_n hx hb wd_P_addCoil_56 rfl (lv_at hl 1 rfl) ?_
  refine lv_dup hx hb wd_P_addCoil_57 rfl ?_
  refine wx_get (v := .int (σ13 1 10)) (C := "WidthCampaigns$Plant") (T := wx_TP) (N' := 15) hx hb hts wi_P hown hK hP 1 (by decide) rfl rfl 10 (by decide) wt_100 (fun _ h9 => h9) rfl wd_P_addCoil_58 ?_
  refine lv_topi (fun v14 ev14 => ?_)
  have hf := wc_st_e ev14 hf
  refine lv_iconst (v := 1) hx hb wd_P_addCoil_61 (by decide) ?_
  refine lv_iadd hx hb wd_P_addCoil_62 ?_
  refine lv_topi (fun v15 ev15 => ?_)
  have hf := wc_st_e ev15 hf
  refine wx_put (x := v15) (ty := .int) (C := "WidthCampaigns$Plant") (T := wx_TP) (N' := 15) hx hb hts wi_P wx_tP wx_toP wx_nP hown hK hP hD hS 1 (by decide) (fun _ => rfl) rfl 10 (by decide) wt_100 (fun _ h9 => h9) rfl (by decide +kernel) rfl rfl (Nat.le_of_ble_eq_true rfl) rfl wd_P_addCoil_63 (fun σ16 H locs eσ16 hP hD hS => ?_)
  have hf := wc_st_e eσ16 hf
  refine lv_aload_n hx hb wd_P_addCoil_66 rfl (lv_at hl 1 rfl) ?_
  obtain ⟨σ17, hq, hf⟩ := wc_b1_e hf
  refine wx_callv (va_runV (As := []) (rest := []) ⟨hx, hb, hml, hown, hts⟩ (wm_P_reckonJumps l D ad cI cZ cJ cG _ σ16 _ hq) (wx_cwV 0 hts wt_360 wt_359 wp_4 wt_2 wt_357 wh_P_reckonJumps rfl rfl ⟨Nat.le_of_ble_eq_true rfl, Nat.le_of_ble_eq_true rfl⟩) (wx_preV hK hP hD hS hA hC (by decide) rfl rfl) rfl rfl hl.1 rfl (lv_room (Nat.le_of_ble_eq_true rfl)) wd_P_addCoil_67 ⟨Nat.le_of_ble_eq_true rfl, Nat.le_of_ble_eq_true rfl⟩) hD hS hA (fun H locs hP hD hS => ?_)
  refine lv_iload hx hb wd_P_addCoil_70 (lv_at hl 0 rfl) ?_
  exact wx_iret hx hb hr hlocks hf hP hS wd_P_addCoil_72
set_option maxHeartbeats 4000000 in
set_option maxRecDepth 100000 in
theorem wm_P_leastJumpTo (l : Launch) (D : va_G) (ad : Nat → Nat) (cI cZ cJ cG : ClassId) (sz : Nat) (a1 : Int32) (σ : wc_S) (res : Int32 × wc_S) (hf : wf_P_leastJumpTo a1 σ = some res) : Met l wy_P_leastJumpTo (wx_ws_P_leastJumpTo) ({ frames := 0, cells := 0, slots := 0, locals := 0 }) (va_Pc [.ref (ad 1), .int a1] (wx_pre D ad cI cZ cJ cG σ sz)) (wx_Qi D ad cI cZ cJ cG res (va_A (wx_W ad cI cZ cJ cG σ) sz)) 0 0 (va_A (wx_W ad cI cZ cJ cG σ) sz) := by
  refine wx_ofW (cc := prog_4_method_5_code) (maxL := 5) (ret := (some .int)) (Qc := fun A => wx_Qi D ad cI cZ cJ cG res A) [.ref (ad 1), .int a1] (by decide) rfl (Nat.le_of_ble_eq_true rfl) ?_
  intro p e s m args below meth c A ls hin hl
  obtain ⟨hx, hb, hr, hts, hown, hlocks, hml, hA, hP, hK, hD, hC, hN, hS⟩ := hin
  have hl : lv_has ls 5 [(0, .ref (ad 1)), (1, .int a1)] := hl
  have J47 : ∀ (k4 : Int32 → Int32 → Int32 → wc_S → Option (Int32 × wc_S)) (hk4 : (∀ (x1 : Int32) (x2 : Int32) (x3 : Int32) (σ : wc_S), k4 x1 x2 x3 σ = some res → wx_Arr p l e ({ frames := 0, cells := 0, slots := 0, locals := 0 }) s m args below meth c D ad cI cZ cJ cG A (MQ below (wx_Qi D ad cI cZ cJ cG res A) args s 0 0 A) 5 0 0 4 [(0, .ref (ad 1)), (1, .int x1), (2, .int x2), (3, .int x3)] [] σ)) (x1 : Int32) (x2 : Int32) (x3 : Int32) (σ : wc_S), wf_P_leastJumpTo_47 k4 x1 x2 x3 σ = some res → wx_Arr p l e ({ frames := 0, cells := 0, slots := 0, locals := 0 }) s m args below meth c D ad cI cZ cJ cG A (MQ below (wx_Qi D ad cI cZ cJ cG res A) args s 0 0 A) 5 0 0 47 [(0, .ref (ad 1)), (1, .int x1), (2, .int x2), (3, .int x3)] [] σ := by
    intro k4 hk4 x1 x2 x3 σ hf H locs ls hP hD hS hl
    unfold wf_P_leastJumpTo_47 at hf
    obtain ⟨v8, ev8⟩ : ∃ y : Int32, y = x3 + 1 := ⟨_, rfl⟩
    have hf := wc_st_e ev8 hf
    refine lv_iinc (v := v8) (lv' := [(3, .int v8), (0, .ref (ad 1)), (1, .int x1), (2, .int x2)]) hx hb wd_P_leastJumpTo_47 hl (k := 3) rfl (by rw [ev8]; rfl) (by decide) rfl (fun ls hl => ?_)
    refine lv_goto (tgt := 4) hx hb wd_P_leastJumpTo_50 (by decide) ?_
    exact hk4 x1 x2 v8 σ hf _ _ _ hP hD hS (lv_sub hl [1, 2, 3, 0] rfl)
  have J44 : ∀ (k4 : Int32 → Int32 → Int32 → wc_S → Option (Int32 × wc_S)) (hk4 : (∀ (x1 : Int32) (x2 : Int32) (x3 : Int32) (σ : wc_S), k4 x1 x2 x3 σ = some res → wx_Arr p l e ({ frames := 0, cells := 0, slots := 0, locals := 0 }) s m args below meth c D ad cI cZ cJ cG A (MQ below (wx_Qi D ad cI cZ cJ cG res A) args s 0 0 A) 5 0 0 4 [(0, .ref (ad 1)), (1, .int x1), (2, .int x2), (3, .int x3)] [] σ)) (x1 : Int32) (x3 : Int32) (x4 : Int32) (σ : wc_S), wf_P_leastJumpTo_44 k4 x1 x3 x4 σ = some res → wx_Arr p l e ({ frames := 0, cells := 0, slots := 0, locals := 0 }) s m args below meth c D ad cI cZ cJ cG A (MQ below (wx_Qi D ad cI cZ cJ cG res A) args s 0 0 A) 5 0 0 44 [(0, .ref (ad 1)), (1, .int x1), (3, .int x3), (4, .int x4)] [] σ := by
    intro k4 hk4 x1 x3 x4 σ hf H locs ls hP hD hS hl
    unfold wf_P_leastJumpTo_44 at hf
    refine lv_iload hx hb wd_P_leastJumpTo_44 (lv_at hl 3 rfl) ?_
    refine lv_istore_n (lv' := [(2, .int x4), (0, .ref (ad 1)), (1, .int x1), (3, .int x3), (4, .int x4)]) hx hb wd_P_leastJumpTo_46 rfl hl (by decide) rfl (fun ls hl => ?_)
    exact J47 k4 hk4 x1 x4 x3 σ hf _ _ _ hP hD hS (lv_sub hl [1, 2, 0, 3] rfl)
  have J4 : ∀ (n : Nat) (x1 : Int32) (x2 : Int32) (x3 : Int32) (σ : wc_S), wf_P_leastJumpTo_4 n x1 x2 x3 σ = some res → wx_Arr p l e ({ frames := 0, cells := 0, slots := 0, locals := 0 }) s m args below meth c D ad cI cZ cJ cG A (MQ below (wx_Qi D ad cI cZ cJ cG res A) args s 0 0 A) 5 0 0 4 [(0, .ref (ad 1)), (1, .int x1), (2, .int x2), (3, .int x3)] [] σ := by
    intro  n
    induction n with
    | zero => intro x1 x2 x3 σ hf; exact absurd hf (by intro h9; cases h9)
    | succ n hk4 =>
      intro x1 x2 x3 σ hf H locs ls hP hD hS hl
      have hf : wf_P_leastJumpTo_4_b (wf_P_leastJumpTo_4 n) x1 x2 x3 σ = some res := hf
      unfold wf_P_leastJumpTo_4_b at hf
      refine lv_iload_n hx hb wd_P_leastJumpTo_4 rfl (lv_at hl 3 rfl) ?_
      refine lv_aload_n hx hb wd_P_leastJumpTo_5 rfl (lv_at hl 0 rfl) ?_
      refine wx_get (v := .int (σ 1 10)) (C := "WidthCampaigns$Plant") (T := wx_TP) (N' := 15) hx hb hts wi_P hown hK hP 1 (by decide) rfl rfl 10 (by decide) wt_100 (fun _ h9 => h9) rfl wd_P_leastJumpTo_6 ?_
      refine lv_topi (fun v1 ev1 => ?_)
      have hf := wc_st_e ev1 hf
      refine lv_icmp_ge (tgt := 53) hx hb wd_P_leastJumpTo_9 (by decide) (fun c2 => ?_) (fun c2 => ?_)
      · have hf := wc_t c2 hf
        refine lv_iload_n hx hb wd_P_leastJumpTo_53 rfl (lv_at hl 2 rfl) ?_
        refine lv_iconst (v := (-1)) hx hb wd_P_leastJumpTo_54 (by decide) ?_
        refine lv_icmp_ne (tgt := 62) hx hb wd_P_leastJumpTo_55 (by decide) (fun c3 => ?_) (fun c3 => ?_)
        · have hf := wc_f c3 hf
          refine lv_iload_n hx hb wd_P_leastJumpTo_62 rfl (lv_at hl 2 rfl) ?_
          exact wx_iret hx hb hr hlocks hf hP hS wd_P_leastJumpTo_63
        · have hf := wc_t c3 hf
          refine lv_iconst (v := 0) hx hb wd_P_leastJumpTo_58 (by decide) ?_
          refine lv_goto (tgt := 63) hx hb wd_P_leastJumpTo_59 (by decide) ?_
          exact wx_iret hx hb hr hlocks hf hP hS wd_P_leastJumpTo_63
      · have hf := wc_f c2 hf
        refine lv_aload_n hx hb wd_P_leastJumpTo_12 rfl (lv_at hl 0 rfl) ?_
        refine wx_get (v := .ref (ad 8)) (C := "WidthCampaigns$Plant") (T := wx_TP) (N' := 15) hx hb hts wi_P hown hK hP 1 (by decide) rfl rfl 6 (by decide) wt_90 (fun _ h9 => h9) rfl wd_P_leastJumpTo_13 ?_
        refine lv_iload_n hx hb wd_P_leastJumpTo_16 rfl (lv_at hl 3 rfl) ?_
        obtain ⟨h4, hf⟩ := wc_gd_e hf
        refine wx_aald (bs := 9) hx hb hK hP 8 (n := 9) (by decide) rfl h4 wd_P_leastJumpTo_17 ?_
        refine lv_iload_n hx hb wd_P_leastJumpTo_18 rfl (lv_at hl 1 rfl) ?_
        obtain ⟨h5, hf⟩ := wc_gd_e hf
        refine wx_iald hx hb hK hP (9 + x3.toNatClampNeg) (n := 9) (wx_g8l h4) (wx_g8 h4 _) (wc_in_e h5) wd_P_leastJumpTo_19 ?_
        refine lv_topi (fun v6 ev6 => ?_)
        have hf := wc_st_e ev6 hf
        refine lv_istore (lv' := [(4, .int v6), (0, .ref (ad 1)), (1, .int x1), (2, .int x2), (3, .int x3)]) hx hb wd_P_leastJumpTo_20 hl (by decide) rfl (fun ls hl => ?_)
        refine lv_iload_n hx hb wd_P_leastJumpTo_22 rfl (lv_at hl 4 rfl) ?_
        refine lv_iload_n hx hb wd_P_leastJumpTo_23 rfl (lv_at hl 2 rfl) ?_
        refine lv_icmp_eq (tgt := 47) hx hb wd_P_leastJumpTo_24 (by decide) (fun c7 => ?_) (fun c7 => ?_)
        · have hf := wc_t c7 hf
          exact J47 (wf_P_leastJumpTo_4 n) hk4 x1 x2 x3 σ hf _ _ _ hP hD hS (lv_sub hl [1, 2, 3, 4] rfl)
        · have hf := wc_f c7 hf
          refine lv_iload hx hb wd_P_leastJumpTo_27 (lv_at hl 0 rfl) ?_
          refine lv_iconst (v := (-1)) hx hb wd_P_leastJumpTo_29 (by decide) ?_
          refine lv_icmp_eq (tgt := 47) hx hb wd_P_leastJumpTo_30 (by decide) (fun c9 => ?_) (fun c9 => ?_)
          · have hf := wc_t c9 hf
            exact J47 (wf_P_leastJumpTo_4 n) hk4 x1 x2 x3 σ hf _ _ _ hP hD hS (lv_sub hl [1, 2, 3, 4] rfl)
          · have hf := wc_f c9 hf
            refine lv_iload_n hx hb wd_P_leastJumpTo_33 rfl (lv_at hl 3 rfl) ?_
            refine lv_iconst (v := (-1)) hx hb wd_P_leastJumpTo_34 (by decide) ?_
            refine lv_icmp_eq (tgt := 44) hx hb wd_P_leastJumpTo_35 (by decide) (fun c10 => ?_) (fun c10 => ?_)
            · have hf := wc_t c10 hf
              exact J44 (wf_P_leastJumpTo_4 n) hk4 x1 x3 v6 σ hf _ _ _ hP hD hS (lv_sub hl [1, 2, 4, 0] rfl)
            · have hf := wc_f c10 hf
              refine lv_iload hx hb wd_P_leastJumpTo_38 (lv_at hl 0 rfl) ?_
              refine lv_iload_n hx hb wd_P_leastJumpTo_40 rfl (lv_at hl 3 rfl) ?_
              refine lv_icmp_ge (tgt := 47) hx hb wd_P_leastJumpTo_41 (by decide) (fun c11 => ?_) (fun c11 => ?_)
              · have hf := wc_t c11 hf
                exact J47 (wf_P_leastJumpTo_4 n) hk4 x1 x2 x3 σ hf _ _ _ hP hD hS (lv_sub hl [1, 2, 3, 4] rfl)
              · have hf := wc_f c11 hf
                exact J44 (wf_P_leastJumpTo_4 n) hk4 x1 x3 v6 σ hf _ _ _ hP hD hS (lv_sub hl [1, 2, 4, 0] rfl)
  unfold wf_P_leastJumpTo at hf
  refine lv_iconst (v := (-1)) hx hb wd_P_leastJumpTo_0 (by decide) ?_
  refine lv_istore_n (lv' := [(2, .int (-1)), (0, .ref (ad 1)), (1, .int a1)]) hx hb wd_P_leastJumpTo_1 rfl hl (by decide) rfl (fun ls hl => ?_)
  refine lv_iconst (v := 0) hx hb wd_P_leastJumpTo_2 (by decide) ?_
  refine lv_istore_n (lv' := [(3, .int 0), (2, .int (-1)), (0, .ref (ad 1)), (1, .int a1)]) hx hb wd_P_leastJumpTo_3 rfl hl (by decide) rfl (fun ls hl => ?_)
  exact J4 16 a1 (-1) 0 σ hf _ _ _ hP hD hS (lv_sub hl [2, 3, 1, 0] rfl)
set_option maxHeartbeats 4000000 in
set_option maxRecDepth 100000 in
theorem wm_P_kilometresInGroup (l : Launch) (D : va_G) (ad : Nat → Nat) (cI cZ cJ cG : ClassId) (sz : Nat) (a1 : Int32) (a2 : Int32) (σ : wc_S) (res : Int32 × wc_S) (hf : wf_P_kilometresInGroup a1 a2 σ = some res) : Met l wy_P_kilometresInGroup (wx_ws_P_kilometresInGroup) ({ frames := 0, cells := 0, slots := 0, locals := 0 }) (va_Pc [.ref (ad 1), .int a1, .int a2] (wx_pre D ad cI cZ cJ cG σ sz)) (wx_Qi D ad cI cZ cJ cG res (va_A (wx_W ad cI cZ cJ cG σ) sz)) 0 0 (va_A (wx_W ad cI cZ cJ cG σ) sz) := by
  refine wx_ofW (cc := prog_4_method_6_code) (maxL := 4) (ret := (some .int)) (Qc := fun A => wx_Qi D ad cI cZ cJ cG res A) [.ref (ad 1), .int a1, .int a2] (by decide) rfl (Nat.le_of_ble_eq_true rfl) ?_
  intro p e s m args below meth c A ls hin hl
  obtain ⟨hx, hb, hr, hts, hown, hlocks, hml, hA, hP, hK, hD, hC, hN, hS⟩ := hin
  have hl : lv_has ls 4 [(0, .ref (ad 1)), (1, .int a1), (2, .int a2)] := hl
  have J41 : ∀ (x2 : Int32) (s0 : Int32) (σ : wc_S), wf_P_kilometresInGroup_41 x2 s0 σ = some res → wx_Arr p l e ({ frames := 0, cells := 0, slots := 0, locals := 0 }) s m args below meth c D ad cI cZ cJ cG A (MQ below (wx_Qi D ad cI cZ cJ cG res A) args s 0 0 A) 4 0 0 41 [(0, .ref (ad 1)), (2, .int x2)] [.int s0] σ := by
    intro  x2 s0 σ hf H locs ls hP hD hS hl
    unfold wf_P_kilometresInGroup_41 at hf
    refine lv_istore_n (lv' := [(3, .int s0), (0, .ref (ad 1)), (2, .int x2)]) hx hb wd_P_kilometresInGroup_41 rfl hl (by decide) rfl (fun ls hl => ?_)
    refine lv_iload_n hx hb wd_P_kilometresInGroup_42 rfl (lv_at hl 0 rfl) ?_
    refine lv_if_eq (tgt := 55) hx hb wd_P_kilometresInGroup_43 (by decide) (fun c6 => ?_) (fun c6 => ?_)
    · have hf := wc_t c6 hf
      refine lv_iconst (v := 0) hx hb wd_P_kilometresInGroup_55 (by decide) ?_
      exact wx_iret hx hb hr hlocks hf hP hS wd_P_kilometresInGroup_56
    · have hf := wc_f c6 hf
      refine lv_aload_n hx hb wd_P_kilometresInGroup_46 rfl (lv_at hl 1 rfl) ?_
      refine wx_get (v := .ref (ad 5)) (C := "WidthCampaigns$Plant") (T := wx_TP) (N' := 15) hx hb hts wi_P hown hK hP 1 (by decide) rfl rfl 3 (by decide) wt_82 (fun _ h9 => h9) rfl wd_P_kilometresInGroup_47 ?_
      refine lv_iload_n hx hb wd_P_kilometresInGroup_50 rfl (lv_at hl 2 rfl) ?_
      obtain ⟨h7, hf⟩ := wc_gd_e hf
      refine wx_iald hx hb hK hP 5 (n := 9) (by decide) rfl (wc_in_e h7) wd_P_kilometresInGroup_51 ?_
      refine lv_topi (fun v8 ev8 => ?_)
      have hf := wc_st_e ev8 hf
      refine lv_goto (tgt := 56) hx hb wd_P_kilometresInGroup_52 (by decide) ?_
      exact wx_iret hx hb hr hlocks hf hP hS wd_P_kilometresInGroup_56
  have J40 : ∀ (x2 : Int32) (σ : wc_S), wf_P_kilometresInGroup_40 x2 σ = some res → wx_Arr p l e ({ frames := 0, cells := 0, slots := 0, locals := 0 }) s m args below meth c D ad cI cZ cJ cG A (MQ below (wx_Qi D ad cI cZ cJ cG res A) args s 0 0 A) 4 0 0 40 [(0, .ref (ad 1)), (2, .int x2)] [] σ := by
    intro  x2 σ hf H locs ls hP hD hS hl
    unfold wf_P_kilometresInGroup_40 at hf
    refine lv_iconst (v := 0) hx hb wd_P_kilometresInGroup_40 (by decide) ?_
    exact J41 x2 0 σ hf _ _ _ hP hD hS (lv_sub hl [0, 1] rfl)
  unfold wf_P_kilometresInGroup at hf
  refine lv_aload_n hx hb wd_P_kilometresInGroup_0 rfl (lv_at hl 0 rfl) ?_
  refine wx_get (v := .ref (ad 26)) (C := "WidthCampaigns$Plant") (T := wx_TP) (N' := 15) hx hb hts wi_P hown hK hP 1 (by decide) rfl rfl 9 (by decide) wt_97 (fun _ h9 => h9) rfl wd_P_kilometresInGroup_1 ?_
  refine wx_getN (v := .ref (ad 27)) (C := "WidthCampaigns$WidthGroups") (T := wx_TG) (N' := 4) hx hb hts wi_G hown hK hP 26 (by decide) rfl rfl 0 (by decide) (hN.1 _ (List.mem_of_getElem? (i := 1) rfl) #[]) (fun _ h9 => h9) rfl wd_P_kilometresInGroup_4 ?_
  refine lv_iload_n hx hb wd_P_kilometresInGroup_7 rfl (lv_at hl 1 rfl) ?_
  obtain ⟨h1, hf⟩ := wc_gd_e hf
  refine wx_iald hx hb hK hP 27 (n := 4) (by decide) rfl (wc_in_e h1) wd_P_kilometresInGroup_8 ?_
  refine lv_topi (fun v2 ev2 => ?_)
  have hf := wc_st_e ev2 hf
  refine lv_aload_n hx hb wd_P_kilometresInGroup_9 rfl (lv_at hl 0 rfl) ?_
  refine wx_get (v := .ref (ad 2)) (C := "WidthCampaigns$Plant") (T := wx_TP) (N' := 15) hx hb hts wi_P hown hK hP 1 (by decide) rfl rfl 0 (by decide) wt_78 (fun _ h9 => h9) rfl wd_P_kilometresInGroup_10 ?_
  refine lv_iload_n hx hb wd_P_kilometresInGroup_13 rfl (lv_at hl 2 rfl) ?_
  obtain ⟨h3, hf⟩ := wc_gd_e hf
  refine wx_iald hx hb hK hP 2 (n := 9) (by decide) rfl (wc_in_e h3) wd_P_kilometresInGroup_14 ?_
  refine lv_topi (fun v4 ev4 => ?_)
  have hf := wc_st_e ev4 hf
  refine lv_icmp_gt (tgt := 40) hx hb wd_P_kilometresInGroup_15 (by decide) (fun c5 => ?_) (fun c5 => ?_)
  · have hf := wc_t c5 hf
    exact J40 a2 σ hf _ _ _ hP hD hS (lv_sub hl [0, 2] rfl)
  · have hf := wc_f c5 hf
    refine lv_aload_n hx hb wd_P_kilometresInGroup_18 rfl (lv_at hl 0 rfl) ?_
    refine wx_get (v := .ref (ad 2)) (C := "WidthCampaigns$Plant") (T := wx_TP) (N' := 15) hx hb hts wi_P hown hK hP 1 (by decide) rfl rfl 0 (by decide) wt_78 (fun _ h9 => h9) rfl wd_P_kilometresInGroup_19 ?_
    refine lv_iload_n hx hb wd_P_kilometresInGroup_22 rfl (lv_at hl 2 rfl) ?_
    obtain ⟨h9, hf⟩ := wc_gd_e hf
    refine wx_iald hx hb hK hP 2 (n := 9) (by decide) rfl (wc_in_e h9) wd_P_kilometresInGroup_23 ?_
    refine lv_topi (fun v10 ev10 => ?_)
    have hf := wc_st_e ev10 hf
    refine lv_aload_n hx hb wd_P_kilometresInGroup_24 rfl (lv_at hl 0 rfl) ?_
    refine wx_get (v := .ref (ad 26)) (C := "WidthCampaigns$Plant") (T := wx_TP) (N' := 15) hx hb hts wi_P hown hK hP 1 (by decide) rfl rfl 9 (by decide) wt_97 (fun _ h9 => h9) rfl wd_P_kilometresInGroup_25 ?_
    refine wx_getN (v := .ref (ad 28)) (C := "WidthCampaigns$WidthGroups") (T := wx_TG) (N' := 4) hx hb hts wi_G hown hK hP 26 (by decide) rfl rfl 1 (by decide) (hN.1 _ (List.mem_of_getElem? (i := 2) rfl) #[]) (fun _ h9 => h9) rfl wd_P_kilometresInGroup_28 ?_
    refine lv_iload_n hx hb wd_P_kilometresInGroup_31 rfl (lv_at hl 1 rfl) ?_
    obtain ⟨h11, hf⟩ := wc_gd_e hf
    refine wx_iald hx hb hK hP 28 (n := 4) (by decide) rfl (wc_in_e h11) wd_P_kilometresInGroup_32 ?_
    refine lv_topi (fun v12 ev12 => ?_)
    have hf := wc_st_e ev12 hf
    refine lv_icmp_gt (tgt := 40) hx hb wd_P_kilometresInGroup_33 (by decide) (fun c13 => ?_) (fun c13 => ?_)
    · have hf := wc_t c13 hf
      exact J40 a2 σ hf _ _ _ hP hD hS (lv_sub hl [0, 2] rfl)
    · have hf := wc_f c13 hf
      refine lv_iconst (v := 1) hx hb wd_P_kilometresInGroup_36 (by decide) ?_
      refine lv_goto (tgt := 41) hx hb wd_P_kilometresInGroup_37 (by decide) ?_
      exact J41 a2 1 σ hf _ _ _ hP hD hS (lv_sub hl [0, 2] rfl)
set_option maxHeartbeats 4000000 in
set_option maxRecDepth 100000 in
theorem wm_L_penaltySoFar (l : Launch) (D : va_G) (ad : Nat → Nat) (cI cZ cJ cG : ClassId) (sz : Nat) (b : Nat) (hb_ : b = 30 ∨ b = 49) (σ : wc_S) (res : Int32 × wc_S) (hf : wf_L_penaltySoFar b σ = some res) : Met l wy_L_penaltySoFar (wx_ws_L_penaltySoFar) ({ frames := 0, cells := 0, slots := 0, locals := 0 }) (va_Pc [.ref (ad b)] (wx_pre D ad cI cZ cJ cG σ sz)) (wx_Qi D ad cI cZ cJ cG res (va_A (wx_W ad cI cZ cJ cG σ) sz)) 0 0 (va_A (wx_W ad cI cZ cJ cG σ) sz) := by
  refine wx_ofW (cc := prog_3_method_2_code) (maxL := 1) (ret := (some .int)) (Qc := fun A => wx_Qi D ad cI cZ cJ cG res A) [.ref (ad b)] (by decide) rfl (Nat.le_of_ble_eq_true rfl) ?_
  intro p e s m args below meth c A ls hin hl
  obtain ⟨hx, hb, hr, hts, hown, hlocks, hml, hA, hP, hK, hD, hC, hN, hS⟩ := hin
  have hl : lv_has ls 1 [(0, .ref (ad b))] := hl
  unfold wf_L_penaltySoFar at hf
  refine lv_aload_n hx hb wd_L_penaltySoFar_0 rfl (lv_at hl 0 rfl) ?_
  refine wx_get (v := .ref (ad (b + 4))) (C := "WidthCampaigns$Line") (T := wx_TL) (N' := 10) hx hb hts wi_L hown hK hP b (wx_Ll0 hb_) (wx_L0 hb_ _) rfl 4 (by decide) wt_160 (fun _ h9 => h9) rfl wd_L_penaltySoFar_1 ?_
  refine lv_aload_n hx hb wd_L_penaltySoFar_4 rfl (lv_at hl 0 rfl) ?_
  refine wx_get (v := .int (σ b 9)) (C := "WidthCampaigns$Line") (T := wx_TL) (N' := 10) hx hb hts wi_L hown hK hP b (wx_Ll0 hb_) (wx_L0 hb_ _) rfl 9 (by decide) wt_165 (fun _ h9 => h9) rfl wd_L_penaltySoFar_5 ?_
  refine lv_topi (fun v1 ev1 => ?_)
  have hf := wc_st_e ev1 hf
  obtain ⟨h2, hf⟩ := wc_gd_e hf
  refine wx_iald hx hb hK hP (b + 4) (n := 10) (wx_Ll4 hb_) (wx_L4 hb_ _) (wc_in_e h2) wd_L_penaltySoFar_8 ?_
  refine lv_topi (fun v3 ev3 => ?_)
  have hf := wc_st_e ev3 hf
  exact wx_iret hx hb hr hlocks hf hP hS wd_L_penaltySoFar_9
set_option maxHeartbeats 4000000 in
set_option maxRecDepth 100000 in
theorem wm_L_changesSoFar (l : Launch) (D : va_G) (ad : Nat → Nat) (cI cZ cJ cG : ClassId) (sz : Nat) (b : Nat) (hb_ : b = 30 ∨ b = 49) (σ : wc_S) (res : Int32 × wc_S) (hf : wf_L_changesSoFar b σ = some res) : Met l wy_L_changesSoFar (wx_ws_L_changesSoFar) ({ frames := 0, cells := 0, slots := 0, locals := 0 }) (va_Pc [.ref (ad b)] (wx_pre D ad cI cZ cJ cG σ sz)) (wx_Qi D ad cI cZ cJ cG res (va_A (wx_W ad cI cZ cJ cG σ) sz)) 0 0 (va_A (wx_W ad cI cZ cJ cG σ) sz) := by
  refine wx_ofW (cc := prog_3_method_3_code) (maxL := 1) (ret := (some .int)) (Qc := fun A => wx_Qi D ad cI cZ cJ cG res A) [.ref (ad b)] (by decide) rfl (Nat.le_of_ble_eq_true rfl) ?_
  intro p e s m args below meth c A ls hin hl
  obtain ⟨hx, hb, hr, hts, hown, hlocks, hml, hA, hP, hK, hD, hC, hN, hS⟩ := hin
  have hl : lv_has ls 1 [(0, .ref (ad b))] := hl
  unfold wf_L_changesSoFar at hf
  refine lv_aload_n hx hb wd_L_changesSoFar_0 rfl (lv_at hl 0 rfl) ?_
  refine wx_get (v := .ref (ad (b + 5))) (C := "WidthCampaigns$Line") (T := wx_TL) (N' := 10) hx hb hts wi_L hown hK hP b (wx_Ll0 hb_) (wx_L0 hb_ _) rfl 5 (by decide) wt_161 (fun _ h9 => h9) rfl wd_L_changesSoFar_1 ?_
  refine lv_aload_n hx hb wd_L_changesSoFar_4 rfl (lv_at hl 0 rfl) ?_
  refine wx_get (v := .int (σ b 9)) (C := "WidthCampaigns$Line") (T := wx_TL) (N' := 10) hx hb hts wi_L hown hK hP b (wx_Ll0 hb_) (wx_L0 hb_ _) rfl 9 (by decide) wt_165 (fun _ h9 => h9) rfl wd_L_changesSoFar_5 ?_
  refine lv_topi (fun v1 ev1 => ?_)
  have hf := wc_st_e ev1 hf
  obtain ⟨h2, hf⟩ := wc_gd_e hf
  refine wx_iald hx hb hK hP (b + 5) (n := 10) (wx_Ll5 hb_) (wx_L5 hb_ _) (wc_in_e h2) wd_L_changesSoFar_8 ?_
  refine lv_topi (fun v3 ev3 => ?_)
  have hf := wc_st_e ev3 hf
  exact wx_iret hx hb hr hlocks hf hP hS wd_L_changesSoFar_9
set_option maxHeartbeats 4000000 in
set_option maxRecDepth 100000 in
theorem wm_L_movedSoFar (l : Launch) (D : va_G) (ad : Nat → Nat) (cI cZ cJ cG : ClassId) (sz : Nat) (b : Nat) (hb_ : b = 30 ∨ b = 49) (σ : wc_S) (res : Int32 × wc_S) (hf : wf_L_movedSoFar b σ = some res) : Met l wy_L_movedSoFar (wx_ws_L_movedSoFar) ({ frames := 0, cells := 0, slots := 0, locals := 0 }) (va_Pc [.ref (ad b)] (wx_pre D ad cI cZ cJ cG σ sz)) (wx_Qi D ad cI cZ cJ cG res (va_A (wx_W ad cI cZ cJ cG σ) sz)) 0 0 (va_A (wx_W ad cI cZ cJ cG σ) sz) := by
  refine wx_ofW (cc := prog_3_method_4_code) (maxL := 1) (ret := (some .int)) (Qc := fun A => wx_Qi D ad cI cZ cJ cG res A) [.ref (ad b)] (by decide) rfl (Nat.le_of_ble_eq_true rfl) ?_
  intro p e s m args below meth c A ls hin hl
  obtain ⟨hx, hb, hr, hts, hown, hlocks, hml, hA, hP, hK, hD, hC, hN, hS⟩ := hin
  have hl : lv_has ls 1 [(0, .ref (ad b))] := hl
  unfold wf_L_movedSoFar at hf
  refine lv_aload_n hx hb wd_L_movedSoFar_0 rfl (lv_at hl 0 rfl) ?_
  refine wx_get (v := .ref (ad (b + 6))) (C := "WidthCampaigns$Line") (T := wx_TL) (N' := 10) hx hb hts wi_L hown hK hP b (wx_Ll0 hb_) (wx_L0 hb_ _) rfl 6 (by decide) wt_162 (fun _ h9 => h9) rfl wd_L_movedSoFar_1 ?_
  refine lv_aload_n hx hb wd_L_movedSoFar_4 rfl (lv_at hl 0 rfl) ?_
  refine wx_get (v := .int (σ b 9)) (C := "WidthCampaigns$Line") (T := wx_TL) (N' := 10) hx hb hts wi_L hown hK hP b (wx_Ll0 hb_) (wx_L0 hb_ _) rfl 9 (by decide) wt_165 (fun _ h9 => h9) rfl wd_L_movedSoFar_5 ?_
  refine lv_topi (fun v1 ev1 => ?_)
  have hf := wc_st_e ev1 hf
  obtain ⟨h2, hf⟩ := wc_gd_e hf
  refine wx_iald hx hb hK hP (b + 6) (n := 10) (wx_Ll6 hb_) (wx_L6 hb_ _) (wc_in_e h2) wd_L_movedSoFar_8 ?_
  refine lv_topi (fun v3 ev3 => ?_)
  have hf := wc_st_e ev3 hf
  exact wx_iret hx hb hr hlocks hf hP hS wd_L_movedSoFar_9
set_option maxHeartbeats 4000000 in
set_option maxRecDepth 100000 in
theorem wm_L_clear (l : Launch) (D : va_G) (ad : Nat → Nat) (cI cZ cJ cG : ClassId) (sz : Nat) (b : Nat) (hb_ : b = 30 ∨ b = 49) (σ : wc_S) (res : wc_S) (hf : wf_L_clear b σ = some res) : Met l wy_L_clear (wx_ws_L_clear) ({ frames := 0, cells := 0, slots := 0, locals := 0 }) (va_Pc [.ref (ad b)] (wx_pre D ad cI cZ cJ cG σ sz)) (wx_Qv D ad cI cZ cJ cG res (va_A (wx_W ad cI cZ cJ cG σ) sz)) 0 0 (va_A (wx_W ad cI cZ cJ cG σ) sz) := by
  refine wx_ofW (cc := prog_3_method_5_code) (maxL := 2) (ret := none) (Qc := fun A => wx_Qv D ad cI cZ cJ cG res A) [.ref (ad b)] (by decide) rfl (Nat.le_of_ble_eq_true rfl) ?_
  intro p e s m args below meth c A ls hin hl
  obtain ⟨hx, hb, hr, hts, hown, hlocks, hml, hA, hP, hK, hD, hC, hN, hS⟩ := hin
  have hl : lv_has ls 2 [(0, .ref (ad b))] := hl
  have J7 : ∀ (n : Nat) (x1 : Int32) (σ : wc_S), wf_L_clear_7 b n x1 σ = some res → wx_Arr p l e ({ frames := 0, cells := 0, slots := 0, locals := 0 }) s m args below meth c D ad cI cZ cJ cG A (MQ below (wx_Qv D ad cI cZ cJ cG res A) args s 0 0 A) 2 0 0 7 [(0, .ref (ad b)), (1, .int x1)] [] σ := by
    intro  n
    induction n with
    | zero => intro x1 σ hf; exact absurd hf (by intro h9; cases h9)
    | succ n hk7 =>
      intro x1 σ hf H locs ls hP hD hS hl
      have hf : wf_L_clear_7_b b (wf_L_clear_7 b n) x1 σ = some res := hf
      unfold wf_L_clear_7_b at hf
      refine lv_iload_n hx hb wd_L_clear_7 rfl (lv_at hl 1 rfl) ?_
      refine lv_bipush (v := 9) hx hb wd_L_clear_8 (by decide) ?_
      refine lv_icmp_ge (tgt := 26) hx hb wd_L_clear_10 (by decide) (fun c2 => ?_) (fun c2 => ?_)
      · have hf := wc_t c2 hf
        exact wx_vret hx hb hr hlocks hf hP hS wd_L_clear_26
      · have hf := wc_f c2 hf
        refine lv_aload_n hx hb wd_L_clear_13 rfl (lv_at hl 0 rfl) ?_
        refine wx_get (v := .ref (ad (b + 2))) (C := "WidthCampaigns$Line") (T := wx_TL) (N' := 10) hx hb hts wi_L hown hK hP b (wx_Ll0 hb_) (wx_L0 hb_ _) rfl 2 (by decide) wt_157 (fun _ h9 => h9) rfl wd_L_clear_14 ?_
        refine lv_iload_n hx hb wd_L_clear_17 rfl (lv_at hl 1 rfl) ?_
        refine lv_iconst (v := 0) hx hb wd_L_clear_18 (by decide) ?_
        obtain ⟨h3, hf⟩ := wc_gd_e hf
        refine wx_zast hx hb hK hP hD hS (b + 2) (n := 9) (wx_Ll2 hb_) (fun _ => (wx_L2 hb_ _)) h3 wd_L_clear_19 (fun σ4 H locs eσ4 hP hD hS => ?_)
        have hf := wc_st_e eσ4 hf
        obtain ⟨v5, ev5⟩ : ∃ y : Int32, y = x1 + 1 := ⟨_, rfl⟩
        have hf := wc_st_e ev5 hf
        refine lv_iinc (v := v5) (lv' := [(1, .int v5), (0, .ref (ad b))]) hx hb wd_L_clear_20 hl (k := 1) rfl (by rw [ev5]; rfl) (by decide) rfl (fun ls hl => ?_)
        refine lv_goto (tgt := 7) hx hb wd_L_clear_23 (by decide) ?_
        exact hk7 v5 σ4 hf _ _ _ hP hD hS (lv_sub hl [1, 0] rfl)
  unfold wf_L_clear at hf
  refine lv_aload_n hx hb wd_L_clear_0 rfl (lv_at hl 0 rfl) ?_
  refine lv_iconst (v := 0) hx hb wd_L_clear_1 (by decide) ?_
  refine wx_put (x := 0) (ty := .int) (C := "WidthCampaigns$Line") (T := wx_TL) (N' := 10) hx hb hts wi_L wx_tL wx_toL wx_nL hown hK hP hD hS b (wx_Ll0 hb_) (fun _ => (wx_L0 hb_ _)) rfl 9 (by decide) wt_165 (fun _ h9 => h9) rfl (by decide +kernel) rfl rfl (Nat.le_of_ble_eq_true rfl) rfl wd_L_clear_2 (fun σ1 H locs eσ1 hP hD hS => ?_)
  have hf := wc_st_e eσ1 hf
  refine lv_iconst (v := 0) hx hb wd_L_clear_5 (by decide) ?_
  refine lv_istore_n (lv' := [(1, .int 0), (0, .ref (ad b))]) hx hb wd_L_clear_6 rfl hl (by decide) rfl (fun ls hl => ?_)
  exact J7 16 0 σ1 hf _ _ _ hP hD hS (lv_sub hl [1, 0] rfl)
set_option maxHeartbeats 4000000 in
set_option maxRecDepth 100000 in
theorem wm_L_mayFollow (l : Launch) (D : va_G) (ad : Nat → Nat) (cI cZ cJ cG : ClassId) (sz : Nat) (b : Nat) (hb_ : b = 30 ∨ b = 49) (a1 : Int32) (a2 : Int32) (σ : wc_S) (res : Int32 × wc_S) (hf : wf_L_mayFollow b a1 a2 σ = some res) : Met l wy_L_mayFollow (wx_ws_L_mayFollow) ({ frames := 0, cells := 0, slots := 0, locals := 0 }) (va_Pc [.ref (ad b), .int a1, .int a2] (wx_pre D ad cI cZ cJ cG σ sz)) (wx_Qi D ad cI cZ cJ cG res (va_A (wx_W ad cI cZ cJ cG σ) sz)) 0 0 (va_A (wx_W ad cI cZ cJ cG σ) sz) := by
  refine wx_ofW (cc := prog_3_method_8_code) (maxL := 4) (ret := (some .boolean)) (Qc := fun A => wx_Qi D ad cI cZ cJ cG res A) [.ref (ad b), .int a1, .int a2] (by decide) rfl (Nat.le_of_ble_eq_true rfl) ?_
  intro p e s m args below meth c A ls hin hl
  obtain ⟨hx, hb, hr, hts, hown, hlocks, hml, hA, hP, hK, hD, hC, hN, hS⟩ := hin
  have hl : lv_has ls 4 [(0, .ref (ad b)), (1, .int a1), (2, .int a2)] := hl
  unfold wf_L_mayFollow at hf
  refine lv_aload_n hx hb wd_L_mayFollow_0 rfl (lv_at hl 0 rfl) ?_
  refine wx_get (v := .ref (ad 1)) (C := "WidthCampaigns$Line") (T := wx_TL) (N' := 10) hx hb hts wi_L hown hK hP b (wx_Ll0 hb_) (wx_L0 hb_ _) rfl 0 (by decide) wt_153 (fun _ h9 => h9) rfl wd_L_mayFollow_1 ?_
  refine wx_getN (v := .ref (ad 8)) (C := "WidthCampaigns$Plant") (T := wx_TP) (N' := 15) hx hb hts wi_P hown hK hP 1 (by decide) rfl rfl 6 (by decide) (hN.1 _ (List.mem_of_getElem? (i := 3) rfl) #[]) (fun _ h9 => h9) rfl wd_L_mayFollow_4 ?_
  refine lv_iload_n hx hb wd_L_mayFollow_7 rfl (lv_at hl 1 rfl) ?_
  obtain ⟨h1, hf⟩ := wc_gd_e hf
  refine wx_aald (bs := 9) hx hb hK hP 8 (n := 9) (by decide) rfl h1 wd_L_mayFollow_8 ?_
  refine lv_iload_n hx hb wd_L_mayFollow_9 rfl (lv_at hl 2 rfl) ?_
  obtain ⟨h2, hf⟩ := wc_gd_e hf
  refine wx_iald hx hb hK hP (9 + a1.toNatClampNeg) (n := 9) (wx_g8l h1) (wx_g8 h1 _) (wc_in_e h2) wd_L_mayFollow_10 ?_
  refine lv_topi (fun v3 ev3 => ?_)
  have hf := wc_st_e ev3 hf
  refine lv_iconst (v := (-1)) hx hb wd_L_mayFollow_11 (by decide) ?_
  refine lv_icmp_ne (tgt := 17) hx hb wd_L_mayFollow_12 (by decide) (fun c4 => ?_) (fun c4 => ?_)
  · have hf := wc_f c4 hf
    refine lv_aload_n hx hb wd_L_mayFollow_17 rfl (lv_at hl 0 rfl) ?_
    refine wx_get (v := .ref (ad 1)) (C := "WidthCampaigns$Line") (T := wx_TL) (N' := 10) hx hb hts wi_L hown hK hP b (wx_Ll0 hb_) (wx_L0 hb_ _) rfl 0 (by decide) wt_153 (fun _ h9 => h9) rfl wd_L_mayFollow_18 ?_
    refine wx_getN (v := .ref (ad 2)) (C := "WidthCampaigns$Plant") (T := wx_TP) (N' := 15) hx hb hts wi_P hown hK hP 1 (by decide) rfl rfl 0 (by decide) (hN.1 _ (List.mem_of_getElem? (i := 4) rfl) #[]) (fun _ h9 => h9) rfl wd_L_mayFollow_21 ?_
    refine lv_iload_n hx hb wd_L_mayFollow_24 rfl (lv_at hl 2 rfl) ?_
    obtain ⟨h5, hf⟩ := wc_gd_e hf
    refine wx_iald hx hb hK hP 2 (n := 9) (by decide) rfl (wc_in_e h5) wd_L_mayFollow_25 ?_
    refine lv_topi (fun v6 ev6 => ?_)
    have hf := wc_st_e ev6 hf
    refine lv_aload_n hx hb wd_L_mayFollow_26 rfl (lv_at hl 0 rfl) ?_
    refine wx_get (v := .ref (ad 1)) (C := "WidthCampaigns$Line") (T := wx_TL) (N' := 10) hx hb hts wi_L hown hK hP b (wx_Ll0 hb_) (wx_L0 hb_ _) rfl 0 (by decide) wt_153 (fun _ h9 => h9) rfl wd_L_mayFollow_27 ?_
    refine wx_getN (v := .ref (ad 2)) (C := "WidthCampaigns$Plant") (T := wx_TP) (N' := 15) hx hb hts wi_P hown hK hP 1 (by decide) rfl rfl 0 (by decide) (hN.1 _ (List.mem_of_getElem? (i := 4) rfl) #[]) (fun _ h9 => h9) rfl wd_L_mayFollow_30 ?_
    refine lv_iload_n hx hb wd_L_mayFollow_33 rfl (lv_at hl 1 rfl) ?_
    obtain ⟨h7, hf⟩ := wc_gd_e hf
    refine wx_iald hx hb hK hP 2 (n := 9) (by decide) rfl (wc_in_e h7) wd_L_mayFollow_34 ?_
    refine lv_topi (fun v8 ev8 => ?_)
    have hf := wc_st_e ev8 hf
    refine lv_isub hx hb wd_L_mayFollow_35 ?_
    refine lv_topi (fun v9 ev9 => ?_)
    have hf := wc_st_e ev9 hf
    refine lv_istore_n (lv' := [(3, .int v9), (0, .ref (ad b)), (1, .int a1), (2, .int a2)]) hx hb wd_L_mayFollow_36 rfl hl (by decide) rfl (fun ls hl => ?_)
    refine lv_aload_n hx hb wd_L_mayFollow_37 rfl (lv_at hl 1 rfl) ?_
    refine wx_get (v := .int (σ b 9)) (C := "WidthCampaigns$Line") (T := wx_TL) (N' := 10) hx hb hts wi_L hown hK hP b (wx_Ll0 hb_) (wx_L0 hb_ _) rfl 9 (by decide) wt_165 (fun _ h9 => h9) rfl wd_L_mayFollow_38 ?_
    refine lv_topi (fun v10 ev10 => ?_)
    have hf := wc_st_e ev10 hf
    refine lv_aload_n hx hb wd_L_mayFollow_41 rfl (lv_at hl 1 rfl) ?_
    refine wx_get (v := .ref (ad 1)) (C := "WidthCampaigns$Line") (T := wx_TL) (N' := 10) hx hb hts wi_L hown hK hP b (wx_Ll0 hb_) (wx_L0 hb_ _) rfl 0 (by decide) wt_153 (fun _ h9 => h9) rfl wd_L_mayFollow_42 ?_
    refine wx_getN (v := .int (σ 1 11)) (C := "WidthCampaigns$Plant") (T := wx_TP) (N' := 15) hx hb hts wi_P hown hK hP 1 (by decide) rfl rfl 11 (by decide) (hN.1 _ (List.mem_of_getElem? (i := 5) rfl) #[]) (fun _ h9 => h9) rfl wd_L_mayFollow_45 ?_
    refine lv_topi (fun v11 ev11 => ?_)
    have hf := wc_st_e ev11 hf
    refine lv_icmp_ge (tgt := 63) hx hb wd_L_mayFollow_48 (by decide) (fun c12 => ?_) (fun c12 => ?_)
    · have hf := wc_t c12 hf
      refine lv_iload_n hx hb wd_L_mayFollow_63 rfl (lv_at hl 0 rfl) ?_
      refine lv_if_gt (tgt := 71) hx hb wd_L_mayFollow_64 (by decide) (fun c13 => ?_) (fun c13 => ?_)
      · have hf := wc_t c13 hf
        refine lv_iconst (v := 0) hx hb wd_L_mayFollow_71 (by decide) ?_
        exact wx_zret hx hb hr narrow_b0 hlocks hf hP hS wd_L_mayFollow_72
      · have hf := wc_f c13 hf
        refine lv_iconst (v := 1) hx hb wd_L_mayFollow_67 (by decide) ?_
        refine lv_goto (tgt := 72) hx hb wd_L_mayFollow_68 (by decide) ?_
        exact wx_zret hx hb hr narrow_b1 hlocks hf hP hS wd_L_mayFollow_72
    · have hf := wc_f c12 hf
      refine lv_iload_n hx hb wd_L_mayFollow_51 rfl (lv_at hl 0 rfl) ?_
      refine lv_if_lt (tgt := 59) hx hb wd_L_mayFollow_52 (by decide) (fun c14 => ?_) (fun c14 => ?_)
      · have hf := wc_t c14 hf
        refine lv_iconst (v := 0) hx hb wd_L_mayFollow_59 (by decide) ?_
        refine lv_goto (tgt := 72) hx hb wd_L_mayFollow_60 (by decide) ?_
        exact wx_zret hx hb hr narrow_b0 hlocks hf hP hS wd_L_mayFollow_72
      · have hf := wc_f c14 hf
        refine lv_iconst (v := 1) hx hb wd_L_mayFollow_55 (by decide) ?_
        refine lv_goto (tgt := 72) hx hb wd_L_mayFollow_56 (by decide) ?_
        exact wx_zret hx hb hr narrow_b1 hlocks hf hP hS wd_L_mayFollow_72
  · have hf := wc_t c4 hf
    refine lv_iconst (v := 0) hx hb wd_L_mayFollow_15 (by decide) ?_
    exact wx_zret hx hb hr narrow_b0 hlocks hf hP hS wd_L_mayFollow_16
set_option maxHeartbeats 4000000 in
set_option maxRecDepth 100000 in
theorem wm_L_mayPut (l : Launch) (D : va_G) (ad : Nat → Nat) (cI cZ cJ cG : ClassId) (sz : Nat) (b : Nat) (hb_ : b = 30 ∨ b = 49) (a1 : Int32) (σ : wc_S) (res : Int32 × wc_S) (hf : wf_L_mayPut b a1 σ = some res) : Met l wy_L_mayPut (wx_ws_L_mayPut) ({ frames := 1, cells := 0, slots := 0, locals := 23 }) (va_Pc [.ref (ad b), .int a1] (wx_pre D ad cI cZ cJ cG σ sz)) (wx_Qi D ad cI cZ cJ cG res (va_A (wx_W ad cI cZ cJ cG σ) sz)) 0 0 (va_A (wx_W ad cI cZ cJ cG σ) sz) := by
  refine wx_ofW (cc := prog_3_method_7_code) (maxL := 2) (ret := (some .boolean)) (Qc := fun A => wx_Qi D ad cI cZ cJ cG res A) [.ref (ad b), .int a1] (by decide) rfl (Nat.le_of_ble_eq_true rfl) ?_
  intro p e s m args below meth c A ls hin hl
  obtain ⟨hx, hb, hr, hts, hown, hlocks, hml, hA, hP, hK, hD, hC, hN, hS⟩ := hin
  have hl : lv_has ls 2 [(0, .ref (ad b)), (1, .int a1)] := hl
  unfold wf_L_mayPut at hf
  refine lv_aload_n hx hb wd_L_mayPut_0 rfl (lv_at hl 0 rfl) ?_
  refine wx_get (v := .ref (ad (b + 2))) (C := "WidthCampaigns$Line") (T := wx_TL) (N' := 10) hx hb hts wi_L hown hK hP b (wx_Ll0 hb_) (wx_L0 hb_ _) rfl 2 (by decide) wt_157 (fun _ h9 => h9) rfl wd_L_mayPut_1 ?_
  refine lv_iload_n hx hb wd_L_mayPut_4 rfl (lv_at hl 1 rfl) ?_
  obtain ⟨h1, hf⟩ := wc_gd_e hf
  refine wx_zald hx hb hK hP (b + 2) (n := 9) (wx_Ll2 hb_) (wx_L2 hb_ _) (wc_in_e h1) wd_L_mayPut_5 ?_
  refine lv_topi (fun v2 ev2 => ?_)
  have hf := wc_st_e ev2 hf
  refine lv_if_ne (tgt := 25) hx hb wd_L_mayPut_6 (by decide) (fun c3 => ?_) (fun c3 => ?_)
  · have hf := wc_f c3 hf
    refine lv_iconst (v := 0) hx hb wd_L_mayPut_25 (by decide) ?_
    exact wx_zret hx hb hr narrow_b0 hlocks hf hP hS wd_L_mayPut_26
  · have hf := wc_t c3 hf
    refine lv_aload_n hx hb wd_L_mayPut_9 rfl (lv_at hl 0 rfl) ?_
    refine wx_get (v := .int (σ b 9)) (C := "WidthCampaigns$Line") (T := wx_TL) (N' := 10) hx hb hts wi_L hown hK hP b (wx_Ll0 hb_) (wx_L0 hb_ _) rfl 9 (by decide) wt_165 (fun _ h9 => h9) rfl wd_L_mayPut_10 ?_
    refine lv_topi (fun v4 ev4 => ?_)
    have hf := wc_st_e ev4 hf
    refine lv_aload_n hx hb wd_L_mayPut_13 rfl (lv_at hl 0 rfl) ?_
    refine wx_get (v := .ref (ad 1)) (C := "WidthCampaigns$Line") (T := wx_TL) (N' := 10) hx hb hts wi_L hown hK hP b (wx_Ll0 hb_) (wx_L0 hb_ _) rfl 0 (by decide) wt_153 (fun _ h9 => h9) rfl wd_L_mayPut_14 ?_
    refine wx_getN (v := .ref (ad 6)) (C := "WidthCampaigns$Plant") (T := wx_TP) (N' := 15) hx hb hts wi_P hown hK hP 1 (by decide) rfl rfl 4 (by decide) (hN.1 _ (List.mem_of_getElem? (i := 6) rfl) #[]) (fun _ h9 => h9) rfl wd_L_mayPut_17 ?_
    refine lv_iload_n hx hb wd_L_mayPut_20 rfl (lv_at hl 1 rfl) ?_
    obtain ⟨h5, hf⟩ := wc_gd_e hf
    refine wx_iald hx hb hK hP 6 (n := 9) (by decide) rfl (wc_in_e h5) wd_L_mayPut_21 ?_
    refine lv_topi (fun v6 ev6 => ?_)
    have hf := wc_st_e ev6 hf
    refine lv_icmp_le (tgt := 27) hx hb wd_L_mayPut_22 (by decide) (fun c7 => ?_) (fun c7 => ?_)
    · have hf := wc_t c7 hf
      refine lv_aload_n hx hb wd_L_mayPut_27 rfl (lv_at hl 0 rfl) ?_
      refine wx_get (v := .int (σ b 9)) (C := "WidthCampaigns$Line") (T := wx_TL) (N' := 10) hx hb hts wi_L hown hK hP b (wx_Ll0 hb_) (wx_L0 hb_ _) rfl 9 (by decide) wt_165 (fun _ h9 => h9) rfl wd_L_mayPut_28 ?_
      refine lv_topi (fun v8 ev8 => ?_)
      have hf := wc_st_e ev8 hf
      refine lv_if_eq (tgt := 53) hx hb wd_L_mayPut_31 (by decide) (fun c9 => ?_) (fun c9 => ?_)
      · have hf := wc_t c9 hf
        refine lv_iconst (v := 1) hx hb wd_L_mayPut_53 (by decide) ?_
        refine lv_goto (tgt := 58) hx hb wd_L_mayPut_54 (by decide) ?_
        exact wx_zret hx hb hr narrow_b1 hlocks hf hP hS wd_L_mayPut_58
      · have hf := wc_f c9 hf
        refine lv_aload_n hx hb wd_L_mayPut_34 rfl (lv_at hl 0 rfl) ?_
        refine lv_aload_n hx hb wd_L_mayPut_35 rfl (lv_at hl 0 rfl) ?_
        refine wx_get (v := .ref (ad (b + 1))) (C := "WidthCampaigns$Line") (T := wx_TL) (N' := 10) hx hb hts wi_L hown hK hP b (wx_Ll0 hb_) (wx_L0 hb_ _) rfl 1 (by decide) wt_154 (fun _ h9 => h9) rfl wd_L_mayPut_36 ?_
        refine lv_aload_n hx hb wd_L_mayPut_39 rfl (lv_at hl 0 rfl) ?_
        refine wx_get (v := .int (σ b 9)) (C := "WidthCampaigns$Line") (T := wx_TL) (N' := 10) hx hb hts wi_L hown hK hP b (wx_Ll0 hb_) (wx_L0 hb_ _) rfl 9 (by decide) wt_165 (fun _ h9 => h9) rfl wd_L_mayPut_40 ?_
        refine lv_topi (fun v10 ev10 => ?_)
        have hf := wc_st_e ev10 hf
        refine lv_iconst (v := 1) hx hb wd_L_mayPut_43 (by decide) ?_
        refine lv_isub hx hb wd_L_mayPut_44 ?_
        refine lv_topi (fun v11 ev11 => ?_)
        have hf := wc_st_e ev11 hf
        obtain ⟨h12, hf⟩ := wc_gd_e hf
        refine wx_iald hx hb hK hP (b + 1) (n := 9) (wx_Ll1 hb_) (wx_L1 hb_ _) (wc_in_e h12) wd_L_mayPut_45 ?_
        refine lv_topi (fun v13 ev13 => ?_)
        have hf := wc_st_e ev13 hf
        refine lv_iload_n hx hb wd_L_mayPut_46 rfl (lv_at hl 1 rfl) ?_
        obtain ⟨r15, σ14, hq, hf⟩ := wc_b2_e hf
        refine wx_calli (va_runV (As := [.int v13, .int a1]) (rest := []) ⟨hx, hb, hml, hown, hts⟩ (wm_L_mayFollow l D ad cI cZ cJ cG _ b hb_ v13 a1 σ _ hq) (wx_cwV 2 hts wt_485 wt_484 wp_16 wt_5 wt_482 wh_L_mayFollow rfl rfl ⟨Nat.le_of_ble_eq_true rfl, Nat.le_of_ble_eq_true rfl⟩) (wx_preV hK hP hD hS hA hC (wx_Ll0 hb_) (wx_L0 hb_ _) rfl) rfl rfl hl.1 rfl (lv_room (Nat.le_of_ble_eq_true rfl)) wd_L_mayPut_47 ⟨Nat.le_of_ble_eq_true rfl, Nat.le_of_ble_eq_true rfl⟩) hD hS hA (fun H locs hP hD hS => ?_)
        refine lv_if_eq (tgt := 57) hx hb wd_L_mayPut_50 (by decide) (fun c16 => ?_) (fun c16 => ?_)
        · have hf := wc_t c16 hf
          refine lv_iconst (v := 0) hx hb wd_L_mayPut_57 (by decide) ?_
          exact wx_zret hx hb hr narrow_b0 hlocks hf hP hS wd_L_mayPut_58
        · have hf := wc_f c16 hf
          refine lv_iconst (v := 1) hx hb wd_L_mayPut_53 (by decide) ?_
          refine lv_goto (tgt := 58) hx hb wd_L_mayPut_54 (by decide) ?_
          exact wx_zret hx hb hr narrow_b1 hlocks hf hP hS wd_L_mayPut_58
    · have hf := wc_f c7 hf
      refine lv_iconst (v := 0) hx hb wd_L_mayPut_25 (by decide) ?_
      exact wx_zret hx hb hr narrow_b0 hlocks hf hP hS wd_L_mayPut_26
set_option maxHeartbeats 4000000 in
set_option maxRecDepth 100000 in
theorem wm_L_isWornWith (l : Launch) (D : va_G) (ad : Nat → Nat) (cI cZ cJ cG : ClassId) (sz : Nat) (b : Nat) (hb_ : b = 30 ∨ b = 49) (a1 : Int32) (σ : wc_S) (res : Int32 × wc_S) (hf : wf_L_isWornWith b a1 σ = some res) : Met l wy_L_isWornWith (wx_ws_L_isWornWith) ({ frames := 1, cells := 0, slots := 0, locals := 23 }) (va_Pc [.ref (ad b), .int a1] (wx_pre D ad cI cZ cJ cG σ sz)) (wx_Qi D ad cI cZ cJ cG res (va_A (wx_W ad cI cZ cJ cG σ) sz)) 0 0 (va_A (wx_W ad cI cZ cJ cG σ) sz) := by
  refine wx_ofW (cc := prog_3_method_11_code) (maxL := 4) (ret := (some .boolean)) (Qc := fun A => wx_Qi D ad cI cZ cJ cG res A) [.ref (ad b), .int a1] (by decide) rfl (Nat.le_of_ble_eq_true rfl) ?_
  intro p e s m args below meth c A ls hin hl
  obtain ⟨hx, hb, hr, hts, hown, hlocks, hml, hA, hP, hK, hD, hC, hN, hS⟩ := hin
  have hl : lv_has ls 4 [(0, .ref (ad b)), (1, .int a1)] := hl
  have J33 : ∀ (n : Nat) (x1 : Int32) (x2 : Int32) (σ : wc_S), wf_L_isWornWith_33 b n x1 x2 σ = some res → wx_Arr p l e ({ frames := 1, cells := 0, slots := 0, locals := 23 }) s m args below meth c D ad cI cZ cJ cG A (MQ below (wx_Qi D ad cI cZ cJ cG res A) args s 0 0 A) 4 0 0 33 [(0, .ref (ad b)), (1, .int x1), (2, .int x2)] [] σ := by
    intro  n
    induction n with
    | zero => intro x1 x2 σ hf; exact absurd hf (by intro h9; cases h9)
    | succ n hk33 =>
      intro x1 x2 σ hf H locs ls hP hD hS hl
      have hf : wf_L_isWornWith_33_b b (wf_L_isWornWith_33 b n) x1 x2 σ = some res := hf
      unfold wf_L_isWornWith_33_b at hf
      refine lv_iload_n hx hb wd_L_isWornWith_33 rfl (lv_at hl 2 rfl) ?_
      refine lv_aload_n hx hb wd_L_isWornWith_34 rfl (lv_at hl 0 rfl) ?_
      refine wx_get (v := .ref (ad 1)) (C := "WidthCampaigns$Line") (T := wx_TL) (N' := 10) hx hb hts wi_L hown hK hP b (wx_Ll0 hb_) (wx_L0 hb_ _) rfl 0 (by decide) wt_153 (fun _ h9 => h9) rfl wd_L_isWornWith_35 ?_
      refine wx_getN (v := .ref (ad 26)) (C := "WidthCampaigns$Plant") (T := wx_TP) (N' := 15) hx hb hts wi_P hown hK hP 1 (by decide) rfl rfl 9 (by decide) (hN.1 _ (List.mem_of_getElem? (i := 9) rfl) #[]) (fun _ h9 => h9) rfl wd_L_isWornWith_38 ?_
      refine wx_getN (v := .int (σ 26 3)) (C := "WidthCampaigns$WidthGroups") (T := wx_TG) (N' := 4) hx hb hts wi_G hown hK hP 26 (by decide) rfl rfl 3 (by decide) (hN.1 _ (List.mem_of_getElem? (i := 10) rfl) #[]) (fun _ h9 => h9) rfl wd_L_isWornWith_41 ?_
      refine lv_topi (fun v9 ev9 => ?_)
      have hf := wc_st_e ev9 hf
      refine lv_icmp_ge (tgt := 93) hx hb wd_L_isWornWith_44 (by decide) (fun c10 => ?_) (fun c10 => ?_)
      · have hf := wc_t c10 hf
        refine lv_iconst (v := 0) hx hb wd_L_isWornWith_93 (by decide) ?_
        exact wx_zret hx hb hr narrow_b0 hlocks hf hP hS wd_L_isWornWith_94
      · have hf := wc_f c10 hf
        refine lv_aload_n hx hb wd_L_isWornWith_47 rfl (lv_at hl 0 rfl) ?_
        refine wx_get (v := .ref (ad (b + 8))) (C := "WidthCampaigns$Line") (T := wx_TL) (N' := 10) hx hb hts wi_L hown hK hP b (wx_Ll0 hb_) (wx_L0 hb_ _) rfl 8 (by decide) wt_164 (fun _ h9 => h9) rfl wd_L_isWornWith_48 ?_
        refine lv_aload_n hx hb wd_L_isWornWith_51 rfl (lv_at hl 0 rfl) ?_
        refine wx_get (v := .int (σ b 9)) (C := "WidthCampaigns$Line") (T := wx_TL) (N' := 10) hx hb hts wi_L hown hK hP b (wx_Ll0 hb_) (wx_L0 hb_ _) rfl 9 (by decide) wt_165 (fun _ h9 => h9) rfl wd_L_isWornWith_52 ?_
        refine lv_topi (fun v11 ev11 => ?_)
        have hf := wc_st_e ev11 hf
        obtain ⟨h12, hf⟩ := wc_gd_e hf
        refine wx_aald (bs := (b + 9)) hx hb hK hP (b + 8) (n := 10) (wx_Ll8 hb_) (wx_L8 hb_ _) h12 wd_L_isWornWith_55 ?_
        refine lv_iload_n hx hb wd_L_isWornWith_56 rfl (lv_at hl 2 rfl) ?_
        obtain ⟨h13, hf⟩ := wc_gd_e hf
        refine wx_iald hx hb hK hP (b + 9 + v11.toNatClampNeg) (n := 4) (wx_gLl hb_ h12) (wx_gL hb_ h12 _) (wc_in_e h13) wd_L_isWornWith_57 ?_
        refine lv_topi (fun v14 ev14 => ?_)
        have hf := wc_st_e ev14 hf
        refine lv_aload_n hx hb wd_L_isWornWith_58 rfl (lv_at hl 0 rfl) ?_
        refine wx_get (v := .ref (ad 1)) (C := "WidthCampaigns$Line") (T := wx_TL) (N' := 10) hx hb hts wi_L hown hK hP b (wx_Ll0 hb_) (wx_L0 hb_ _) rfl 0 (by decide) wt_153 (fun _ h9 => h9) rfl wd_L_isWornWith_59 ?_
        refine lv_iload_n hx hb wd_L_isWornWith_62 rfl (lv_at hl 2 rfl) ?_
        refine lv_iload_n hx hb wd_L_isWornWith_63 rfl (lv_at hl 1 rfl) ?_
        obtain ⟨r16, σ15, hq, hf⟩ := wc_b2_e hf
        refine wx_calli (va_runVN (As := [.int x2, .int x1]) (rest := [.int v14]) ⟨hx, hb, hml, hown, hts⟩ (wm_P_kilometresInGroup l D ad cI cZ cJ cG _ x2 x1 σ _ hq) (wx_cwN 2 hts wt_501 wt_500 wp_20 wt_2 (hN.1 _ (List.mem_of_getElem? (i := 11) rfl) #[]) wh_P_kilometresInGroup rfl rfl ⟨Nat.le_of_ble_eq_true rfl, Nat.le_of_ble_eq_true rfl⟩) (wx_preV hK hP hD hS hA hC (by decide) rfl rfl) rfl rfl hl.1 rfl (lv_room (Nat.le_of_ble_eq_true rfl)) wd_L_isWornWith_64 ⟨Nat.le_of_ble_eq_true rfl, Nat.le_of_ble_eq_true rfl⟩) hD hS hA (fun H locs hP hD hS => ?_)
        refine lv_iadd hx hb wd_L_isWornWith_67 ?_
        refine lv_topi (fun v17 ev17 => ?_)
        have hf := wc_st_e ev17 hf
        refine lv_istore_n (lv' := [(3, .int v17), (0, .ref (ad b)), (1, .int x1), (2, .int x2)]) hx hb wd_L_isWornWith_68 rfl hl (by decide) rfl (fun ls hl => ?_)
        refine lv_iload_n hx hb wd_L_isWornWith_69 rfl (lv_at hl 0 rfl) ?_
        refine lv_aload_n hx hb wd_L_isWornWith_70 rfl (lv_at hl 1 rfl) ?_
        refine wx_get (v := .ref (ad 1)) (C := "WidthCampaigns$Line") (T := wx_TL) (N' := 10) hx hb hts wi_L hown hK hP b (wx_Ll0 hb_) (wx_L0 hb_ _) rfl 0 (by decide) wt_153 (fun _ h9 => h9) rfl wd_L_isWornWith_71 ?_
        refine wx_getN (v := .ref (ad 26)) (C := "WidthCampaigns$Plant") (T := wx_TP) (N' := 15) hx hb hts wi_P hown hK hP 1 (by decide) rfl rfl 9 (by decide) (hN.1 _ (List.mem_of_getElem? (i := 9) rfl) #[]) (fun _ h9 => h9) rfl wd_L_isWornWith_74 ?_
        refine wx_getN (v := .ref (ad 29)) (C := "WidthCampaigns$WidthGroups") (T := wx_TG) (N' := 4) hx hb hts wi_G hown hK hP 26 (by decide) rfl rfl 2 (by decide) (hN.1 _ (List.mem_of_getElem? (i := 12) rfl) #[]) (fun _ h9 => h9) rfl wd_L_isWornWith_77 ?_
        refine lv_iload_n hx hb wd_L_isWornWith_80 rfl (lv_at hl 3 rfl) ?_
        obtain ⟨h18, hf⟩ := wc_gd_e hf
        refine wx_iald hx hb hK hP 29 (n := 4) (by decide) rfl (wc_in_e h18) wd_L_isWornWith_81 ?_
        refine lv_topi (fun v19 ev19 => ?_)
        have hf := wc_st_e ev19 hf
        refine lv_icmp_le (tgt := 87) hx hb wd_L_isWornWith_82 (by decide) (fun c20 => ?_) (fun c20 => ?_)
        · have hf := wc_t c20 hf
          obtain ⟨v21, ev21⟩ : ∃ y : Int32, y = x2 + 1 := ⟨_, rfl⟩
          have hf := wc_st_e ev21 hf
          refine lv_iinc (v := v21) (lv' := [(2, .int v21), (3, .int v17), (0, .ref (ad b)), (1, .int x1)]) hx hb wd_L_isWornWith_87 hl (k := 3) rfl (by rw [ev21]; rfl) (by decide) rfl (fun ls hl => ?_)
          refine lv_goto (tgt := 33) hx hb wd_L_isWornWith_90 (by decide) ?_
          exact hk33 x1 v21 σ15 hf _ _ _ hP hD hS (lv_sub hl [2, 3, 0] rfl)
        · have hf := wc_f c20 hf
          refine lv_iconst (v := 1) hx hb wd_L_isWornWith_85 (by decide) ?_
          exact wx_zret hx hb hr narrow_b1 hlocks hf hP hS wd_L_isWornWith_86
  unfold wf_L_isWornWith at hf
  refine lv_aload_n hx hb wd_L_isWornWith_0 rfl (lv_at hl 0 rfl) ?_
  refine wx_get (v := .ref (ad (b + 7))) (C := "WidthCampaigns$Line") (T := wx_TL) (N' := 10) hx hb hts wi_L hown hK hP b (wx_Ll0 hb_) (wx_L0 hb_ _) rfl 7 (by decide) wt_163 (fun _ h9 => h9) rfl wd_L_isWornWith_1 ?_
  refine lv_aload_n hx hb wd_L_isWornWith_4 rfl (lv_at hl 0 rfl) ?_
  refine wx_get (v := .int (σ b 9)) (C := "WidthCampaigns$Line") (T := wx_TL) (N' := 10) hx hb hts wi_L hown hK hP b (wx_Ll0 hb_) (wx_L0 hb_ _) rfl 9 (by decide) wt_165 (fun _ h9 => h9) rfl wd_L_isWornWith_5 ?_
  refine lv_topi (fun v1 ev1 => ?_)
  have hf := wc_st_e ev1 hf
  obtain ⟨h2, hf⟩ := wc_gd_e hf
  refine wx_iald hx hb hK hP (b + 7) (n := 10) (wx_Ll7 hb_) (wx_L7 hb_ _) (wc_in_e h2) wd_L_isWornWith_8 ?_
  refine lv_topi (fun v3 ev3 => ?_)
  have hf := wc_st_e ev3 hf
  refine lv_aload_n hx hb wd_L_isWornWith_9 rfl (lv_at hl 0 rfl) ?_
  refine wx_get (v := .ref (ad 1)) (C := "WidthCampaigns$Line") (T := wx_TL) (N' := 10) hx hb hts wi_L hown hK hP b (wx_Ll0 hb_) (wx_L0 hb_ _) rfl 0 (by decide) wt_153 (fun _ h9 => h9) rfl wd_L_isWornWith_10 ?_
  refine wx_getN (v := .ref (ad 5)) (C := "WidthCampaigns$Plant") (T := wx_TP) (N' := 15) hx hb hts wi_P hown hK hP 1 (by decide) rfl rfl 3 (by decide) (hN.1 _ (List.mem_of_getElem? (i := 7) rfl) #[]) (fun _ h9 => h9) rfl wd_L_isWornWith_13 ?_
  refine lv_iload_n hx hb wd_L_isWornWith_16 rfl (lv_at hl 1 rfl) ?_
  obtain ⟨h4, hf⟩ := wc_gd_e hf
  refine wx_iald hx hb hK hP 5 (n := 9) (by decide) rfl (wc_in_e h4) wd_L_isWornWith_17 ?_
  refine lv_topi (fun v5 ev5 => ?_)
  have hf := wc_st_e ev5 hf
  refine lv_iadd hx hb wd_L_isWornWith_18 ?_
  refine lv_topi (fun v6 ev6 => ?_)
  have hf := wc_st_e ev6 hf
  refine lv_aload_n hx hb wd_L_isWornWith_19 rfl (lv_at hl 0 rfl) ?_
  refine wx_get (v := .ref (ad 1)) (C := "WidthCampaigns$Line") (T := wx_TL) (N' := 10) hx hb hts wi_L hown hK hP b (wx_Ll0 hb_) (wx_L0 hb_ _) rfl 0 (by decide) wt_153 (fun _ h9 => h9) rfl wd_L_isWornWith_20 ?_
  refine wx_getN (v := .int (σ 1 12)) (C := "WidthCampaigns$Plant") (T := wx_TP) (N' := 15) hx hb hts wi_P hown hK hP 1 (by decide) rfl rfl 12 (by decide) (hN.1 _ (List.mem_of_getElem? (i := 8) rfl) #[]) (fun _ h9 => h9) rfl wd_L_isWornWith_23 ?_
  refine lv_topi (fun v7 ev7 => ?_)
  have hf := wc_st_e ev7 hf
  refine lv_icmp_le (tgt := 31) hx hb wd_L_isWornWith_26 (by decide) (fun c8 => ?_) (fun c8 => ?_)
  · have hf := wc_t c8 hf
    refine lv_iconst (v := 0) hx hb wd_L_isWornWith_31 (by decide) ?_
    refine lv_istore_n (lv' := [(2, .int 0), (0, .ref (ad b)), (1, .int a1)]) hx hb wd_L_isWornWith_32 rfl hl (by decide) rfl (fun ls hl => ?_)
    exact J33 16 a1 0 σ hf _ _ _ hP hD hS (lv_sub hl [1, 2, 0] rfl)
  · have hf := wc_f c8 hf
    refine lv_iconst (v := 1) hx hb wd_L_isWornWith_29 (by decide) ?_
    exact wx_zret hx hb hr narrow_b1 hlocks hf hP hS wd_L_isWornWith_30
set_option maxHeartbeats 4000000 in
set_option maxRecDepth 100000 in
theorem wm_L_countKilometres (l : Launch) (D : va_G) (ad : Nat → Nat) (cI cZ cJ cG : ClassId) (sz : Nat) (b : Nat) (hb_ : b = 30 ∨ b = 49) (a1 : Int32) (a2 : Int32) (σ : wc_S) (res : wc_S) (hf : wf_L_countKilometres b a1 a2 σ = some res) : Met l wy_L_countKilometres (wx_ws_L_countKilometres) ({ frames := 1, cells := 0, slots := 0, locals := 23 }) (va_Pc [.ref (ad b), .int a1, .int a2] (wx_pre D ad cI cZ cJ cG σ sz)) (wx_Qv D ad cI cZ cJ cG res (va_A (wx_W ad cI cZ cJ cG σ) sz)) 0 0 (va_A (wx_W ad cI cZ cJ cG σ) sz) := by
  refine wx_ofW (cc := prog_3_method_12_code) (maxL := 6) (ret := none) (Qc := fun A => wx_Qv D ad cI cZ cJ cG res A) [.ref (ad b), .int a1, .int a2] (by decide) rfl (Nat.le_of_ble_eq_true rfl) ?_
  intro p e s m args below meth c A ls hin hl
  obtain ⟨hx, hb, hr, hts, hown, hlocks, hml, hA, hP, hK, hD, hC, hN, hS⟩ := hin
  have hl : lv_has ls 6 [(0, .ref (ad b)), (1, .int a1), (2, .int a2)] := hl
  have J78 : ∀ (k43 : Int32 → Int32 → Int32 → Int32 → wc_S → Option wc_S) (hk43 : (∀ (x1 : Int32) (x2 : Int32) (x3 : Int32) (x4 : Int32) (σ : wc_S), k43 x1 x2 x3 x4 σ = some res → wx_Arr p l e ({ frames := 1, cells := 0, slots := 0, locals := 23 }) s m args below meth c D ad cI cZ cJ cG A (MQ below (wx_Qv D ad cI cZ cJ cG res A) args s 0 0 A) 6 0 0 43 [(0, .ref (ad b)), (1, .int x1), (2, .int x2), (3, .int x3), (4, .int x4)] [] σ)) (x1 : Int32) (x2 : Int32) (x3 : Int32) (x4 : Int32) (s0 : Int32) (σ : wc_S), wf_L_countKilometres_78 b k43 x1 x2 x3 x4 s0 σ = some res → wx_Arr p l e ({ frames := 1, cells := 0, slots := 0, locals := 23 }) s m args below meth c D ad cI cZ cJ cG A (MQ below (wx_Qv D ad cI cZ cJ cG res A) args s 0 0 A) 6 0 0 78 [(0, .ref (ad b)), (1, .int x1), (2, .int x2), (3, .int x3), (4, .int x4)] [.int s0] σ := by
    intro k43 hk43 x1 x2 x3 x4 s0 σ hf H locs ls hP hD hS hl
    unfold wf_L_countKilometres_78 at hf
    refine lv_istore (lv' := [(5, .int s0), (0, .ref (ad b)), (1, .int x1), (2, .int x2), (3, .int x3), (4, .int x4)]) hx hb wd_L_countKilometres_78 hl (by decide) rfl (fun ls hl => ?_)
    refine lv_aload_n hx hb wd_L_countKilometres_80 rfl (lv_at hl 1 rfl) ?_
    refine wx_get (v := .ref (ad (b + 8))) (C := "WidthCampaigns$Line") (T := wx_TL) (N' := 10) hx hb hts wi_L hown hK hP b (wx_Ll0 hb_) (wx_L0 hb_ _) rfl 8 (by decide) wt_164 (fun _ h9 => h9) rfl wd_L_countKilometres_81 ?_
    refine lv_iload_n hx hb wd_L_countKilometres_84 rfl (lv_at hl 4 rfl) ?_
    obtain ⟨h19, hf⟩ := wc_gd_e hf
    refine wx_aald (bs := (b + 9)) hx hb hK hP (b + 8) (n := 10) (wx_Ll8 hb_) (wx_L8 hb_ _) h19 wd_L_countKilometres_85 ?_
    refine lv_iload hx hb wd_L_countKilometres_86 (lv_at hl 5 rfl) ?_
    refine lv_iload hx hb wd_L_countKilometres_88 (lv_at hl 0 rfl) ?_
    refine lv_aload_n hx hb wd_L_countKilometres_90 rfl (lv_at hl 1 rfl) ?_
    refine wx_get (v := .ref (ad 1)) (C := "WidthCampaigns$Line") (T := wx_TL) (N' := 10) hx hb hts wi_L hown hK hP b (wx_Ll0 hb_) (wx_L0 hb_ _) rfl 0 (by decide) wt_153 (fun _ h9 => h9) rfl wd_L_countKilometres_91 ?_
    refine lv_iload hx hb wd_L_countKilometres_94 (lv_at hl 5 rfl) ?_
    refine lv_iload_n hx hb wd_L_countKilometres_96 rfl (lv_at hl 2 rfl) ?_
    obtain ⟨r21, σ20, hq, hf⟩ := wc_b2_e hf
    refine wx_calli (va_runVN (As := [.int x4, .int x1]) (rest := [.int s0, .int x4, .ref (ad (b + 9 + x3.toNatClampNeg))]) ⟨hx, hb, hml, hown, hts⟩ (wm_P_kilometresInGroup l D ad cI cZ cJ cG _ x4 x1 σ _ hq) (wx_cwN 2 hts wt_501 wt_500 wp_20 wt_2 (hN.1 _ (List.mem_of_getElem? (i := 11) rfl) #[]) wh_P_kilometresInGroup rfl rfl ⟨Nat.le_of_ble_eq_true rfl, Nat.le_of_ble_eq_true rfl⟩) (wx_preV hK hP hD hS hA hC (by decide) rfl rfl) rfl rfl hl.1 rfl (lv_room (Nat.le_of_ble_eq_true rfl)) wd_L_countKilometres_97 ⟨Nat.le_of_ble_eq_true rfl, Nat.le_of_ble_eq_true rfl⟩) hD hS hA (fun H locs hP hD hS => ?_)
    refine lv_iadd hx hb wd_L_countKilometres_100 ?_
    refine lv_topi (fun v22 ev22 => ?_)
    have hf := wc_st_e ev22 hf
    obtain ⟨h23, hf⟩ := wc_gd_e hf
    refine wx_iast hx hb hK hP hD hS (b + 9 + x3.toNatClampNeg) (n := 4) (wx_gLl hb_ h19) (fun _ => (wx_gL hb_ h19 _)) h23 wd_L_countKilometres_101 (fun σ24 H locs eσ24 hP hD hS => ?_)
    have hf := wc_st_e eσ24 hf
    obtain ⟨v25, ev25⟩ : ∃ y : Int32, y = x4 + 1 := ⟨_, rfl⟩
    have hf := wc_st_e ev25 hf
    refine lv_iinc (v := v25) (lv' := [(4, .int v25), (5, .int s0), (0, .ref (ad b)), (1, .int x1), (2, .int x2), (3, .int x3)]) hx hb wd_L_countKilometres_102 hl (k := 5) rfl (by rw [ev25]; rfl) (by decide) rfl (fun ls hl => ?_)
    refine lv_goto (tgt := 43) hx hb wd_L_countKilometres_105 (by decide) ?_
    exact hk43 x1 x2 x3 v25 σ24 hf _ _ _ hP hD hS (lv_sub hl [2, 3, 4, 5, 0] rfl)
  have J43 : ∀ (n : Nat) (x1 : Int32) (x2 : Int32) (x3 : Int32) (x4 : Int32) (σ : wc_S), wf_L_countKilometres_43 b n x1 x2 x3 x4 σ = some res → wx_Arr p l e ({ frames := 1, cells := 0, slots := 0, locals := 23 }) s m args below meth c D ad cI cZ cJ cG A (MQ below (wx_Qv D ad cI cZ cJ cG res A) args s 0 0 A) 6 0 0 43 [(0, .ref (ad b)), (1, .int x1), (2, .int x2), (3, .int x3), (4, .int x4)] [] σ := by
    intro  n
    induction n with
    | zero => intro x1 x2 x3 x4 σ hf; exact absurd hf (by intro h9; cases h9)
    | succ n hk43 =>
      intro x1 x2 x3 x4 σ hf H locs ls hP hD hS hl
      have hf : wf_L_countKilometres_43_b b (wf_L_countKilometres_43 b n) x1 x2 x3 x4 σ = some res := hf
      unfold wf_L_countKilometres_43_b at hf
      refine lv_iload hx hb wd_L_countKilometres_43 (lv_at hl 4 rfl) ?_
      refine lv_aload_n hx hb wd_L_countKilometres_45 rfl (lv_at hl 0 rfl) ?_
      refine wx_get (v := .ref (ad 1)) (C := "WidthCampaigns$Line") (T := wx_TL) (N' := 10) hx hb hts wi_L hown hK hP b (wx_Ll0 hb_) (wx_L0 hb_ _) rfl 0 (by decide) wt_153 (fun _ h9 => h9) rfl wd_L_countKilometres_46 ?_
      refine wx_getN (v := .ref (ad 26)) (C := "WidthCampaigns$Plant") (T := wx_TP) (N' := 15) hx hb hts wi_P hown hK hP 1 (by decide) rfl rfl 9 (by decide) (hN.1 _ (List.mem_of_getElem? (i := 9) rfl) #[]) (fun _ h9 => h9) rfl wd_L_countKilometres_49 ?_
      refine wx_getN (v := .int (σ 26 3)) (C := "WidthCampaigns$WidthGroups") (T := wx_TG) (N' := 4) hx hb hts wi_G hown hK hP 26 (by decide) rfl rfl 3 (by decide) (hN.1 _ (List.mem_of_getElem? (i := 10) rfl) #[]) (fun _ h9 => h9) rfl wd_L_countKilometres_52 ?_
      refine lv_topi (fun v12 ev12 => ?_)
      have hf := wc_st_e ev12 hf
      refine lv_icmp_ge (tgt := 108) hx hb wd_L_countKilometres_55 (by decide) (fun c13 => ?_) (fun c13 => ?_)
      · have hf := wc_t c13 hf
        exact wx_vret hx hb hr hlocks hf hP hS wd_L_countKilometres_108
      · have hf := wc_f c13 hf
        refine lv_iload_n hx hb wd_L_countKilometres_58 rfl (lv_at hl 2 rfl) ?_
        refine lv_if_eq (tgt := 66) hx hb wd_L_countKilometres_59 (by decide) (fun c14 => ?_) (fun c14 => ?_)
        · have hf := wc_t c14 hf
          refine lv_aload_n hx hb wd_L_countKilometres_66 rfl (lv_at hl 0 rfl) ?_
          refine wx_get (v := .ref (ad (b + 8))) (C := "WidthCampaigns$Line") (T := wx_TL) (N' := 10) hx hb hts wi_L hown hK hP b (wx_Ll0 hb_) (wx_L0 hb_ _) rfl 8 (by decide) wt_164 (fun _ h9 => h9) rfl wd_L_countKilometres_67 ?_
          refine lv_aload_n hx hb wd_L_countKilometres_70 rfl (lv_at hl 0 rfl) ?_
          refine wx_get (v := .int (σ b 9)) (C := "WidthCampaigns$Line") (T := wx_TL) (N' := 10) hx hb hts wi_L hown hK hP b (wx_Ll0 hb_) (wx_L0 hb_ _) rfl 9 (by decide) wt_165 (fun _ h9 => h9) rfl wd_L_countKilometres_71 ?_
          refine lv_topi (fun v15 ev15 => ?_)
          have hf := wc_st_e ev15 hf
          obtain ⟨h16, hf⟩ := wc_gd_e hf
          refine wx_aald (bs := (b + 9)) hx hb hK hP (b + 8) (n := 10) (wx_Ll8 hb_) (wx_L8 hb_ _) h16 wd_L_countKilometres_74 ?_
          refine lv_iload hx hb wd_L_countKilometres_75 (lv_at hl 4 rfl) ?_
          obtain ⟨h17, hf⟩ := wc_gd_e hf
          refine wx_iald hx hb hK hP (b + 9 + v15.toNatClampNeg) (n := 4) (wx_gLl hb_ h16) (wx_gL hb_ h16 _) (wc_in_e h17) wd_L_countKilometres_77 ?_
          refine lv_topi (fun v18 ev18 => ?_)
          have hf := wc_st_e ev18 hf
          exact J78 (wf_L_countKilometres_43 b n) hk43 x1 x2 x3 x4 v18 σ hf _ _ _ hP hD hS (lv_sub hl [0, 1, 2, 3, 4] rfl)
        · have hf := wc_f c14 hf
          refine lv_iconst (v := 0) hx hb wd_L_countKilometres_62 (by decide) ?_
          refine lv_goto (tgt := 78) hx hb wd_L_countKilometres_63 (by decide) ?_
          exact J78 (wf_L_countKilometres_43 b n) hk43 x1 x2 x3 x4 0 σ hf _ _ _ hP hD hS (lv_sub hl [0, 1, 2, 3, 4] rfl)
  have J29 : ∀ (x1 : Int32) (x2 : Int32) (x3 : Int32) (s1 : Int32) (s2 : Int32) (σ : wc_S), wf_L_countKilometres_29 b x1 x2 x3 s1 s2 σ = some res → wx_Arr p l e ({ frames := 1, cells := 0, slots := 0, locals := 23 }) s m args below meth c D ad cI cZ cJ cG A (MQ below (wx_Qv D ad cI cZ cJ cG res A) args s 0 0 A) 6 0 0 29 [(0, .ref (ad b)), (1, .int x1), (2, .int x2), (3, .int x3)] [.int s2, .int s1, .ref (ad (b + 7))] σ := by
    intro  x1 x2 x3 s1 s2 σ hf H locs ls hP hD hS hl
    unfold wf_L_countKilometres_29 at hf
    refine lv_aload_n hx hb wd_L_countKilometres_29 rfl (lv_at hl 0 rfl) ?_
    refine wx_get (v := .ref (ad 1)) (C := "WidthCampaigns$Line") (T := wx_TL) (N' := 10) hx hb hts wi_L hown hK hP b (wx_Ll0 hb_) (wx_L0 hb_ _) rfl 0 (by decide) wt_153 (fun _ h9 => h9) rfl wd_L_countKilometres_30 ?_
    refine wx_getN (v := .ref (ad 5)) (C := "WidthCampaigns$Plant") (T := wx_TP) (N' := 15) hx hb hts wi_P hown hK hP 1 (by decide) rfl rfl 3 (by decide) (hN.1 _ (List.mem_of_getElem? (i := 7) rfl) #[]) (fun _ h9 => h9) rfl wd_L_countKilometres_33 ?_
    refine lv_iload_n hx hb wd_L_countKilometres_36 rfl (lv_at hl 1 rfl) ?_
    obtain ⟨h7, hf⟩ := wc_gd_e hf
    refine wx_iald hx hb hK hP 5 (n := 9) (by decide) rfl (wc_in_e h7) wd_L_countKilometres_37 ?_
    refine lv_topi (fun v8 ev8 => ?_)
    have hf := wc_st_e ev8 hf
    refine lv_iadd hx hb wd_L_countKilometres_38 ?_
    refine lv_topi (fun v9 ev9 => ?_)
    have hf := wc_st_e ev9 hf
    obtain ⟨h10, hf⟩ := wc_gd_e hf
    refine wx_iast hx hb hK hP hD hS (b + 7) (n := 10) (wx_Ll7 hb_) (fun _ => (wx_L7 hb_ _)) h10 wd_L_countKilometres_39 (fun σ11 H locs eσ11 hP hD hS => ?_)
    have hf := wc_st_e eσ11 hf
    refine lv_iconst (v := 0) hx hb wd_L_countKilometres_40 (by decide) ?_
    refine lv_istore (lv' := [(4, .int 0), (0, .ref (ad b)), (1, .int x1), (2, .int x2), (3, .int x3)]) hx hb wd_L_countKilometres_41 hl (by decide) rfl (fun ls hl => ?_)
    exact J43 16 x1 x2 x3 0 σ11 hf _ _ _ hP hD hS (lv_sub hl [1, 2, 3, 4, 0] rfl)
  unfold wf_L_countKilometres at hf
  refine lv_aload_n hx hb wd_L_countKilometres_0 rfl (lv_at hl 0 rfl) ?_
  refine wx_get (v := .int (σ b 9)) (C := "WidthCampaigns$Line") (T := wx_TL) (N' := 10) hx hb hts wi_L hown hK hP b (wx_Ll0 hb_) (wx_L0 hb_ _) rfl 9 (by decide) wt_165 (fun _ h9 => h9) rfl wd_L_countKilometres_1 ?_
  refine lv_topi (fun v1 ev1 => ?_)
  have hf := wc_st_e ev1 hf
  refine lv_iconst (v := 1) hx hb wd_L_countKilometres_4 (by decide) ?_
  refine lv_iadd hx hb wd_L_countKilometres_5 ?_
  refine lv_topi (fun v2 ev2 => ?_)
  have hf := wc_st_e ev2 hf
  refine lv_istore_n (lv' := [(3, .int v2), (0, .ref (ad b)), (1, .int a1), (2, .int a2)]) hx hb wd_L_countKilometres_6 rfl hl (by decide) rfl (fun ls hl => ?_)
  refine lv_aload_n hx hb wd_L_countKilometres_7 rfl (lv_at hl 1 rfl) ?_
  refine wx_get (v := .ref (ad (b + 7))) (C := "WidthCampaigns$Line") (T := wx_TL) (N' := 10) hx hb hts wi_L hown hK hP b (wx_Ll0 hb_) (wx_L0 hb_ _) rfl 7 (by decide) wt_163 (fun _ h9 => h9) rfl wd_L_countKilometres_8 ?_
  refine lv_iload_n hx hb wd_L_countKilometres_11 rfl (lv_at hl 0 rfl) ?_
  refine lv_iload_n hx hb wd_L_countKilometres_12 rfl (lv_at hl 3 rfl) ?_
  refine lv_if_eq (tgt := 20) hx hb wd_L_countKilometres_13 (by decide) (fun c3 => ?_) (fun c3 => ?_)
  · have hf := wc_t c3 hf
    refine lv_aload_n hx hb wd_L_countKilometres_20 rfl (lv_at hl 1 rfl) ?_
    refine wx_get (v := .ref (ad (b + 7))) (C := "WidthCampaigns$Line") (T := wx_TL) (N' := 10) hx hb hts wi_L hown hK hP b (wx_Ll0 hb_) (wx_L0 hb_ _) rfl 7 (by decide) wt_163 (fun _ h9 => h9) rfl wd_L_countKilometres_21 ?_
    refine lv_aload_n hx hb wd_L_countKilometres_24 rfl (lv_at hl 1 rfl) ?_
    refine wx_get (v := .int (σ b 9)) (C := "WidthCampaigns$Line") (T := wx_TL) (N' := 10) hx hb hts wi_L hown hK hP b (wx_Ll0 hb_) (wx_L0 hb_ _) rfl 9 (by decide) wt_165 (fun _ h9 => h9) rfl wd_L_countKilometres_25 ?_
    refine lv_topi (fun v4 ev4 => ?_)
    have hf := wc_st_e ev4 hf
    obtain ⟨h5, hf⟩ := wc_gd_e hf
    refine wx_iald hx hb hK hP (b + 7) (n := 10) (wx_Ll7 hb_) (wx_L7 hb_ _) (wc_in_e h5) wd_L_countKilometres_28 ?_
    refine lv_topi (fun v6 ev6 => ?_)
    have hf := wc_st_e ev6 hf
    exact J29 a1 a2 v2 v2 v6 σ hf _ _ _ hP hD hS (lv_sub hl [1, 2, 3, 0] rfl)
  · have hf := wc_f c3 hf
    refine lv_iconst (v := 0) hx hb wd_L_countKilometres_16 (by decide) ?_
    refine lv_goto (tgt := 29) hx hb wd_L_countKilometres_17 (by decide) ?_
    exact J29 a1 a2 v2 v2 0 σ hf _ _ _ hP hD hS (lv_sub hl [1, 2, 3, 0] rfl)
set_option maxHeartbeats 4000000 in
set_option maxRecDepth 100000 in
theorem wm_L_countCosts (l : Launch) (D : va_G) (ad : Nat → Nat) (cI cZ cJ cG : ClassId) (sz : Nat) (b : Nat) (hb_ : b = 30 ∨ b = 49) (a1 : Int32) (a2 : Int32) (σ : wc_S) (res : wc_S) (hf : wf_L_countCosts b a1 a2 σ = some res) : Met l wy_L_countCosts (wx_ws_L_countCosts) ({ frames := 0, cells := 0, slots := 0, locals := 0 }) (va_Pc [.ref (ad b), .int a1, .int a2] (wx_pre D ad cI cZ cJ cG σ sz)) (wx_Qv D ad cI cZ cJ cG res (va_A (wx_W ad cI cZ cJ cG σ) sz)) 0 0 (va_A (wx_W ad cI cZ cJ cG σ) sz) := by
  refine wx_ofW (cc := prog_3_method_13_code) (maxL := 7) (ret := none) (Qc := fun A => wx_Qv D ad cI cZ cJ cG res A) [.ref (ad b), .int a1, .int a2] (by decide) rfl (Nat.le_of_ble_eq_true rfl) ?_
  intro p e s m args below meth c A ls hin hl
  obtain ⟨hx, hb, hr, hts, hown, hlocks, hml, hA, hP, hK, hD, hC, hN, hS⟩ := hin
  have hl : lv_has ls 7 [(0, .ref (ad b)), (1, .int a1), (2, .int a2)] := hl
  have J157 : ∀ (x5 : Int32) (s1 : Int32) (s2 : Int32) (s3 : Int32) (σ : wc_S), wf_L_countCosts_157 b x5 s1 s2 s3 σ = some res → wx_Arr p l e ({ frames := 0, cells := 0, slots := 0, locals := 0 }) s m args below meth c D ad cI cZ cJ cG A (MQ below (wx_Qv D ad cI cZ cJ cG res A) args s 0 0 A) 7 0 0 157 [(0, .ref (ad b)), (5, .int x5)] [.int s3, .int s2, .int s1, .ref (ad (b + 4))] σ := by
    intro  x5 s1 s2 s3 σ hf H locs ls hP hD hS hl
    unfold wf_L_countCosts_157 at hf
    refine lv_iadd hx hb wd_L_countCosts_157 ?_
    refine lv_topi (fun v27 ev27 => ?_)
    have hf := wc_st_e ev27 hf
    refine lv_iload hx hb wd_L_countCosts_158 (lv_at hl 1 rfl) ?_
    refine lv_if_eq (tgt := 173) hx hb wd_L_countCosts_160 (by decide) (fun c28 => ?_) (fun c28 => ?_)
    · have hf := wc_t c28 hf
      refine lv_iconst (v := 0) hx hb wd_L_countCosts_173 (by decide) ?_
      refine lv_iadd hx hb wd_L_countCosts_174 ?_
      refine lv_topi (fun v29 ev29 => ?_)
      have hf := wc_st_e ev29 hf
      obtain ⟨h30, hf⟩ := wc_gd_e hf
      refine wx_iast hx hb hK hP hD hS (b + 4) (n := 10) (wx_Ll4 hb_) (fun _ => (wx_L4 hb_ _)) h30 wd_L_countCosts_175 (fun σ31 H locs eσ31 hP hD hS => ?_)
      have hf := wc_st_e eσ31 hf
      exact wx_vret hx hb hr hlocks hf hP hS wd_L_countCosts_176
    · have hf := wc_f c28 hf
      refine lv_aload_n hx hb wd_L_countCosts_163 rfl (lv_at hl 0 rfl) ?_
      refine wx_get (v := .ref (ad 1)) (C := "WidthCampaigns$Line") (T := wx_TL) (N' := 10) hx hb hts wi_L hown hK hP b (wx_Ll0 hb_) (wx_L0 hb_ _) rfl 0 (by decide) wt_153 (fun _ h9 => h9) rfl wd_L_countCosts_164 ?_
      refine wx_getN (v := .int (σ 1 14)) (C := "WidthCampaigns$Plant") (T := wx_TP) (N' := 15) hx hb hts wi_P hown hK hP 1 (by decide) rfl rfl 14 (by decide) (hN.1 _ (List.mem_of_getElem? (i := 14) rfl) #[]) (fun _ h9 => h9) rfl wd_L_countCosts_167 ?_
      refine lv_topi (fun v32 ev32 => ?_)
      have hf := wc_st_e ev32 hf
      refine lv_goto (tgt := 174) hx hb wd_L_countCosts_170 (by decide) ?_
      refine lv_iadd hx hb wd_L_countCosts_174 ?_
      refine lv_topi (fun v33 ev33 => ?_)
      have hf := wc_st_e ev33 hf
      obtain ⟨h34, hf⟩ := wc_gd_e hf
      refine wx_iast hx hb hK hP hD hS (b + 4) (n := 10) (wx_Ll4 hb_) (fun _ => (wx_L4 hb_ _)) h34 wd_L_countCosts_175 (fun σ35 H locs eσ35 hP hD hS => ?_)
      have hf := wc_st_e eσ35 hf
      exact wx_vret hx hb hr hlocks hf hP hS wd_L_countCosts_176
  have J123 : ∀ (x2 : Int32) (x3 : Int32) (x5 : Int32) (x6 : Int32) (s1 : Int32) (s2 : Int32) (s3 : Int32) (σ : wc_S), wf_L_countCosts_123 b x2 x3 x5 x6 s1 s2 s3 σ = some res → wx_Arr p l e ({ frames := 0, cells := 0, slots := 0, locals := 0 }) s m args below meth c D ad cI cZ cJ cG A (MQ below (wx_Qv D ad cI cZ cJ cG res A) args s 0 0 A) 7 0 0 123 [(0, .ref (ad b)), (2, .int x2), (3, .int x3), (5, .int x5), (6, .int x6)] [.int s3, .int s2, .int s1, .ref (ad (b + 6))] σ := by
    intro  x2 x3 x5 x6 s1 s2 s3 σ hf H locs ls hP hD hS hl
    unfold wf_L_countCosts_123 at hf
    refine lv_iadd hx hb wd_L_countCosts_123 ?_
    refine lv_topi (fun v19 ev19 => ?_)
    have hf := wc_st_e ev19 hf
    obtain ⟨h20, hf⟩ := wc_gd_e hf
    refine wx_iast hx hb hK hP hD hS (b + 6) (n := 10) (wx_Ll6 hb_) (fun _ => (wx_L6 hb_ _)) h20 wd_L_countCosts_124 (fun σ21 H locs eσ21 hP hD hS => ?_)
    have hf := wc_st_e eσ21 hf
    refine lv_aload_n hx hb wd_L_countCosts_125 rfl (lv_at hl 0 rfl) ?_
    refine wx_get (v := .ref (ad (b + 4))) (C := "WidthCampaigns$Line") (T := wx_TL) (N' := 10) hx hb hts wi_L hown hK hP b (wx_Ll0 hb_) (wx_L0 hb_ _) rfl 4 (by decide) wt_160 (fun _ h9 => h9) rfl wd_L_countCosts_126 ?_
    refine lv_iload_n hx hb wd_L_countCosts_129 rfl (lv_at hl 2 rfl) ?_
    refine lv_aload_n hx hb wd_L_countCosts_130 rfl (lv_at hl 0 rfl) ?_
    refine wx_get (v := .ref (ad (b + 4))) (C := "WidthCampaigns$Line") (T := wx_TL) (N' := 10) hx hb hts wi_L hown hK hP b (wx_Ll0 hb_) (wx_L0 hb_ _) rfl 4 (by decide) wt_160 (fun _ h9 => h9) rfl wd_L_countCosts_131 ?_
    refine lv_aload_n hx hb wd_L_countCosts_134 rfl (lv_at hl 0 rfl) ?_
    refine wx_get (v := .int (σ21 b 9)) (C := "WidthCampaigns$Line") (T := wx_TL) (N' := 10) hx hb hts wi_L hown hK hP b (wx_Ll0 hb_) (wx_L0 hb_ _) rfl 9 (by decide) wt_165 (fun _ h9 => h9) rfl wd_L_countCosts_135 ?_
    refine lv_topi (fun v22 ev22 => ?_)
    have hf := wc_st_e ev22 hf
    obtain ⟨h23, hf⟩ := wc_gd_e hf
    refine wx_iald hx hb hK hP (b + 4) (n := 10) (wx_Ll4 hb_) (wx_L4 hb_ _) (wc_in_e h23) wd_L_countCosts_138 ?_
    refine lv_topi (fun v24 ev24 => ?_)
    have hf := wc_st_e ev24 hf
    refine lv_iload hx hb wd_L_countCosts_139 (lv_at hl 4 rfl) ?_
    refine lv_iadd hx hb wd_L_countCosts_141 ?_
    refine lv_topi (fun v25 ev25 => ?_)
    have hf := wc_st_e ev25 hf
    refine lv_iload_n hx hb wd_L_countCosts_142 rfl (lv_at hl 1 rfl) ?_
    refine lv_if_eq (tgt := 156) hx hb wd_L_countCosts_143 (by decide) (fun c26 => ?_) (fun c26 => ?_)
    · have hf := wc_t c26 hf
      refine lv_iconst (v := 0) hx hb wd_L_countCosts_156 (by decide) ?_
      exact J157 x5 x3 v25 0 σ21 hf _ _ _ hP hD hS (lv_sub hl [0, 3] rfl)
    · have hf := wc_f c26 hf
      refine lv_aload_n hx hb wd_L_countCosts_146 rfl (lv_at hl 0 rfl) ?_
      refine wx_get (v := .ref (ad 1)) (C := "WidthCampaigns$Line") (T := wx_TL) (N' := 10) hx hb hts wi_L hown hK hP b (wx_Ll0 hb_) (wx_L0 hb_ _) rfl 0 (by decide) wt_153 (fun _ h9 => h9) rfl wd_L_countCosts_147 ?_
      refine wx_getN (v := .int (σ21 1 13)) (C := "WidthCampaigns$Plant") (T := wx_TP) (N' := 15) hx hb hts wi_P hown hK hP 1 (by decide) rfl rfl 13 (by decide) (hN.1 _ (List.mem_of_getElem? (i := 15) rfl) #[]) (fun _ h9 => h9) rfl wd_L_countCosts_150 ?_
      refine lv_topi (fun v36 ev36 => ?_)
      have hf := wc_st_e ev36 hf
      refine lv_goto (tgt := 157) hx hb wd_L_countCosts_153 (by decide) ?_
      exact J157 x5 x3 v25 v36 σ21 hf _ _ _ hP hD hS (lv_sub hl [0, 3] rfl)
  have J97 : ∀ (x2 : Int32) (x3 : Int32) (x5 : Int32) (x6 : Int32) (s1 : Int32) (s2 : Int32) (s3 : Int32) (σ : wc_S), wf_L_countCosts_97 b x2 x3 x5 x6 s1 s2 s3 σ = some res → wx_Arr p l e ({ frames := 0, cells := 0, slots := 0, locals := 0 }) s m args below meth c D ad cI cZ cJ cG A (MQ below (wx_Qv D ad cI cZ cJ cG res A) args s 0 0 A) 7 0 0 97 [(0, .ref (ad b)), (2, .int x2), (3, .int x3), (5, .int x5), (6, .int x6)] [.int s3, .int s2, .int s1, .ref (ad (b + 5))] σ := by
    intro  x2 x3 x5 x6 s1 s2 s3 σ hf H locs ls hP hD hS hl
    unfold wf_L_countCosts_97 at hf
    refine lv_iadd hx hb wd_L_countCosts_97 ?_
    refine lv_topi (fun v12 ev12 => ?_)
    have hf := wc_st_e ev12 hf
    obtain ⟨h13, hf⟩ := wc_gd_e hf
    refine wx_iast hx hb hK hP hD hS (b + 5) (n := 10) (wx_Ll5 hb_) (fun _ => (wx_L5 hb_ _)) h13 wd_L_countCosts_98 (fun σ14 H locs eσ14 hP hD hS => ?_)
    have hf := wc_st_e eσ14 hf
    refine lv_aload_n hx hb wd_L_countCosts_99 rfl (lv_at hl 0 rfl) ?_
    refine wx_get (v := .ref (ad (b + 6))) (C := "WidthCampaigns$Line") (T := wx_TL) (N' := 10) hx hb hts wi_L hown hK hP b (wx_Ll0 hb_) (wx_L0 hb_ _) rfl 6 (by decide) wt_162 (fun _ h9 => h9) rfl wd_L_countCosts_100 ?_
    refine lv_iload_n hx hb wd_L_countCosts_103 rfl (lv_at hl 2 rfl) ?_
    refine lv_aload_n hx hb wd_L_countCosts_104 rfl (lv_at hl 0 rfl) ?_
    refine wx_get (v := .ref (ad (b + 6))) (C := "WidthCampaigns$Line") (T := wx_TL) (N' := 10) hx hb hts wi_L hown hK hP b (wx_Ll0 hb_) (wx_L0 hb_ _) rfl 6 (by decide) wt_162 (fun _ h9 => h9) rfl wd_L_countCosts_105 ?_
    refine lv_aload_n hx hb wd_L_countCosts_108 rfl (lv_at hl 0 rfl) ?_
    refine wx_get (v := .int (σ14 b 9)) (C := "WidthCampaigns$Line") (T := wx_TL) (N' := 10) hx hb hts wi_L hown hK hP b (wx_Ll0 hb_) (wx_L0 hb_ _) rfl 9 (by decide) wt_165 (fun _ h9 => h9) rfl wd_L_countCosts_109 ?_
    refine lv_topi (fun v15 ev15 => ?_)
    have hf := wc_st_e ev15 hf
    obtain ⟨h16, hf⟩ := wc_gd_e hf
    refine wx_iald hx hb hK hP (b + 6) (n := 10) (wx_Ll6 hb_) (wx_L6 hb_ _) (wc_in_e h16) wd_L_countCosts_112 ?_
    refine lv_topi (fun v17 ev17 => ?_)
    have hf := wc_st_e ev17 hf
    refine lv_iload hx hb wd_L_countCosts_113 (lv_at hl 3 rfl) ?_
    refine lv_if_eq (tgt := 122) hx hb wd_L_countCosts_115 (by decide) (fun c18 => ?_) (fun c18 => ?_)
    · have hf := wc_t c18 hf
      refine lv_iconst (v := 0) hx hb wd_L_countCosts_122 (by decide) ?_
      exact J123 x2 x3 x5 x6 x3 v17 0 σ14 hf _ _ _ hP hD hS (lv_sub hl [0, 1, 2, 3, 4] rfl)
    · have hf := wc_f c18 hf
      refine lv_iconst (v := 1) hx hb wd_L_countCosts_118 (by decide) ?_
      refine lv_goto (tgt := 123) hx hb wd_L_countCosts_119 (by decide) ?_
      exact J123 x2 x3 x5 x6 x3 v17 1 σ14 hf _ _ _ hP hD hS (lv_sub hl [0, 1, 2, 3, 4] rfl)
  have J72 : ∀ (x2 : Int32) (x3 : Int32) (x5 : Int32) (s0 : Int32) (σ : wc_S), wf_L_countCosts_72 b x2 x3 x5 s0 σ = some res → wx_Arr p l e ({ frames := 0, cells := 0, slots := 0, locals := 0 }) s m args below meth c D ad cI cZ cJ cG A (MQ below (wx_Qv D ad cI cZ cJ cG res A) args s 0 0 A) 7 0 0 72 [(0, .ref (ad b)), (2, .int x2), (3, .int x3), (5, .int x5)] [.int s0] σ := by
    intro  x2 x3 x5 s0 σ hf H locs ls hP hD hS hl
    unfold wf_L_countCosts_72 at hf
    refine lv_istore (lv' := [(6, .int s0), (0, .ref (ad b)), (2, .int x2), (3, .int x3), (5, .int x5)]) hx hb wd_L_countCosts_72 hl (by decide) rfl (fun ls hl => ?_)
    refine lv_aload_n hx hb wd_L_countCosts_74 rfl (lv_at hl 1 rfl) ?_
    refine wx_get (v := .ref (ad (b + 5))) (C := "WidthCampaigns$Line") (T := wx_TL) (N' := 10) hx hb hts wi_L hown hK hP b (wx_Ll0 hb_) (wx_L0 hb_ _) rfl 5 (by decide) wt_161 (fun _ h9 => h9) rfl wd_L_countCosts_75 ?_
    refine lv_iload_n hx hb wd_L_countCosts_78 rfl (lv_at hl 3 rfl) ?_
    refine lv_aload_n hx hb wd_L_countCosts_79 rfl (lv_at hl 1 rfl) ?_
    refine wx_get (v := .ref (ad (b + 5))) (C := "WidthCampaigns$Line") (T := wx_TL) (N' := 10) hx hb hts wi_L hown hK hP b (wx_Ll0 hb_) (wx_L0 hb_ _) rfl 5 (by decide) wt_161 (fun _ h9 => h9) rfl wd_L_countCosts_80 ?_
    refine lv_aload_n hx hb wd_L_countCosts_83 rfl (lv_at hl 1 rfl) ?_
    refine wx_get (v := .int (σ b 9)) (C := "WidthCampaigns$Line") (T := wx_TL) (N' := 10) hx hb hts wi_L hown hK hP b (wx_Ll0 hb_) (wx_L0 hb_ _) rfl 9 (by decide) wt_165 (fun _ h9 => h9) rfl wd_L_countCosts_84 ?_
    refine lv_topi (fun v8 ev8 => ?_)
    have hf := wc_st_e ev8 hf
    obtain ⟨h9, hf⟩ := wc_gd_e hf
    refine wx_iald hx hb hK hP (b + 5) (n := 10) (wx_Ll5 hb_) (wx_L5 hb_ _) (wc_in_e h9) wd_L_countCosts_87 ?_
    refine lv_topi (fun v10 ev10 => ?_)
    have hf := wc_st_e ev10 hf
    refine lv_iload_n hx hb wd_L_countCosts_88 rfl (lv_at hl 2 rfl) ?_
    refine lv_if_eq (tgt := 96) hx hb wd_L_countCosts_89 (by decide) (fun c11 => ?_) (fun c11 => ?_)
    · have hf := wc_t c11 hf
      refine lv_iconst (v := 0) hx hb wd_L_countCosts_96 (by decide) ?_
      exact J97 x2 x3 x5 s0 x3 v10 0 σ hf _ _ _ hP hD hS (lv_sub hl [1, 2, 3, 4, 0] rfl)
    · have hf := wc_f c11 hf
      refine lv_iconst (v := 1) hx hb wd_L_countCosts_92 (by decide) ?_
      refine lv_goto (tgt := 97) hx hb wd_L_countCosts_93 (by decide) ?_
      exact J97 x2 x3 x5 s0 x3 v10 1 σ hf _ _ _ hP hD hS (lv_sub hl [1, 2, 3, 4, 0] rfl)
  have J38 : ∀ (x1 : Int32) (x2 : Int32) (x3 : Int32) (s0 : Int32) (σ : wc_S), wf_L_countCosts_38 b x1 x2 x3 s0 σ = some res → wx_Arr p l e ({ frames := 0, cells := 0, slots := 0, locals := 0 }) s m args below meth c D ad cI cZ cJ cG A (MQ below (wx_Qv D ad cI cZ cJ cG res A) args s 0 0 A) 7 0 0 38 [(0, .ref (ad b)), (1, .int x1), (2, .int x2), (3, .int x3)] [.int s0] σ := by
    intro  x1 x2 x3 s0 σ hf H locs ls hP hD hS hl
    unfold wf_L_countCosts_38 at hf
    refine lv_istore (lv' := [(5, .int s0), (0, .ref (ad b)), (1, .int x1), (2, .int x2), (3, .int x3)]) hx hb wd_L_countCosts_38 hl (by decide) rfl (fun ls hl => ?_)
    refine lv_aload_n hx hb wd_L_countCosts_40 rfl (lv_at hl 1 rfl) ?_
    refine wx_get (v := .int (σ b 9)) (C := "WidthCampaigns$Line") (T := wx_TL) (N' := 10) hx hb hts wi_L hown hK hP b (wx_Ll0 hb_) (wx_L0 hb_ _) rfl 9 (by decide) wt_165 (fun _ h9 => h9) rfl wd_L_countCosts_41 ?_
    refine lv_topi (fun v6 ev6 => ?_)
    have hf := wc_st_e ev6 hf
    refine lv_if_le (tgt := 71) hx hb wd_L_countCosts_44 (by decide) (fun c7 => ?_) (fun c7 => ?_)
    · have hf := wc_t c7 hf
      refine lv_iconst (v := 0) hx hb wd_L_countCosts_71 (by decide) ?_
      exact J72 x2 x3 s0 0 σ hf _ _ _ hP hD hS (lv_sub hl [1, 3, 4, 0] rfl)
    · have hf := wc_f c7 hf
      refine lv_aload_n hx hb wd_L_countCosts_47 rfl (lv_at hl 1 rfl) ?_
      refine wx_get (v := .ref (ad 1)) (C := "WidthCampaigns$Line") (T := wx_TL) (N' := 10) hx hb hts wi_L hown hK hP b (wx_Ll0 hb_) (wx_L0 hb_ _) rfl 0 (by decide) wt_153 (fun _ h9 => h9) rfl wd_L_countCosts_48 ?_
      refine wx_getN (v := .ref (ad 8)) (C := "WidthCampaigns$Plant") (T := wx_TP) (N' := 15) hx hb hts wi_P hown hK hP 1 (by decide) rfl rfl 6 (by decide) (hN.1 _ (List.mem_of_getElem? (i := 3) rfl) #[]) (fun _ h9 => h9) rfl wd_L_countCosts_51 ?_
      refine lv_aload_n hx hb wd_L_countCosts_54 rfl (lv_at hl 1 rfl) ?_
      refine wx_get (v := .ref (ad (b + 1))) (C := "WidthCampaigns$Line") (T := wx_TL) (N' := 10) hx hb hts wi_L hown hK hP b (wx_Ll0 hb_) (wx_L0 hb_ _) rfl 1 (by decide) wt_154 (fun _ h9 => h9) rfl wd_L_countCosts_55 ?_
      refine lv_aload_n hx hb wd_L_countCosts_58 rfl (lv_at hl 1 rfl) ?_
      refine wx_get (v := .int (σ b 9)) (C := "WidthCampaigns$Line") (T := wx_TL) (N' := 10) hx hb hts wi_L hown hK hP b (wx_Ll0 hb_) (wx_L0 hb_ _) rfl 9 (by decide) wt_165 (fun _ h9 => h9) rfl wd_L_countCosts_59 ?_
      refine lv_topi (fun v37 ev37 => ?_)
      have hf := wc_st_e ev37 hf
      refine lv_iconst (v := 1) hx hb wd_L_countCosts_62 (by decide) ?_
      refine lv_isub hx hb wd_L_countCosts_63 ?_
      refine lv_topi (fun v38 ev38 => ?_)
      have hf := wc_st_e ev38 hf
      obtain ⟨h39, hf⟩ := wc_gd_e hf
      refine wx_iald hx hb hK hP (b + 1) (n := 9) (wx_Ll1 hb_) (wx_L1 hb_ _) (wc_in_e h39) wd_L_countCosts_64 ?_
      refine lv_topi (fun v40 ev40 => ?_)
      have hf := wc_st_e ev40 hf
      obtain ⟨h41, hf⟩ := wc_gd_e hf
      refine wx_aald (bs := 9) hx hb hK hP 8 (n := 9) (by decide) rfl h41 wd_L_countCosts_65 ?_
      refine lv_iload_n hx hb wd_L_countCosts_66 rfl (lv_at hl 2 rfl) ?_
      obtain ⟨h42, hf⟩ := wc_gd_e hf
      refine wx_iald hx hb hK hP (9 + v40.toNatClampNeg) (n := 9) (wx_g8l h41) (wx_g8 h41 _) (wc_in_e h42) wd_L_countCosts_67 ?_
      refine lv_topi (fun v43 ev43 => ?_)
      have hf := wc_st_e ev43 hf
      refine lv_goto (tgt := 72) hx hb wd_L_countCosts_68 (by decide) ?_
      exact J72 x2 x3 s0 v43 σ hf _ _ _ hP hD hS (lv_sub hl [1, 3, 4, 0] rfl)
  have J37 : ∀ (x1 : Int32) (x2 : Int32) (x3 : Int32) (σ : wc_S), wf_L_countCosts_37 b x1 x2 x3 σ = some res → wx_Arr p l e ({ frames := 0, cells := 0, slots := 0, locals := 0 }) s m args below meth c D ad cI cZ cJ cG A (MQ below (wx_Qv D ad cI cZ cJ cG res A) args s 0 0 A) 7 0 0 37 [(0, .ref (ad b)), (1, .int x1), (2, .int x2), (3, .int x3)] [] σ := by
    intro  x1 x2 x3 σ hf H locs ls hP hD hS hl
    unfold wf_L_countCosts_37 at hf
    refine lv_iconst (v := 0) hx hb wd_L_countCosts_37 (by decide) ?_
    exact J38 x1 x2 x3 0 σ hf _ _ _ hP hD hS (lv_sub hl [0, 1, 2, 3] rfl)
  unfold wf_L_countCosts at hf
  refine lv_aload_n hx hb wd_L_countCosts_0 rfl (lv_at hl 0 rfl) ?_
  refine wx_get (v := .int (σ b 9)) (C := "WidthCampaigns$Line") (T := wx_TL) (N' := 10) hx hb hts wi_L hown hK hP b (wx_Ll0 hb_) (wx_L0 hb_ _) rfl 9 (by decide) wt_165 (fun _ h9 => h9) rfl wd_L_countCosts_1 ?_
  refine lv_topi (fun v1 ev1 => ?_)
  have hf := wc_st_e ev1 hf
  refine lv_iconst (v := 1) hx hb wd_L_countCosts_4 (by decide) ?_
  refine lv_iadd hx hb wd_L_countCosts_5 ?_
  refine lv_topi (fun v2 ev2 => ?_)
  have hf := wc_st_e ev2 hf
  refine lv_istore_n (lv' := [(3, .int v2), (0, .ref (ad b)), (1, .int a1), (2, .int a2)]) hx hb wd_L_countCosts_6 rfl hl (by decide) rfl (fun ls hl => ?_)
  refine lv_aload_n hx hb wd_L_countCosts_7 rfl (lv_at hl 1 rfl) ?_
  refine wx_get (v := .ref (ad 1)) (C := "WidthCampaigns$Line") (T := wx_TL) (N' := 10) hx hb hts wi_L hown hK hP b (wx_Ll0 hb_) (wx_L0 hb_ _) rfl 0 (by decide) wt_153 (fun _ h9 => h9) rfl wd_L_countCosts_8 ?_
  refine wx_getN (v := .ref (ad 7)) (C := "WidthCampaigns$Plant") (T := wx_TP) (N' := 15) hx hb hts wi_P hown hK hP 1 (by decide) rfl rfl 5 (by decide) (hN.1 _ (List.mem_of_getElem? (i := 13) rfl) #[]) (fun _ h9 => h9) rfl wd_L_countCosts_11 ?_
  refine lv_iload_n hx hb wd_L_countCosts_14 rfl (lv_at hl 2 rfl) ?_
  obtain ⟨h3, hf⟩ := wc_gd_e hf
  refine wx_iald hx hb hK hP 7 (n := 9) (by decide) rfl (wc_in_e h3) wd_L_countCosts_15 ?_
  refine lv_topi (fun v4 ev4 => ?_)
  have hf := wc_st_e ev4 hf
  refine lv_istore (lv' := [(4, .int v4), (3, .int v2), (0, .ref (ad b)), (1, .int a1), (2, .int a2)]) hx hb wd_L_countCosts_16 hl (by decide) rfl (fun ls hl => ?_)
  refine lv_iload hx hb wd_L_countCosts_18 (lv_at hl 0 rfl) ?_
  refine lv_iconst (v := (-1)) hx hb wd_L_countCosts_20 (by decide) ?_
  refine lv_icmp_eq (tgt := 37) hx hb wd_L_countCosts_21 (by decide) (fun c5 => ?_) (fun c5 => ?_)
  · have hf := wc_t c5 hf
    exact J37 a1 a2 v2 σ hf _ _ _ hP hD hS (lv_sub hl [2, 3, 4, 1] rfl)
  · have hf := wc_f c5 hf
    refine lv_iload hx hb wd_L_countCosts_24 (lv_at hl 0 rfl) ?_
    refine lv_aload_n hx hb wd_L_countCosts_26 rfl (lv_at hl 2 rfl) ?_
    refine wx_get (v := .int (σ b 9)) (C := "WidthCampaigns$Line") (T := wx_TL) (N' := 10) hx hb hts wi_L hown hK hP b (wx_Ll0 hb_) (wx_L0 hb_ _) rfl 9 (by decide) wt_165 (fun _ h9 => h9) rfl wd_L_countCosts_27 ?_
    refine lv_topi (fun v44 ev44 => ?_)
    have hf := wc_st_e ev44 hf
    refine lv_icmp_eq (tgt := 37) hx hb wd_L_countCosts_30 (by decide) (fun c45 => ?_) (fun c45 => ?_)
    · have hf := wc_t c45 hf
      exact J37 a1 a2 v2 σ hf _ _ _ hP hD hS (lv_sub hl [2, 3, 4, 1] rfl)
    · have hf := wc_f c45 hf
      refine lv_iconst (v := 1) hx hb wd_L_countCosts_33 (by decide) ?_
      refine lv_goto (tgt := 38) hx hb wd_L_countCosts_34 (by decide) ?_
      exact J38 a1 a2 v2 1 σ hf _ _ _ hP hD hS (lv_sub hl [2, 3, 4, 1] rfl)
set_option maxHeartbeats 4000000 in
set_option maxRecDepth 100000 in
theorem wm_L_put (l : Launch) (D : va_G) (ad : Nat → Nat) (cI cZ cJ cG : ClassId) (sz : Nat) (b : Nat) (hb_ : b = 30 ∨ b = 49) (a1 : Int32) (σ : wc_S) (res : wc_S) (hf : wf_L_put b a1 σ = some res) : Met l wy_L_put (wx_ws_L_put) ({ frames := 2, cells := 0, slots := 0, locals := 48 }) (va_Pc [.ref (ad b), .int a1] (wx_pre D ad cI cZ cJ cG σ sz)) (wx_Qv D ad cI cZ cJ cG res (va_A (wx_W ad cI cZ cJ cG σ) sz)) 0 0 (va_A (wx_W ad cI cZ cJ cG σ) sz) := by
  refine wx_ofW (cc := prog_3_method_9_code) (maxL := 3) (ret := none) (Qc := fun A => wx_Qv D ad cI cZ cJ cG res A) [.ref (ad b), .int a1] (by decide) rfl (Nat.le_of_ble_eq_true rfl) ?_
  intro p e s m args below meth c A ls hin hl
  obtain ⟨hx, hb, hr, hts, hown, hlocks, hml, hA, hP, hK, hD, hC, hN, hS⟩ := hin
  have hl : lv_has ls 3 [(0, .ref (ad b)), (1, .int a1)] := hl
  have J20 : ∀ (x1 : Int32) (s0 : Int32) (σ : wc_S), wf_L_put_20 b x1 s0 σ = some res → wx_Arr p l e ({ frames := 2, cells := 0, slots := 0, locals := 48 }) s m args below meth c D ad cI cZ cJ cG A (MQ below (wx_Qv D ad cI cZ cJ cG res A) args s 0 0 A) 3 0 0 20 [(0, .ref (ad b)), (1, .int x1)] [.int s0] σ := by
    intro  x1 s0 σ hf H locs ls hP hD hS hl
    unfold wf_L_put_20 at hf
    refine lv_istore_n (lv' := [(2, .int s0), (0, .ref (ad b)), (1, .int x1)]) hx hb wd_L_put_20 rfl hl (by decide) rfl (fun ls hl => ?_)
    refine lv_aload_n hx hb wd_L_put_21 rfl (lv_at hl 1 rfl) ?_
    refine wx_get (v := .ref (ad (b + 3))) (C := "WidthCampaigns$Line") (T := wx_TL) (N' := 10) hx hb hts wi_L hown hK hP b (wx_Ll0 hb_) (wx_L0 hb_ _) rfl 3 (by decide) wt_158 (fun _ h9 => h9) rfl wd_L_put_22 ?_
    refine lv_aload_n hx hb wd_L_put_25 rfl (lv_at hl 1 rfl) ?_
    refine wx_get (v := .int (σ b 9)) (C := "WidthCampaigns$Line") (T := wx_TL) (N' := 10) hx hb hts wi_L hown hK hP b (wx_Ll0 hb_) (wx_L0 hb_ _) rfl 9 (by decide) wt_165 (fun _ h9 => h9) rfl wd_L_put_26 ?_
    refine lv_topi (fun v3 ev3 => ?_)
    have hf := wc_st_e ev3 hf
    refine lv_iload_n hx hb wd_L_put_29 rfl (lv_at hl 0 rfl) ?_
    obtain ⟨h4, hf⟩ := wc_gd_e hf
    refine wx_zast hx hb hK hP hD hS (b + 3) (n := 9) (wx_Ll3 hb_) (fun _ => (wx_L3 hb_ _)) h4 wd_L_put_30 (fun σ5 H locs eσ5 hP hD hS => ?_)
    have hf := wc_st_e eσ5 hf
    refine lv_aload_n hx hb wd_L_put_31 rfl (lv_at hl 1 rfl) ?_
    refine lv_iload_n hx hb wd_L_put_32 rfl (lv_at hl 2 rfl) ?_
    refine lv_iload_n hx hb wd_L_put_33 rfl (lv_at hl 0 rfl) ?_
    obtain ⟨σ6, hq, hf⟩ := wc_b1_e hf
    refine wx_callv (va_runV (As := [.int x1, .int s0]) (rest := []) ⟨hx, hb, hml, hown, hts⟩ (wm_L_countKilometres l D ad cI cZ cJ cG _ b hb_ x1 s0 σ5 _ hq) (wx_cwV 2 hts wt_505 wt_504 wp_21 wt_5 wt_502 wh_L_countKilometres rfl rfl ⟨Nat.le_of_ble_eq_true rfl, Nat.le_of_ble_eq_true rfl⟩) (wx_preV hK hP hD hS hA hC (wx_Ll0 hb_) (wx_L0 hb_ _) rfl) rfl rfl hl.1 rfl (lv_room (Nat.le_of_ble_eq_true rfl)) wd_L_put_34 ⟨Nat.le_of_ble_eq_true rfl, Nat.le_of_ble_eq_true rfl⟩) hD hS hA (fun H locs hP hD hS => ?_)
    refine lv_aload_n hx hb wd_L_put_37 rfl (lv_at hl 1 rfl) ?_
    refine lv_iload_n hx hb wd_L_put_38 rfl (lv_at hl 2 rfl) ?_
    refine lv_iload_n hx hb wd_L_put_39 rfl (lv_at hl 0 rfl) ?_
    obtain ⟨σ7, hq, hf⟩ := wc_b1_e hf
    refine wx_callv (va_runV (As := [.int x1, .int s0]) (rest := []) ⟨hx, hb, hml, hown, hts⟩ (wm_L_countCosts l D ad cI cZ cJ cG _ b hb_ x1 s0 σ6 _ hq) (wx_cwV 2 hts wt_509 wt_508 wp_22 wt_5 wt_506 wh_L_countCosts rfl rfl ⟨Nat.le_of_ble_eq_true rfl, Nat.le_of_ble_eq_true rfl⟩) (wx_preV hK hP hD hS hA hC (wx_Ll0 hb_) (wx_L0 hb_ _) rfl) rfl rfl hl.1 rfl (lv_room (Nat.le_of_ble_eq_true rfl)) wd_L_put_40 ⟨Nat.le_of_ble_eq_true rfl, Nat.le_of_ble_eq_true rfl⟩) hD hS hA (fun H locs hP hD hS => ?_)
    refine lv_aload_n hx hb wd_L_put_43 rfl (lv_at hl 1 rfl) ?_
    refine wx_get (v := .ref (ad (b + 1))) (C := "WidthCampaigns$Line") (T := wx_TL) (N' := 10) hx hb hts wi_L hown hK hP b (wx_Ll0 hb_) (wx_L0 hb_ _) rfl 1 (by decide) wt_154 (fun _ h9 => h9) rfl wd_L_put_44 ?_
    refine lv_aload_n hx hb wd_L_put_47 rfl (lv_at hl 1 rfl) ?_
    refine wx_get (v := .int (σ7 b 9)) (C := "WidthCampaigns$Line") (T := wx_TL) (N' := 10) hx hb hts wi_L hown hK hP b (wx_Ll0 hb_) (wx_L0 hb_ _) rfl 9 (by decide) wt_165 (fun _ h9 => h9) rfl wd_L_put_48 ?_
    refine lv_topi (fun v8 ev8 => ?_)
    have hf := wc_st_e ev8 hf
    refine lv_iload_n hx hb wd_L_put_51 rfl (lv_at hl 2 rfl) ?_
    obtain ⟨h9, hf⟩ := wc_gd_e hf
    refine wx_iast hx hb hK hP hD hS (b + 1) (n := 9) (wx_Ll1 hb_) (fun _ => (wx_L1 hb_ _)) h9 wd_L_put_52 (fun σ10 H locs eσ10 hP hD hS => ?_)
    have hf := wc_st_e eσ10 hf
    refine lv_aload_n hx hb wd_L_put_53 rfl (lv_at hl 1 rfl) ?_
    refine wx_get (v := .ref (ad (b + 2))) (C := "WidthCampaigns$Line") (T := wx_TL) (N' := 10) hx hb hts wi_L hown hK hP b (wx_Ll0 hb_) (wx_L0 hb_ _) rfl 2 (by decide) wt_157 (fun _ h9 => h9) rfl wd_L_put_54 ?_
    refine lv_iload_n hx hb wd_L_put_57 rfl (lv_at hl 2 rfl) ?_
    refine lv_iconst (v := 1) hx hb wd_L_put_58 (by decide) ?_
    obtain ⟨h11, hf⟩ := wc_gd_e hf
    refine wx_zast hx hb hK hP hD hS (b + 2) (n := 9) (wx_Ll2 hb_) (fun _ => (wx_L2 hb_ _)) h11 wd_L_put_59 (fun σ12 H locs eσ12 hP hD hS => ?_)
    have hf := wc_st_e eσ12 hf
    refine lv_aload_n hx hb wd_L_put_60 rfl (lv_at hl 1 rfl) ?_
    refine lv_dup hx hb wd_L_put_61 rfl ?_
    refine wx_get (v := .int (σ12 b 9)) (C := "WidthCampaigns$Line") (T := wx_TL) (N' := 10) hx hb hts wi_L hown hK hP b (wx_Ll0 hb_) (wx_L0 hb_ _) rfl 9 (by decide) wt_165 (fun _ h9 => h9) rfl wd_L_put_62 ?_
    refine lv_topi (fun v13 ev13 => ?_)
    have hf := wc_st_e ev13 hf
    refine lv_iconst (v := 1) hx hb wd_L_put_65 (by decide) ?_
    refine lv_iadd hx hb wd_L_put_66 ?_
    refine lv_topi (fun v14 ev14 => ?_)
    have hf := wc_st_e ev14 hf
    refine wx_put (x := v14) (ty := .int) (C := "WidthCampaigns$Line") (T := wx_TL) (N' := 10) hx hb hts wi_L wx_tL wx_toL wx_nL hown hK hP hD hS b (wx_Ll0 hb_) (fun _ => (wx_L0 hb_ _)) rfl 9 (by decide) wt_165 (fun _ h9 => h9) rfl (by decide +kernel) rfl rfl (Nat.le_of_ble_eq_true rfl) rfl wd_L_put_67 (fun σ15 H locs eσ15 hP hD hS => ?_)
    have hf := wc_st_e eσ15 hf
    exact wx_vret hx hb hr hlocks hf hP hS wd_L_put_70
  have J19 : ∀ (x1 : Int32) (σ : wc_S), wf_L_put_19 b x1 σ = some res → wx_Arr p l e ({ frames := 2, cells := 0, slots := 0, locals := 48 }) s m args below meth c D ad cI cZ cJ cG A (MQ below (wx_Qv D ad cI cZ cJ cG res A) args s 0 0 A) 3 0 0 19 [(0, .ref (ad b)), (1, .int x1)] [] σ := by
    intro  x1 σ hf H locs ls hP hD hS hl
    unfold wf_L_put_19 at hf
    refine lv_iconst (v := 0) hx hb wd_L_put_19 (by decide) ?_
    exact J20 x1 0 σ hf _ _ _ hP hD hS (lv_sub hl [0, 1] rfl)
  unfold wf_L_put at hf
  refine lv_aload_n hx hb wd_L_put_0 rfl (lv_at hl 0 rfl) ?_
  refine wx_get (v := .int (σ b 9)) (C := "WidthCampaigns$Line") (T := wx_TL) (N' := 10) hx hb hts wi_L hown hK hP b (wx_Ll0 hb_) (wx_L0 hb_ _) rfl 9 (by decide) wt_165 (fun _ h9 => h9) rfl wd_L_put_1 ?_
  refine lv_topi (fun v1 ev1 => ?_)
  have hf := wc_st_e ev1 hf
  refine lv_if_le (tgt := 19) hx hb wd_L_put_4 (by decide) (fun c2 => ?_) (fun c2 => ?_)
  · have hf := wc_t c2 hf
    exact J19 a1 σ hf _ _ _ hP hD hS (lv_sub hl [0, 1] rfl)
  · have hf := wc_f c2 hf
    refine lv_aload_n hx hb wd_L_put_7 rfl (lv_at hl 0 rfl) ?_
    refine lv_iload_n hx hb wd_L_put_8 rfl (lv_at hl 1 rfl) ?_
    obtain ⟨r17, σ16, hq, hf⟩ := wc_b2_e hf
    refine wx_calli (va_runV (As := [.int a1]) (rest := []) ⟨hx, hb, hml, hown, hts⟩ (wm_L_isWornWith l D ad cI cZ cJ cG _ b hb_ a1 σ _ hq) (wx_cwV 1 hts wt_497 wt_496 wp_19 wt_5 wt_494 wh_L_isWornWith rfl rfl ⟨Nat.le_of_ble_eq_true rfl, Nat.le_of_ble_eq_true rfl⟩) (wx_preV hK hP hD hS hA hC (wx_Ll0 hb_) (wx_L0 hb_ _) rfl) rfl rfl hl.1 rfl (lv_room (Nat.le_of_ble_eq_true rfl)) wd_L_put_9 ⟨Nat.le_of_ble_eq_true rfl, Nat.le_of_ble_eq_true rfl⟩) hD hS hA (fun H locs hP hD hS => ?_)
    refine lv_if_eq (tgt := 19) hx hb wd_L_put_12 (by decide) (fun c18 => ?_) (fun c18 => ?_)
    · have hf := wc_t c18 hf
      exact J19 a1 σ16 hf _ _ _ hP hD hS (lv_sub hl [0, 1] rfl)
    · have hf := wc_f c18 hf
      refine lv_iconst (v := 1) hx hb wd_L_put_15 (by decide) ?_
      refine lv_goto (tgt := 20) hx hb wd_L_put_16 (by decide) ?_
      exact J20 a1 1 σ16 hf _ _ _ hP hD hS (lv_sub hl [0, 1] rfl)
set_option maxHeartbeats 4000000 in
set_option maxRecDepth 100000 in
theorem wm_L_takeBack (l : Launch) (D : va_G) (ad : Nat → Nat) (cI cZ cJ cG : ClassId) (sz : Nat) (b : Nat) (hb_ : b = 30 ∨ b = 49) (σ : wc_S) (res : wc_S) (hf : wf_L_takeBack b σ = some res) : Met l wy_L_takeBack (wx_ws_L_takeBack) ({ frames := 0, cells := 0, slots := 0, locals := 0 }) (va_Pc [.ref (ad b)] (wx_pre D ad cI cZ cJ cG σ sz)) (wx_Qv D ad cI cZ cJ cG res (va_A (wx_W ad cI cZ cJ cG σ) sz)) 0 0 (va_A (wx_W ad cI cZ cJ cG σ) sz) := by
  refine wx_ofW (cc := prog_3_method_10_code) (maxL := 1) (ret := none) (Qc := fun A => wx_Qv D ad cI cZ cJ cG res A) [.ref (ad b)] (by decide) rfl (Nat.le_of_ble_eq_true rfl) ?_
  intro p e s m args below meth c A ls hin hl
  obtain ⟨hx, hb, hr, hts, hown, hlocks, hml, hA, hP, hK, hD, hC, hN, hS⟩ := hin
  have hl : lv_has ls 1 [(0, .ref (ad b))] := hl
  unfold wf_L_takeBack at hf
  refine lv_aload_n hx hb wd_L_takeBack_0 rfl (lv_at hl 0 rfl) ?_
  refine wx_get (v := .int (σ b 9)) (C := "WidthCampaigns$Line") (T := wx_TL) (N' := 10) hx hb hts wi_L hown hK hP b (wx_Ll0 hb_) (wx_L0 hb_ _) rfl 9 (by decide) wt_165 (fun _ h9 => h9) rfl wd_L_takeBack_1 ?_
  refine lv_topi (fun v1 ev1 => ?_)
  have hf := wc_st_e ev1 hf
  refine lv_if_le (tgt := 32) hx hb wd_L_takeBack_4 (by decide) (fun c2 => ?_) (fun c2 => ?_)
  · have hf := wc_t c2 hf
    exact wx_vret hx hb hr hlocks hf hP hS wd_L_takeBack_32
  · have hf := wc_f c2 hf
    refine lv_aload_n hx hb wd_L_takeBack_7 rfl (lv_at hl 0 rfl) ?_
    refine lv_dup hx hb wd_L_takeBack_8 rfl ?_
    refine wx_get (v := .int (σ b 9)) (C := "WidthCampaigns$Line") (T := wx_TL) (N' := 10) hx hb hts wi_L hown hK hP b (wx_Ll0 hb_) (wx_L0 hb_ _) rfl 9 (by decide) wt_165 (fun _ h9 => h9) rfl wd_L_takeBack_9 ?_
    refine lv_topi (fun v3 ev3 => ?_)
    have hf := wc_st_e ev3 hf
    refine lv_iconst (v := 1) hx hb wd_L_takeBack_12 (by decide) ?_
    refine lv_isub hx hb wd_L_takeBack_13 ?_
    refine lv_topi (fun v4 ev4 => ?_)
    have hf := wc_st_e ev4 hf
    refine wx_put (x := v4) (ty := .int) (C := "WidthCampaigns$Line") (T := wx_TL) (N' := 10) hx hb hts wi_L wx_tL wx_toL wx_nL hown hK hP hD hS b (wx_Ll0 hb_) (fun _ => (wx_L0 hb_ _)) rfl 9 (by decide) wt_165 (fun _ h9 => h9) rfl (by decide +kernel) rfl rfl (Nat.le_of_ble_eq_true rfl) rfl wd_L_takeBack_14 (fun σ5 H locs eσ5 hP hD hS => ?_)
    have hf := wc_st_e eσ5 hf
    refine lv_aload_n hx hb wd_L_takeBack_17 rfl (lv_at hl 0 rfl) ?_
    refine wx_get (v := .ref (ad (b + 2))) (C := "WidthCampaigns$Line") (T := wx_TL) (N' := 10) hx hb hts wi_L hown hK hP b (wx_Ll0 hb_) (wx_L0 hb_ _) rfl 2 (by decide) wt_157 (fun _ h9 => h9) rfl wd_L_takeBack_18 ?_
    refine lv_aload_n hx hb wd_L_takeBack_21 rfl (lv_at hl 0 rfl) ?_
    refine wx_get (v := .ref (ad (b + 1))) (C := "WidthCampaigns$Line") (T := wx_TL) (N' := 10) hx hb hts wi_L hown hK hP b (wx_Ll0 hb_) (wx_L0 hb_ _) rfl 1 (by decide) wt_154 (fun _ h9 => h9) rfl wd_L_takeBack_22 ?_
    refine lv_aload_n hx hb wd_L_takeBack_25 rfl (lv_at hl 0 rfl) ?_
    refine wx_get (v := .int (σ5 b 9)) (C := "WidthCampaigns$Line") (T := wx_TL) (N' := 10) hx hb hts wi_L hown hK hP b (wx_Ll0 hb_) (wx_L0 hb_ _) rfl 9 (by decide) wt_165 (fun _ h9 => h9) rfl wd_L_takeBack_26 ?_
    refine lv_topi (fun v6 ev6 => ?_)
    have hf := wc_st_e ev6 hf
    obtain ⟨h7, hf⟩ := wc_gd_e hf
    refine wx_iald hx hb hK hP (b + 1) (n := 9) (wx_Ll1 hb_) (wx_L1 hb_ _) (wc_in_e h7) wd_L_takeBack_29 ?_
    refine lv_topi (fun v8 ev8 => ?_)
    have hf := wc_st_e ev8 hf
    refine lv_iconst (v := 0) hx hb wd_L_takeBack_30 (by decide) ?_
    obtain ⟨h9, hf⟩ := wc_gd_e hf
    refine wx_zast hx hb hK hP hD hS (b + 2) (n := 9) (wx_Ll2 hb_) (fun _ => (wx_L2 hb_ _)) h9 wd_L_takeBack_31 (fun σ10 H locs eσ10 hP hD hS => ?_)
    have hf := wc_st_e eσ10 hf
    exact wx_vret hx hb hr hlocks hf hP hS wd_L_takeBack_32
set_option maxHeartbeats 4000000 in
set_option maxRecDepth 100000 in
theorem wm_L_layAll (l : Launch) (D : va_G) (ad : Nat → Nat) (cI cZ cJ cG : ClassId) (sz : Nat) (b : Nat) (hb_ : b = 30 ∨ b = 49) (k1 : Nat) (hk1_ : k1 = 69 ∨ k1 = 70) (σ : wc_S) (res : Int32 × wc_S) (hf : wf_L_layAll b k1 σ = some res) : Met l wy_L_layAll (wx_ws_L_layAll) ({ frames := 3, cells := 0, slots := 0, locals := 70 }) (va_Pc [.ref (ad b), .ref (ad k1)] (wx_pre D ad cI cZ cJ cG σ sz)) (wx_Qi D ad cI cZ cJ cG res (va_A (wx_W ad cI cZ cJ cG σ) sz)) 0 0 (va_A (wx_W ad cI cZ cJ cG σ) sz) := by
  refine wx_ofW (cc := prog_3_method_6_code) (maxL := 3) (ret := (some .boolean)) (Qc := fun A => wx_Qi D ad cI cZ cJ cG res A) [.ref (ad b), .ref (ad k1)] (by decide) rfl (Nat.le_of_ble_eq_true rfl) ?_
  intro p e s m args below meth c A ls hin hl
  obtain ⟨hx, hb, hr, hts, hown, hlocks, hml, hA, hP, hK, hD, hC, hN, hS⟩ := hin
  have hl : lv_has ls 3 [(0, .ref (ad b)), (1, .ref (ad k1))] := hl
  have J6 : ∀ (n : Nat) (x2 : Int32) (σ : wc_S), wf_L_layAll_6 b k1 n x2 σ = some res → wx_Arr p l e ({ frames := 3, cells := 0, slots := 0, locals := 70 }) s m args below meth c D ad cI cZ cJ cG A (MQ below (wx_Qi D ad cI cZ cJ cG res A) args s 0 0 A) 3 0 0 6 [(0, .ref (ad b)), (1, .ref (ad k1)), (2, .int x2)] [] σ := by
    intro  n
    induction n with
    | zero => intro x2 σ hf; exact absurd hf (by intro h9; cases h9)
    | succ n hk6 =>
      intro x2 σ hf H locs ls hP hD hS hl
      have hf : wf_L_layAll_6_b b k1 (wf_L_layAll_6 b k1 n) x2 σ = some res := hf
      unfold wf_L_layAll_6_b at hf
      refine lv_iload_n hx hb wd_L_layAll_6 rfl (lv_at hl 2 rfl) ?_
      refine lv_aload_n hx hb wd_L_layAll_7 rfl (lv_at hl 0 rfl) ?_
      refine wx_get (v := .ref (ad 1)) (C := "WidthCampaigns$Line") (T := wx_TL) (N' := 10) hx hb hts wi_L hown hK hP b (wx_Ll0 hb_) (wx_L0 hb_ _) rfl 0 (by decide) wt_153 (fun _ h9 => h9) rfl wd_L_layAll_8 ?_
      refine wx_getN (v := .int (σ 1 10)) (C := "WidthCampaigns$Plant") (T := wx_TP) (N' := 15) hx hb hts wi_P hown hK hP 1 (by decide) rfl rfl 10 (by decide) (hN.1 _ (List.mem_of_getElem? (i := 16) rfl) #[]) (fun _ h9 => h9) rfl wd_L_layAll_11 ?_
      refine lv_topi (fun v2 ev2 => ?_)
      have hf := wc_st_e ev2 hf
      refine lv_icmp_ge (tgt := 42) hx hb wd_L_layAll_14 (by decide) (fun c3 => ?_) (fun c3 => ?_)
      · have hf := wc_t c3 hf
        refine lv_iconst (v := 1) hx hb wd_L_layAll_42 (by decide) ?_
        exact wx_zret hx hb hr narrow_b1 hlocks hf hP hS wd_L_layAll_43
      · have hf := wc_f c3 hf
        refine lv_aload_n hx hb wd_L_layAll_17 rfl (lv_at hl 0 rfl) ?_
        refine lv_aload_n hx hb wd_L_layAll_18 rfl (lv_at hl 1 rfl) ?_
        refine lv_iload_n hx hb wd_L_layAll_19 rfl (lv_at hl 2 rfl) ?_
        obtain ⟨h4, hf⟩ := wc_gd_e hf
        refine wx_iald hx hb hK hP k1 (n := 9) (wx_Al hk1_) (wx_A hk1_ _) (wc_in_e h4) wd_L_layAll_20 ?_
        refine lv_topi (fun v5 ev5 => ?_)
        have hf := wc_st_e ev5 hf
        obtain ⟨r7, σ6, hq, hf⟩ := wc_b2_e hf
        refine wx_calli (va_runV (As := [.int v5]) (rest := []) ⟨hx, hb, hml, hown, hts⟩ (wm_L_mayPut l D ad cI cZ cJ cG _ b hb_ v5 σ _ hq) (wx_cwV 1 hts wt_481 wt_480 wp_15 wt_5 wt_519 wh_L_mayPut rfl rfl ⟨Nat.le_of_ble_eq_true rfl, Nat.le_of_ble_eq_true rfl⟩) (wx_preV hK hP hD hS hA hC (wx_Ll0 hb_) (wx_L0 hb_ _) rfl) rfl rfl hl.1 rfl (lv_room (Nat.le_of_ble_eq_true rfl)) wd_L_layAll_21 ⟨Nat.le_of_ble_eq_true rfl, Nat.le_of_ble_eq_true rfl⟩) hD hS hA (fun H locs hP hD hS => ?_)
        refine lv_if_ne (tgt := 29) hx hb wd_L_layAll_24 (by decide) (fun c8 => ?_) (fun c8 => ?_)
        · have hf := wc_f c8 hf
          refine lv_aload_n hx hb wd_L_layAll_29 rfl (lv_at hl 0 rfl) ?_
          refine lv_aload_n hx hb wd_L_layAll_30 rfl (lv_at hl 1 rfl) ?_
          refine lv_iload_n hx hb wd_L_layAll_31 rfl (lv_at hl 2 rfl) ?_
          obtain ⟨h9, hf⟩ := wc_gd_e hf
          refine wx_iald hx hb hK hP k1 (n := 9) (wx_Al hk1_) (wx_A hk1_ _) (wc_in_e h9) wd_L_layAll_32 ?_
          refine lv_topi (fun v10 ev10 => ?_)
          have hf := wc_st_e ev10 hf
          obtain ⟨σ11, hq, hf⟩ := wc_b1_e hf
          refine wx_callv (va_runV (As := [.int v10]) (rest := []) ⟨hx, hb, hml, hown, hts⟩ (wm_L_put l D ad cI cZ cJ cG _ b hb_ v10 σ6 _ hq) (wx_cwV 1 hts wt_493 wt_492 wp_18 wt_5 wt_520 wh_L_put rfl rfl ⟨Nat.le_of_ble_eq_true rfl, Nat.le_of_ble_eq_true rfl⟩) (wx_preV hK hP hD hS hA hC (wx_Ll0 hb_) (wx_L0 hb_ _) rfl) rfl rfl hl.1 rfl (lv_room (Nat.le_of_ble_eq_true rfl)) wd_L_layAll_33 ⟨Nat.le_of_ble_eq_true rfl, Nat.le_of_ble_eq_true rfl⟩) hD hS hA (fun H locs hP hD hS => ?_)
          obtain ⟨v12, ev12⟩ : ∃ y : Int32, y = x2 + 1 := ⟨_, rfl⟩
          have hf := wc_st_e ev12 hf
          refine lv_iinc (v := v12) (lv' := [(2, .int v12), (0, .ref (ad b)), (1, .ref (ad k1))]) hx hb wd_L_layAll_36 hl (k := 2) rfl (by rw [ev12]; rfl) (by decide) rfl (fun ls hl => ?_)
          refine lv_goto (tgt := 6) hx hb wd_L_layAll_39 (by decide) ?_
          exact hk6 v12 σ11 hf _ _ _ hP hD hS (lv_sub hl [1, 2, 0] rfl)
        · have hf := wc_t c8 hf
          refine lv_iconst (v := 0) hx hb wd_L_layAll_27 (by decide) ?_
          exact wx_zret hx hb hr narrow_b0 hlocks hf hP hS wd_L_layAll_28
  unfold wf_L_layAll at hf
  refine lv_aload_n hx hb wd_L_layAll_0 rfl (lv_at hl 0 rfl) ?_
  obtain ⟨σ1, hq, hf⟩ := wc_b1_e hf
  refine wx_callv (va_runV (As := []) (rest := []) ⟨hx, hb, hml, hown, hts⟩ (wm_L_clear l D ad cI cZ cJ cG _ b hb_ σ _ hq) (wx_cwV 0 hts wt_462 wt_461 wp_11 wt_5 wt_518 wh_L_clear rfl rfl ⟨Nat.le_of_ble_eq_true rfl, Nat.le_of_ble_eq_true rfl⟩) (wx_preV hK hP hD hS hA hC (wx_Ll0 hb_) (wx_L0 hb_ _) rfl) rfl rfl hl.1 rfl (lv_room (Nat.le_of_ble_eq_true rfl)) wd_L_layAll_1 ⟨Nat.le_of_ble_eq_true rfl, Nat.le_of_ble_eq_true rfl⟩) hD hS hA (fun H locs hP hD hS => ?_)
  refine lv_iconst (v := 0) hx hb wd_L_layAll_4 (by decide) ?_
  refine lv_istore_n (lv' := [(2, .int 0), (0, .ref (ad b)), (1, .ref (ad k1))]) hx hb wd_L_layAll_5 rfl hl (by decide) rfl (fun ls hl => ?_)
  exact J6 16 0 σ1 hf _ _ _ hP hD hS (lv_sub hl [1, 2, 0] rfl)
set_option maxHeartbeats 4000000 in
set_option maxRecDepth 100000 in
theorem wm_S_keepBest (l : Launch) (D : va_G) (ad : Nat → Nat) (cI cZ cJ cG : ClassId) (sz : Nat) (σ : wc_S) (res : wc_S) (hf : wf_S_keepBest  σ = some res) : Met l wy_S_keepBest (wx_ws_S_keepBest) ({ frames := 1, cells := 0, slots := 0, locals := 60 }) (va_Pc [.ref (ad 68)] (wx_pre D ad cI cZ cJ cG σ sz)) (wx_Qv D ad cI cZ cJ cG res (va_A (wx_W ad cI cZ cJ cG σ) sz)) 0 0 (va_A (wx_W ad cI cZ cJ cG σ) sz) := by
  refine wx_ofW (cc := prog_5_method_5_code) (maxL := 1) (ret := none) (Qc := fun A => wx_Qv D ad cI cZ cJ cG res A) [.ref (ad 68)] (by decide) rfl (Nat.le_of_ble_eq_true rfl) ?_
  intro p e s m args below meth c A ls hin hl
  obtain ⟨hx, hb, hr, hts, hown, hlocks, hml, hA, hP, hK, hD, hC, hN, hS⟩ := hin
  have hl : lv_has ls 1 [(0, .ref (ad 68))] := hl
  unfold wf_S_keepBest at hf
  refine lv_aload_n hx hb wd_S_keepBest_0 rfl (lv_at hl 0 rfl) ?_
  refine lv_iconst (v := 1) hx hb wd_S_keepBest_1 (by decide) ?_
  refine wx_put (x := 1) (ty := .boolean) (C := "WidthCampaigns$Search") (T := wx_TS) (N' := 7) hx hb hts wi_S wx_tS wx_toS wx_nS hown hK hP hD hS 68 (by decide) (fun _ => rfl) rfl 5 (by decide) wt_200 (fun _ h9 => h9) rfl (by decide +kernel) narrow_b1 rfl (Nat.le_of_ble_eq_true rfl) rfl wd_S_keepBest_2 (fun σ1 H locs eσ1 hP hD hS => ?_)
  have hf := wc_st_e eσ1 hf
  refine lv_aload_n hx hb wd_S_keepBest_5 rfl (lv_at hl 0 rfl) ?_
  refine lv_aload_n hx hb wd_S_keepBest_6 rfl (lv_at hl 0 rfl) ?_
  refine wx_get (v := .ref (ad 30)) (C := "WidthCampaigns$Search") (T := wx_TS) (N' := 7) hx hb hts wi_S hown hK hP 68 (by decide) rfl rfl 1 (by decide) wt_195 (fun _ h9 => h9) rfl wd_S_keepBest_7 ?_
  obtain ⟨r3, σ2, hq, hf⟩ := wc_b2_e hf
  refine wx_calli (va_runVN (As := []) (rest := [.ref (ad 68)]) ⟨hx, hb, hml, hown, hts⟩ (wm_L_penaltySoFar l D ad cI cZ cJ cG _ 30 (Or.inl rfl) σ1 _ hq) (wx_cwN 0 hts wt_474 wt_473 wp_14 wt_5 (hN.1 _ (List.mem_of_getElem? (i := 17) rfl) #[]) wh_L_penaltySoFar rfl rfl ⟨Nat.le_of_ble_eq_true rfl, Nat.le_of_ble_eq_true rfl⟩) (wx_preV hK hP hD hS hA hC (by decide) rfl rfl) rfl rfl hl.1 rfl (lv_room (Nat.le_of_ble_eq_true rfl)) wd_S_keepBest_10 ⟨Nat.le_of_ble_eq_true rfl, Nat.le_of_ble_eq_true rfl⟩) hD hS hA (fun H locs hP hD hS => ?_)
  refine wx_put (x := r3) (ty := .int) (C := "WidthCampaigns$Search") (T := wx_TS) (N' := 7) hx hb hts wi_S wx_tS wx_toS wx_nS hown hK hP hD hS 68 (by decide) (fun _ => rfl) rfl 3 (by decide) wt_198 (fun _ h9 => h9) rfl (by decide +kernel) rfl rfl (Nat.le_of_ble_eq_true rfl) rfl wd_S_keepBest_13 (fun σ4 H locs eσ4 hP hD hS => ?_)
  have hf := wc_st_e eσ4 hf
  refine lv_aload_n hx hb wd_S_keepBest_16 rfl (lv_at hl 0 rfl) ?_
  refine wx_get (v := .ref (ad 30)) (C := "WidthCampaigns$Search") (T := wx_TS) (N' := 7) hx hb hts wi_S hown hK hP 68 (by decide) rfl rfl 1 (by decide) wt_195 (fun _ h9 => h9) rfl wd_S_keepBest_17 ?_
  refine wx_getN (v := .ref (ad 31)) (C := "WidthCampaigns$Line") (T := wx_TL) (N' := 10) hx hb hts wi_L hown hK hP 30 (by decide) rfl rfl 1 (by decide) (hN.1 _ (List.mem_of_getElem? (i := 18) rfl) #[]) (fun _ h9 => h9) rfl wd_S_keepBest_20 ?_
  refine lv_iconst (v := 0) hx hb wd_S_keepBest_23 (by decide) ?_
  refine lv_aload_n hx hb wd_S_keepBest_24 rfl (lv_at hl 0 rfl) ?_
  refine wx_get (v := .ref (ad 69)) (C := "WidthCampaigns$Search") (T := wx_TS) (N' := 7) hx hb hts wi_S hown hK hP 68 (by decide) rfl rfl 2 (by decide) wt_196 (fun _ h9 => h9) rfl wd_S_keepBest_25 ?_
  refine lv_iconst (v := 0) hx hb wd_S_keepBest_28 (by decide) ?_
  refine lv_aload_n hx hb wd_S_keepBest_29 rfl (lv_at hl 0 rfl) ?_
  refine wx_get (v := .ref (ad 1)) (C := "WidthCampaigns$Search") (T := wx_TS) (N' := 7) hx hb hts wi_S hown hK hP 68 (by decide) rfl rfl 0 (by decide) wt_194 (fun _ h9 => h9) rfl wd_S_keepBest_30 ?_
  refine wx_getN (v := .int (σ4 1 10)) (C := "WidthCampaigns$Plant") (T := wx_TP) (N' := 15) hx hb hts wi_P hown hK hP 1 (by decide) rfl rfl 10 (by decide) (hN.1 _ (List.mem_of_getElem? (i := 19) rfl) #[]) (fun _ h9 => h9) rfl wd_S_keepBest_33 ?_
  refine lv_topi (fun v5 ev5 => ?_)
  have hf := wc_st_e ev5 hf
  obtain ⟨h6, hf⟩ := wc_gd_e hf
  refine wx_copy hx hb (hml.trans hl.1.symm) hown (wx_hw hts wt_475) (wx_hw hts wt_477) (wx_hw hts wt_476) (wx_hw hts wt_15) hK hP hD hS 31 69 (by decide) (by decide) (fun _ => rfl) (fun _ => rfl) h6 (Nat.le_of_ble_eq_true rfl) (Nat.le_of_ble_eq_true rfl) wd_S_keepBest_36 (fun σ7 H locs eσ7 hP hD hS => ?_)
  have hf := wc_st_e eσ7 hf
  exact wx_vret hx hb hr hlocks hf hP hS wd_S_keepBest_39
set_option maxHeartbeats 4000000 in
set_option maxRecDepth 100000 in
theorem wm_S_putAndGoOn (l : Launch) (D : va_G) (ad : Nat → Nat) (cI cZ cJ cG : ClassId) (d : Nat) (g : Int32 → wc_S → Option wc_S) (hg : ∀ (sz : Nat) (a1 : Int32) (σ : wc_S) (res : wc_S), g a1 σ = some res → Met l wy_S_goOnAt (wx_ws_S_goOnAt) ({ frames := 2 * d + 3, cells := 0, slots := 0, locals := 44 * d + 80 }) (va_Pc [.ref (ad 68), .int a1] (wx_pre D ad cI cZ cJ cG σ sz)) (wx_Qv D ad cI cZ cJ cG res (va_A (wx_W ad cI cZ cJ cG σ) sz)) 0 0 (va_A (wx_W ad cI cZ cJ cG σ) sz)) (sz : Nat) (a1 : Int32) (a2 : Int32) (σ : wc_S) (res : wc_S) (hf : wf_S_putAndGoOn g a1 a2 σ = some res) : Met l wy_S_putAndGoOn (wx_ws_S_putAndGoOn) ({ frames := 2 * d + 4, cells := 0, slots := 0, locals := 44 * d + 102 }) (va_Pc [.ref (ad 68), .int a1, .int a2] (wx_pre D ad cI cZ cJ cG σ sz)) (wx_Qv D ad cI cZ cJ cG res (va_A (wx_W ad cI cZ cJ cG σ) sz)) 0 0 (va_A (wx_W ad cI cZ cJ cG σ) sz) := by
  refine wx_ofW (cc := prog_5_method_4_code) (maxL := 3) (ret := none) (Qc := fun A => wx_Qv D ad cI cZ cJ cG res A) [.ref (ad 68), .int a1, .int a2] (by decide) rfl (Nat.le_of_ble_eq_true rfl) ?_
  intro p e s m args below meth c A ls hin hl
  obtain ⟨hx, hb, hr, hts, hown, hlocks, hml, hA, hP, hK, hD, hC, hN, hS⟩ := hin
  have hl : lv_has ls 3 [(0, .ref (ad 68)), (1, .int a1), (2, .int a2)] := hl
  have J52 : ∀ (σ : wc_S), wf_S_putAndGoOn_52 g  σ = some res → wx_Arr p l e ({ frames := 2 * d + 4, cells := 0, slots := 0, locals := 44 * d + 102 }) s m args below meth c D ad cI cZ cJ cG A (MQ below (wx_Qv D ad cI cZ cJ cG res A) args s 0 0 A) 3 0 0 52 [(0, .ref (ad 68))] [] σ := by
    intro   σ hf H locs ls hP hD hS hl
    unfold wf_S_putAndGoOn_52 at hf
    refine lv_aload_n hx hb wd_S_putAndGoOn_52 rfl (lv_at hl 0 rfl) ?_
    refine wx_get (v := .ref (ad 30)) (C := "WidthCampaigns$Search") (T := wx_TS) (N' := 7) hx hb hts wi_S hown hK hP 68 (by decide) rfl rfl 1 (by decide) wt_195 (fun _ h9 => h9) rfl wd_S_putAndGoOn_53 ?_
    obtain ⟨σ11, hq, hf⟩ := wc_b1_e hf
    refine wx_callv (va_runVN (As := []) (rest := []) ⟨hx, hb, hml, hown, hts⟩ (wm_L_takeBack l D ad cI cZ cJ cG _ 30 (Or.inl rfl) σ _ hq) (wx_cwN 0 hts wt_513 wt_512 wp_23 wt_5 (hN.1 _ (List.mem_of_getElem? (i := 21) rfl) #[]) wh_L_takeBack rfl rfl ⟨by simp only []; omega, by simp only []; omega⟩) (wx_preV hK hP hD hS hA hC (by decide) rfl rfl) rfl rfl hl.1 rfl (lv_room (Nat.le_of_ble_eq_true rfl)) wd_S_putAndGoOn_56 ⟨Nat.le_of_ble_eq_true rfl, Nat.le_of_ble_eq_true rfl⟩) hD hS hA (fun H locs hP hD hS => ?_)
    exact wx_vret hx hb hr hlocks hf hP hS wd_S_putAndGoOn_59
  unfold wf_S_putAndGoOn at hf
  refine lv_aload_n hx hb wd_S_putAndGoOn_0 rfl (lv_at hl 0 rfl) ?_
  refine wx_get (v := .int (σ 68 4)) (C := "WidthCampaigns$Search") (T := wx_TS) (N' := 7) hx hb hts wi_S hown hK hP 68 (by decide) rfl rfl 4 (by decide) wt_199 (fun _ h9 => h9) rfl wd_S_putAndGoOn_1 ?_
  refine lv_topi (fun v1 ev1 => ?_)
  have hf := wc_st_e ev1 hf
  refine lv_if_gt (tgt := 13) hx hb wd_S_putAndGoOn_4 (by decide) (fun c2 => ?_) (fun c2 => ?_)
  · have hf := wc_t c2 hf
    refine lv_aload_n hx hb wd_S_putAndGoOn_13 rfl (lv_at hl 0 rfl) ?_
    refine lv_dup hx hb wd_S_putAndGoOn_14 rfl ?_
    refine wx_get (v := .int (σ 68 4)) (C := "WidthCampaigns$Search") (T := wx_TS) (N' := 7) hx hb hts wi_S hown hK hP 68 (by decide) rfl rfl 4 (by decide) wt_199 (fun _ h9 => h9) rfl wd_S_putAndGoOn_15 ?_
    refine lv_topi (fun v3 ev3 => ?_)
    have hf := wc_st_e ev3 hf
    refine lv_iconst (v := 1) hx hb wd_S_putAndGoOn_18 (by decide) ?_
    refine lv_isub hx hb wd_S_putAndGoOn_19 ?_
    refine lv_topi (fun v4 ev4 => ?_)
    have hf := wc_st_e ev4 hf
    refine wx_put (x := v4) (ty := .int) (C := "WidthCampaigns$Search") (T := wx_TS) (N' := 7) hx hb hts wi_S wx_tS wx_toS wx_nS hown hK hP hD hS 68 (by decide) (fun _ => rfl) rfl 4 (by decide) wt_199 (fun _ h9 => h9) rfl (by decide +kernel) rfl rfl (Nat.le_of_ble_eq_true rfl) rfl wd_S_putAndGoOn_20 (fun σ5 H locs eσ5 hP hD hS => ?_)
    have hf := wc_st_e eσ5 hf
    refine lv_aload_n hx hb wd_S_putAndGoOn_23 rfl (lv_at hl 0 rfl) ?_
    refine wx_get (v := .ref (ad 30)) (C := "WidthCampaigns$Search") (T := wx_TS) (N' := 7) hx hb hts wi_S hown hK hP 68 (by decide) rfl rfl 1 (by decide) wt_195 (fun _ h9 => h9) rfl wd_S_putAndGoOn_24 ?_
    refine lv_iload_n hx hb wd_S_putAndGoOn_27 rfl (lv_at hl 1 rfl) ?_
    obtain ⟨σ6, hq, hf⟩ := wc_b1_e hf
    refine wx_callv (va_runVN (As := [.int a1]) (rest := []) ⟨hx, hb, hml, hown, hts⟩ (wm_L_put l D ad cI cZ cJ cG _ 30 (Or.inl rfl) a1 σ5 _ hq) (wx_cwN 1 hts wt_493 wt_492 wp_18 wt_5 (hN.1 _ (List.mem_of_getElem? (i := 20) rfl) #[]) wh_L_put rfl rfl ⟨by simp only []; omega, by simp only []; omega⟩) (wx_preV hK hP hD hS hA hC (by decide) rfl rfl) rfl rfl hl.1 rfl (lv_room (Nat.le_of_ble_eq_true rfl)) wd_S_putAndGoOn_28 ⟨Nat.le_of_ble_eq_true rfl, Nat.le_of_ble_eq_true rfl⟩) hD hS hA (fun H locs hP hD hS => ?_)
    refine lv_aload_n hx hb wd_S_putAndGoOn_31 rfl (lv_at hl 0 rfl) ?_
    refine wx_get (v := .ref (ad 30)) (C := "WidthCampaigns$Search") (T := wx_TS) (N' := 7) hx hb hts wi_S hown hK hP 68 (by decide) rfl rfl 1 (by decide) wt_195 (fun _ h9 => h9) rfl wd_S_putAndGoOn_32 ?_
    obtain ⟨r8, σ7, hq, hf⟩ := wc_b2_e hf
    refine wx_calli (va_runVN (As := []) (rest := []) ⟨hx, hb, hml, hown, hts⟩ (wm_L_penaltySoFar l D ad cI cZ cJ cG _ 30 (Or.inl rfl) σ6 _ hq) (wx_cwN 0 hts wt_474 wt_473 wp_14 wt_5 (hN.1 _ (List.mem_of_getElem? (i := 17) rfl) #[]) wh_L_penaltySoFar rfl rfl ⟨by simp only []; omega, by simp only []; omega⟩) (wx_preV hK hP hD hS hA hC (by decide) rfl rfl) rfl rfl hl.1 rfl (lv_room (Nat.le_of_ble_eq_true rfl)) wd_S_putAndGoOn_35 ⟨Nat.le_of_ble_eq_true rfl, Nat.le_of_ble_eq_true rfl⟩) hD hS hA (fun H locs hP hD hS => ?_)
    refine lv_aload_n hx hb wd_S_putAndGoOn_38 rfl (lv_at hl 0 rfl) ?_
    refine wx_get (v := .int (σ7 68 3)) (C := "WidthCampaigns$Search") (T := wx_TS) (N' := 7) hx hb hts wi_S hown hK hP 68 (by decide) rfl rfl 3 (by decide) wt_198 (fun _ h9 => h9) rfl wd_S_putAndGoOn_39 ?_
    refine lv_topi (fun v9 ev9 => ?_)
    have hf := wc_st_e ev9 hf
    refine lv_icmp_ge (tgt := 52) hx hb wd_S_putAndGoOn_42 (by decide) (fun c10 => ?_) (fun c10 => ?_)
    · have hf := wc_t c10 hf
      exact J52  σ7 hf _ _ _ hP hD hS (lv_sub hl [0] rfl)
    · have hf := wc_f c10 hf
      refine lv_aload_n hx hb wd_S_putAndGoOn_45 rfl (lv_at hl 0 rfl) ?_
      refine lv_iload_n hx hb wd_S_putAndGoOn_46 rfl (lv_at hl 2 rfl) ?_
      refine lv_iconst (v := 1) hx hb wd_S_putAndGoOn_47 (by decide) ?_
      refine lv_iadd hx hb wd_S_putAndGoOn_48 ?_
      refine lv_topi (fun v12 ev12 => ?_)
      have hf := wc_st_e ev12 hf
      obtain ⟨σ13, hq, hf⟩ := wc_b1_e hf
      refine wx_callv (va_runV (As := [.int v12]) (rest := []) ⟨hx, hb, hml, hown, hts⟩ (hg _ v12 σ7 _ hq) (wx_cwV 1 hts wt_466 wt_465 wp_12 wt_6 wt_463 wh_S_goOnAt rfl rfl ⟨by simp only []; omega, by simp only []; omega⟩) (wx_preV hK hP hD hS hA hC (by decide) rfl rfl) rfl rfl hl.1 rfl (lv_room (Nat.le_of_ble_eq_true rfl)) wd_S_putAndGoOn_49 ⟨Nat.le_of_ble_eq_true rfl, Nat.le_of_ble_eq_true rfl⟩) hD hS hA (fun H locs hP hD hS => ?_)
      exact J52  σ13 hf _ _ _ hP hD hS (lv_sub hl [0] rfl)
  · have hf := wc_f c2 hf
    refine lv_aload_n hx hb wd_S_putAndGoOn_7 rfl (lv_at hl 0 rfl) ?_
    refine lv_iconst (v := 1) hx hb wd_S_putAndGoOn_8 (by decide) ?_
    refine wx_put (x := 1) (ty := .boolean) (C := "WidthCampaigns$Search") (T := wx_TS) (N' := 7) hx hb hts wi_S wx_tS wx_toS wx_nS hown hK hP hD hS 68 (by decide) (fun _ => rfl) rfl 6 (by decide) wt_202 (fun _ h9 => h9) rfl (by decide +kernel) narrow_b1 rfl (Nat.le_of_ble_eq_true rfl) rfl wd_S_putAndGoOn_9 (fun σ14 H locs eσ14 hP hD hS => ?_)
    have hf := wc_st_e eσ14 hf
    exact wx_vret hx hb hr hlocks hf hP hS wd_S_putAndGoOn_12
set_option maxHeartbeats 4000000 in
set_option maxRecDepth 100000 in
theorem wm_S_goOnAt_r (l : Launch) (D : va_G) (ad : Nat → Nat) (cI cZ cJ cG : ClassId) (d : Nat) (g : Int32 → wc_S → Option wc_S) (hg : ∀ (sz : Nat) (a1 : Int32) (σ : wc_S) (res : wc_S), g a1 σ = some res → Met l wy_S_goOnAt (wx_ws_S_goOnAt) ({ frames := 2 * d + 3, cells := 0, slots := 0, locals := 44 * d + 80 }) (va_Pc [.ref (ad 68), .int a1] (wx_pre D ad cI cZ cJ cG σ sz)) (wx_Qv D ad cI cZ cJ cG res (va_A (wx_W ad cI cZ cJ cG σ) sz)) 0 0 (va_A (wx_W ad cI cZ cJ cG σ) sz)) (sz : Nat) (a1 : Int32) (σ : wc_S) (res : wc_S) (hf : wf_S_goOnAt_r g a1 σ = some res) : Met l wy_S_goOnAt (wx_ws_S_goOnAt) ({ frames := 2 * (d + 1) + 3, cells := 0, slots := 0, locals := 44 * (d + 1) + 80 }) (va_Pc [.ref (ad 68), .int a1] (wx_pre D ad cI cZ cJ cG σ sz)) (wx_Qv D ad cI cZ cJ cG res (va_A (wx_W ad cI cZ cJ cG σ) sz)) 0 0 (va_A (wx_W ad cI cZ cJ cG σ) sz) := by
  refine wx_ofW (cc := prog_5_method_3_code) (maxL := 3) (ret := none) (Qc := fun A => wx_Qv D ad cI cZ cJ cG res A) [.ref (ad 68), .int a1] (by decide) rfl (Nat.le_of_ble_eq_true rfl) ?_
  intro p e s m args below meth c A ls hin hl
  obtain ⟨hx, hb, hr, hts, hown, hlocks, hml, hA, hP, hK, hD, hC, hN, hS⟩ := hin
  have hl : lv_has ls 3 [(0, .ref (ad 68)), (1, .int a1)] := hl
  have J53 : ∀ (k18 : Int32 → Int32 → wc_S → Option wc_S) (hk18 : (∀ (x1 : Int32) (x2 : Int32) (σ : wc_S), k18 x1 x2 σ = some res → wx_Arr p l e ({ frames := 2 * (d + 1) + 3, cells := 0, slots := 0, locals := 44 * (d + 1) + 80 }) s m args below meth c D ad cI cZ cJ cG A (MQ below (wx_Qv D ad cI cZ cJ cG res A) args s 0 0 A) 3 0 0 18 [(0, .ref (ad 68)), (1, .int x1), (2, .int x2)] [] σ)) (x1 : Int32) (x2 : Int32) (σ : wc_S), wf_S_goOnAt_53 g k18 x1 x2 σ = some res → wx_Arr p l e ({ frames := 2 * (d + 1) + 3, cells := 0, slots := 0, locals := 44 * (d + 1) + 80 }) s m args below meth c D ad cI cZ cJ cG A (MQ below (wx_Qv D ad cI cZ cJ cG res A) args s 0 0 A) 3 0 0 53 [(0, .ref (ad 68)), (1, .int x1), (2, .int x2)] [] σ := by
    intro k18 hk18 x1 x2 σ hf H locs ls hP hD hS hl
    unfold wf_S_goOnAt_53 at hf
    obtain ⟨v10, ev10⟩ : ∃ y : Int32, y = x2 + 1 := ⟨_, rfl⟩
    have hf := wc_st_e ev10 hf
    refine lv_iinc (v := v10) (lv' := [(2, .int v10), (0, .ref (ad 68)), (1, .int x1)]) hx hb wd_S_goOnAt_53 hl (k := 2) rfl (by rw [ev10]; rfl) (by decide) rfl (fun ls hl => ?_)
    refine lv_goto (tgt := 18) hx hb wd_S_goOnAt_56 (by decide) ?_
    exact hk18 x1 v10 σ hf _ _ _ hP hD hS (lv_sub hl [1, 2, 0] rfl)
  have J18 : ∀ (n : Nat) (x1 : Int32) (x2 : Int32) (σ : wc_S), wf_S_goOnAt_18 g n x1 x2 σ = some res → wx_Arr p l e ({ frames := 2 * (d + 1) + 3, cells := 0, slots := 0, locals := 44 * (d + 1) + 80 }) s m args below meth c D ad cI cZ cJ cG A (MQ below (wx_Qv D ad cI cZ cJ cG res A) args s 0 0 A) 3 0 0 18 [(0, .ref (ad 68)), (1, .int x1), (2, .int x2)] [] σ := by
    intro  n
    induction n with
    | zero => intro x1 x2 σ hf; exact absurd hf (by intro h9; cases h9)
    | succ n hk18 =>
      intro x1 x2 σ hf H locs ls hP hD hS hl
      have hf : wf_S_goOnAt_18_b g (wf_S_goOnAt_18 g n) x1 x2 σ = some res := hf
      unfold wf_S_goOnAt_18_b at hf
      refine lv_iload_n hx hb wd_S_goOnAt_18 rfl (lv_at hl 2 rfl) ?_
      refine lv_aload_n hx hb wd_S_goOnAt_19 rfl (lv_at hl 0 rfl) ?_
      refine wx_get (v := .ref (ad 1)) (C := "WidthCampaigns$Search") (T := wx_TS) (N' := 7) hx hb hts wi_S hown hK hP 68 (by decide) rfl rfl 0 (by decide) wt_194 (fun _ h9 => h9) rfl wd_S_goOnAt_20 ?_
      refine wx_getN (v := .int (σ 1 10)) (C := "WidthCampaigns$Plant") (T := wx_TP) (N' := 15) hx hb hts wi_P hown hK hP 1 (by decide) rfl rfl 10 (by decide) (hN.1 _ (List.mem_of_getElem? (i := 19) rfl) #[]) (fun _ h9 => h9) rfl wd_S_goOnAt_23 ?_
      refine lv_topi (fun v3 ev3 => ?_)
      have hf := wc_st_e ev3 hf
      refine lv_icmp_ge (tgt := 59) hx hb wd_S_goOnAt_26 (by decide) (fun c4 => ?_) (fun c4 => ?_)
      · have hf := wc_t c4 hf
        exact wx_vret hx hb hr hlocks hf hP hS wd_S_goOnAt_59
      · have hf := wc_f c4 hf
        refine lv_aload_n hx hb wd_S_goOnAt_29 rfl (lv_at hl 0 rfl) ?_
        refine wx_get (v := .int (σ 68 6)) (C := "WidthCampaigns$Search") (T := wx_TS) (N' := 7) hx hb hts wi_S hown hK hP 68 (by decide) rfl rfl 6 (by decide) wt_202 (fun _ h9 => h9) rfl wd_S_goOnAt_30 ?_
        refine lv_topi (fun v5 ev5 => ?_)
        have hf := wc_st_e ev5 hf
        refine lv_if_ne (tgt := 59) hx hb wd_S_goOnAt_33 (by decide) (fun c6 => ?_) (fun c6 => ?_)
        · have hf := wc_f c6 hf
          exact wx_vret hx hb hr hlocks hf hP hS wd_S_goOnAt_59
        · have hf := wc_t c6 hf
          refine lv_aload_n hx hb wd_S_goOnAt_36 rfl (lv_at hl 0 rfl) ?_
          refine wx_get (v := .ref (ad 30)) (C := "WidthCampaigns$Search") (T := wx_TS) (N' := 7) hx hb hts wi_S hown hK hP 68 (by decide) rfl rfl 1 (by decide) wt_195 (fun _ h9 => h9) rfl wd_S_goOnAt_37 ?_
          refine lv_iload_n hx hb wd_S_goOnAt_40 rfl (lv_at hl 2 rfl) ?_
          obtain ⟨r8, σ7, hq, hf⟩ := wc_b2_e hf
          refine wx_calli (va_runVN (As := [.int x2]) (rest := []) ⟨hx, hb, hml, hown, hts⟩ (wm_L_mayPut l D ad cI cZ cJ cG _ 30 (Or.inl rfl) x2 σ _ hq) (wx_cwN 1 hts wt_481 wt_480 wp_15 wt_5 (hN.1 _ (List.mem_of_getElem? (i := 22) rfl) #[]) wh_L_mayPut rfl rfl ⟨by simp only []; omega, by simp only []; omega⟩) (wx_preV hK hP hD hS hA hC (by decide) rfl rfl) rfl rfl hl.1 rfl (lv_room (Nat.le_of_ble_eq_true rfl)) wd_S_goOnAt_41 ⟨Nat.le_of_ble_eq_true rfl, Nat.le_of_ble_eq_true rfl⟩) hD hS hA (fun H locs hP hD hS => ?_)
          refine lv_if_eq (tgt := 53) hx hb wd_S_goOnAt_44 (by decide) (fun c9 => ?_) (fun c9 => ?_)
          · have hf := wc_t c9 hf
            exact J53 (wf_S_goOnAt_18 g n) hk18 x1 x2 σ7 hf _ _ _ hP hD hS (lv_sub hl [0, 1, 2] rfl)
          · have hf := wc_f c9 hf
            refine lv_aload_n hx hb wd_S_goOnAt_47 rfl (lv_at hl 0 rfl) ?_
            refine lv_iload_n hx hb wd_S_goOnAt_48 rfl (lv_at hl 2 rfl) ?_
            refine lv_iload_n hx hb wd_S_goOnAt_49 rfl (lv_at hl 1 rfl) ?_
            obtain ⟨σ11, hq, hf⟩ := wc_b1_e hf
            refine wx_callv (va_runV (As := [.int x2, .int x1]) (rest := []) ⟨hx, hb, hml, hown, hts⟩ (wm_S_putAndGoOn l D ad cI cZ cJ cG d g hg _ x2 x1 σ7 _ hq) (wx_cwV 2 hts wt_489 wt_488 wp_17 wt_6 wt_486 wh_S_putAndGoOn rfl rfl ⟨by simp only []; omega, by simp only []; omega⟩) (wx_preV hK hP hD hS hA hC (by decide) rfl rfl) rfl rfl hl.1 rfl (lv_room (Nat.le_of_ble_eq_true rfl)) wd_S_goOnAt_50 ⟨Nat.le_of_ble_eq_true rfl, Nat.le_of_ble_eq_true rfl⟩) hD hS hA (fun H locs hP hD hS => ?_)
            exact J53 (wf_S_goOnAt_18 g n) hk18 x1 x2 σ11 hf _ _ _ hP hD hS (lv_sub hl [0, 1, 2] rfl)
  unfold wf_S_goOnAt_r at hf
  refine lv_iload_n hx hb wd_S_goOnAt_0 rfl (lv_at hl 1 rfl) ?_
  refine lv_aload_n hx hb wd_S_goOnAt_1 rfl (lv_at hl 0 rfl) ?_
  refine wx_get (v := .ref (ad 1)) (C := "WidthCampaigns$Search") (T := wx_TS) (N' := 7) hx hb hts wi_S hown hK hP 68 (by decide) rfl rfl 0 (by decide) wt_194 (fun _ h9 => h9) rfl wd_S_goOnAt_2 ?_
  refine wx_getN (v := .int (σ 1 10)) (C := "WidthCampaigns$Plant") (T := wx_TP) (N' := 15) hx hb hts wi_P hown hK hP 1 (by decide) rfl rfl 10 (by decide) (hN.1 _ (List.mem_of_getElem? (i := 19) rfl) #[]) (fun _ h9 => h9) rfl wd_S_goOnAt_5 ?_
  refine lv_topi (fun v1 ev1 => ?_)
  have hf := wc_st_e ev1 hf
  refine lv_icmp_lt (tgt := 16) hx hb wd_S_goOnAt_8 (by decide) (fun c2 => ?_) (fun c2 => ?_)
  · have hf := wc_t c2 hf
    refine lv_iconst (v := 0) hx hb wd_S_goOnAt_16 (by decide) ?_
    refine lv_istore_n (lv' := [(2, .int 0), (0, .ref (ad 68)), (1, .int a1)]) hx hb wd_S_goOnAt_17 rfl hl (by decide) rfl (fun ls hl => ?_)
    exact J18 16 a1 0 σ hf _ _ _ hP hD hS (lv_sub hl [1, 2, 0] rfl)
  · have hf := wc_f c2 hf
    refine lv_aload_n hx hb wd_S_goOnAt_11 rfl (lv_at hl 0 rfl) ?_
    obtain ⟨σ12, hq, hf⟩ := wc_b1_e hf
    refine wx_callv (va_runV (As := []) (rest := []) ⟨hx, hb, hml, hown, hts⟩ (wm_S_keepBest l D ad cI cZ cJ cG _ σ _ hq) (wx_cwV 0 hts wt_470 wt_469 wp_13 wt_6 wt_467 wh_S_keepBest rfl rfl ⟨by simp only []; omega, by simp only []; omega⟩) (wx_preV hK hP hD hS hA hC (by decide) rfl rfl) rfl rfl hl.1 rfl (lv_room (Nat.le_of_ble_eq_true rfl)) wd_S_goOnAt_12 ⟨Nat.le_of_ble_eq_true rfl, Nat.le_of_ble_eq_true rfl⟩) hD hS hA (fun H locs hP hD hS => ?_)
    exact wx_vret hx hb hr hlocks hf hP hS wd_S_goOnAt_15
theorem wm_S_goOnAt (l : Launch) (D : va_G) (ad : Nat → Nat) (cI cZ cJ cG : ClassId) (d : Nat) : ∀ (sz : Nat) (a1 : Int32) (σ : wc_S) (res : wc_S), wf_S_goOnAt d a1 σ = some res → Met l wy_S_goOnAt (wx_ws_S_goOnAt) ({ frames := 2 * d + 3, cells := 0, slots := 0, locals := 44 * d + 80 }) (va_Pc [.ref (ad 68), .int a1] (wx_pre D ad cI cZ cJ cG σ sz)) (wx_Qv D ad cI cZ cJ cG res (va_A (wx_W ad cI cZ cJ cG σ) sz)) 0 0 (va_A (wx_W ad cI cZ cJ cG σ) sz) := by
  induction d with
  | zero => intro sz a1 σ res hf; exact absurd hf (by intro h9; cases h9)
  | succ d ih => intro sz a1 σ res hf; exact wm_S_goOnAt_r l D ad cI cZ cJ cG d (wf_S_goOnAt d) ih sz a1 σ res hf
set_option maxHeartbeats 4000000 in
set_option maxRecDepth 100000 in
theorem wm_S_searchWith (l : Launch) (D : va_G) (ad : Nat → Nat) (cI cZ cJ cG : ClassId) (sz : Nat) (a1 : Int32) (σ : wc_S) (res : wc_S) (hf : wf_S_searchWith a1 σ = some res) : Met l wy_S_searchWith (wx_ws_S_searchWith) ({ frames := 26, cells := 0, slots := 0, locals := 586 }) (va_Pc [.ref (ad 68), .int a1] (wx_pre D ad cI cZ cJ cG σ sz)) (wx_Qv D ad cI cZ cJ cG res (va_A (wx_W ad cI cZ cJ cG σ) sz)) 0 0 (va_A (wx_W ad cI cZ cJ cG σ) sz) := by
  refine wx_ofW (cc := prog_5_method_2_code) (maxL := 2) (ret := none) (Qc := fun A => wx_Qv D ad cI cZ cJ cG res A) [.ref (ad 68), .int a1] (by decide) rfl (Nat.le_of_ble_eq_true rfl) ?_
  intro p e s m args below meth c A ls hin hl
  obtain ⟨hx, hb, hr, hts, hown, hlocks, hml, hA, hP, hK, hD, hC, hN, hS⟩ := hin
  have hl : lv_has ls 2 [(0, .ref (ad 68)), (1, .int a1)] := hl
  unfold wf_S_searchWith at hf
  refine lv_aload_n hx hb wd_S_searchWith_0 rfl (lv_at hl 0 rfl) ?_
  refine lv_iload_n hx hb wd_S_searchWith_1 rfl (lv_at hl 1 rfl) ?_
  refine wx_put (x := a1) (ty := .int) (C := "WidthCampaigns$Search") (T := wx_TS) (N' := 7) hx hb hts wi_S wx_tS wx_toS wx_nS hown hK hP hD hS 68 (by decide) (fun _ => rfl) rfl 4 (by decide) wt_199 (fun _ h9 => h9) rfl (by decide +kernel) rfl rfl (Nat.le_of_ble_eq_true rfl) rfl wd_S_searchWith_2 (fun σ1 H locs eσ1 hP hD hS => ?_)
  have hf := wc_st_e eσ1 hf
  refine lv_aload_n hx hb wd_S_searchWith_5 rfl (lv_at hl 0 rfl) ?_
  refine lv_ldc (v := 2147483647) hx hb hown (wx_hw hts wt_458) wd_S_searchWith_6 ?_
  refine wx_put (x := 2147483647) (ty := .int) (C := "WidthCampaigns$Search") (T := wx_TS) (N' := 7) hx hb hts wi_S wx_tS wx_toS wx_nS hown hK hP hD hS 68 (by decide) (fun _ => rfl) rfl 3 (by decide) wt_198 (fun _ h9 => h9) rfl (by decide +kernel) rfl rfl (Nat.le_of_ble_eq_true rfl) rfl wd_S_searchWith_8 (fun σ2 H locs eσ2 hP hD hS => ?_)
  have hf := wc_st_e eσ2 hf
  refine lv_aload_n hx hb wd_S_searchWith_11 rfl (lv_at hl 0 rfl) ?_
  refine lv_iconst (v := 0) hx hb wd_S_searchWith_12 (by decide) ?_
  refine wx_put (x := 0) (ty := .boolean) (C := "WidthCampaigns$Search") (T := wx_TS) (N' := 7) hx hb hts wi_S wx_tS wx_toS wx_nS hown hK hP hD hS 68 (by decide) (fun _ => rfl) rfl 5 (by decide) wt_200 (fun _ h9 => h9) rfl (by decide +kernel) narrow_b0 rfl (Nat.le_of_ble_eq_true rfl) rfl wd_S_searchWith_13 (fun σ3 H locs eσ3 hP hD hS => ?_)
  have hf := wc_st_e eσ3 hf
  refine lv_aload_n hx hb wd_S_searchWith_16 rfl (lv_at hl 0 rfl) ?_
  refine lv_iconst (v := 0) hx hb wd_S_searchWith_17 (by decide) ?_
  refine wx_put (x := 0) (ty := .boolean) (C := "WidthCampaigns$Search") (T := wx_TS) (N' := 7) hx hb hts wi_S wx_tS wx_toS wx_nS hown hK hP hD hS 68 (by decide) (fun _ => rfl) rfl 6 (by decide) wt_202 (fun _ h9 => h9) rfl (by decide +kernel) narrow_b0 rfl (Nat.le_of_ble_eq_true rfl) rfl wd_S_searchWith_18 (fun σ4 H locs eσ4 hP hD hS => ?_)
  have hf := wc_st_e eσ4 hf
  refine lv_aload_n hx hb wd_S_searchWith_21 rfl (lv_at hl 0 rfl) ?_
  refine wx_get (v := .ref (ad 30)) (C := "WidthCampaigns$Search") (T := wx_TS) (N' := 7) hx hb hts wi_S hown hK hP 68 (by decide) rfl rfl 1 (by decide) wt_195 (fun _ h9 => h9) rfl wd_S_searchWith_22 ?_
  obtain ⟨σ5, hq, hf⟩ := wc_b1_e hf
  refine wx_callv (va_runVN (As := []) (rest := []) ⟨hx, hb, hml, hown, hts⟩ (wm_L_clear l D ad cI cZ cJ cG _ 30 (Or.inl rfl) σ4 _ hq) (wx_cwN 0 hts wt_462 wt_461 wp_11 wt_5 (hN.1 _ (List.mem_of_getElem? (i := 23) rfl) #[]) wh_L_clear rfl rfl ⟨Nat.le_of_ble_eq_true rfl, Nat.le_of_ble_eq_true rfl⟩) (wx_preV hK hP hD hS hA hC (by decide) rfl rfl) rfl rfl hl.1 rfl (lv_room (Nat.le_of_ble_eq_true rfl)) wd_S_searchWith_25 ⟨Nat.le_of_ble_eq_true rfl, Nat.le_of_ble_eq_true rfl⟩) hD hS hA (fun H locs hP hD hS => ?_)
  refine lv_aload_n hx hb wd_S_searchWith_28 rfl (lv_at hl 0 rfl) ?_
  refine lv_iconst (v := 0) hx hb wd_S_searchWith_29 (by decide) ?_
  obtain ⟨σ6, hq, hf⟩ := wc_b1_e hf
  refine wx_callv (va_runV (As := [.int 0]) (rest := []) ⟨hx, hb, hml, hown, hts⟩ (wm_S_goOnAt l D ad cI cZ cJ cG 11 _ 0 σ5 _ hq) (wx_cwV 1 hts wt_466 wt_465 wp_12 wt_6 wt_463 wh_S_goOnAt rfl rfl ⟨Nat.le_of_ble_eq_true rfl, Nat.le_of_ble_eq_true rfl⟩) (wx_preV hK hP hD hS hA hC (by decide) rfl rfl) rfl rfl hl.1 rfl (lv_room (Nat.le_of_ble_eq_true rfl)) wd_S_searchWith_30 ⟨Nat.le_of_ble_eq_true rfl, Nat.le_of_ble_eq_true rfl⟩) hD hS hA (fun H locs hP hD hS => ?_)
  exact wx_vret hx hb hr hlocks hf hP hS wd_S_searchWith_33
set_option maxHeartbeats 4000000 in
set_option maxRecDepth 100000 in
theorem wm_W_isOutside (l : Launch) (D : va_G) (ad : Nat → Nat) (cI cZ cJ cG : ClassId) (sz : Nat) (a0 : Int32) (a1 : Int32) (a2 : Int32) (σ : wc_S) (res : Int32 × wc_S) (hf : wf_W_isOutside a0 a1 a2 σ = some res) : Met l wy_W_isOutside (wx_ws_W_isOutside) ({ frames := 0, cells := 0, slots := 0, locals := 0 }) (va_Pc [.int a0, .int a1, .int a2] (wx_pre D ad cI cZ cJ cG σ sz)) (wx_Qi D ad cI cZ cJ cG res (va_A (wx_W ad cI cZ cJ cG σ) sz)) 0 0 (va_A (wx_W ad cI cZ cJ cG σ) sz) := by
  refine wx_ofW (cc := prog_1_method_17_code) (maxL := 3) (ret := (some .boolean)) (Qc := fun A => wx_Qi D ad cI cZ cJ cG res A) [.int a0, .int a1, .int a2] (by decide) rfl (Nat.le_of_ble_eq_true rfl) ?_
  intro p e s m args below meth c A ls hin hl
  obtain ⟨hx, hb, hr, hts, hown, hlocks, hml, hA, hP, hK, hD, hC, hN, hS⟩ := hin
  have hl : lv_has ls 3 [(0, .int a0), (1, .int a1), (2, .int a2)] := hl
  unfold wf_W_isOutside at hf
  refine lv_iload_n hx hb wd_W_isOutside_0 rfl (lv_at hl 0 rfl) ?_
  refine lv_iload_n hx hb wd_W_isOutside_1 rfl (lv_at hl 1 rfl) ?_
  refine lv_icmp_lt (tgt := 10) hx hb wd_W_isOutside_2 (by decide) (fun c1 => ?_) (fun c1 => ?_)
  · have hf := wc_t c1 hf
    refine lv_iconst (v := 1) hx hb wd_W_isOutside_10 (by decide) ?_
    refine lv_goto (tgt := 15) hx hb wd_W_isOutside_11 (by decide) ?_
    exact wx_zret hx hb hr narrow_b1 hlocks hf hP hS wd_W_isOutside_15
  · have hf := wc_f c1 hf
    refine lv_iload_n hx hb wd_W_isOutside_5 rfl (lv_at hl 0 rfl) ?_
    refine lv_iload_n hx hb wd_W_isOutside_6 rfl (lv_at hl 2 rfl) ?_
    refine lv_icmp_le (tgt := 14) hx hb wd_W_isOutside_7 (by decide) (fun c2 => ?_) (fun c2 => ?_)
    · have hf := wc_t c2 hf
      refine lv_iconst (v := 0) hx hb wd_W_isOutside_14 (by decide) ?_
      exact wx_zret hx hb hr narrow_b0 hlocks hf hP hS wd_W_isOutside_15
    · have hf := wc_f c2 hf
      refine lv_iconst (v := 1) hx hb wd_W_isOutside_10 (by decide) ?_
      refine lv_goto (tgt := 15) hx hb wd_W_isOutside_11 (by decide) ?_
      exact wx_zret hx hb hr narrow_b1 hlocks hf hP hS wd_W_isOutside_15
set_option maxHeartbeats 4000000 in
set_option maxRecDepth 100000 in
theorem wm_W_isNoCoil (l : Launch) (D : va_G) (ad : Nat → Nat) (cI cZ cJ cG : ClassId) (sz : Nat) (a1 : Int32) (σ : wc_S) (res : Int32 × wc_S) (hf : wf_W_isNoCoil a1 σ = some res) : Met l wy_W_isNoCoil (wx_ws_W_isNoCoil) ({ frames := 0, cells := 0, slots := 0, locals := 0 }) (va_Pc [.ref (ad 0), .int a1] (wx_pre D ad cI cZ cJ cG σ sz)) (wx_Qi D ad cI cZ cJ cG res (va_A (wx_W ad cI cZ cJ cG σ) sz)) 0 0 (va_A (wx_W ad cI cZ cJ cG σ) sz) := by
  refine wx_ofW (cc := prog_1_method_18_code) (maxL := 2) (ret := (some .boolean)) (Qc := fun A => wx_Qi D ad cI cZ cJ cG res A) [.ref (ad 0), .int a1] (by decide) rfl (Nat.le_of_ble_eq_true rfl) ?_
  intro p e s m args below meth c A ls hin hl
  obtain ⟨hx, hb, hr, hts, hown, hlocks, hml, hA, hP, hK, hD, hC, hN, hS⟩ := hin
  have hl : lv_has ls 2 [(0, .ref (ad 0)), (1, .int a1)] := hl
  unfold wf_W_isNoCoil at hf
  refine lv_iload_n hx hb wd_W_isNoCoil_0 rfl (lv_at hl 1 rfl) ?_
  refine lv_if_lt (tgt := 15) hx hb wd_W_isNoCoil_1 (by decide) (fun c1 => ?_) (fun c1 => ?_)
  · have hf := wc_t c1 hf
    refine lv_iconst (v := 1) hx hb wd_W_isNoCoil_15 (by decide) ?_
    refine lv_goto (tgt := 20) hx hb wd_W_isNoCoil_16 (by decide) ?_
    exact wx_zret hx hb hr narrow_b1 hlocks hf hP hS wd_W_isNoCoil_20
  · have hf := wc_f c1 hf
    refine lv_iload_n hx hb wd_W_isNoCoil_4 rfl (lv_at hl 1 rfl) ?_
    refine lv_aload_n hx hb wd_W_isNoCoil_5 rfl (lv_at hl 0 rfl) ?_
    refine wx_get (v := .ref (ad 1)) (C := "WidthCampaigns") (T := wx_TW) (N' := 7) hx hb hts wi_W hown hK hP 0 (by decide) rfl rfl 0 (by decide) wt_219 (fun _ h9 => h9) rfl wd_W_isNoCoil_6 ?_
    refine wx_getN (v := .int (σ 1 10)) (C := "WidthCampaigns$Plant") (T := wx_TP) (N' := 15) hx hb hts wi_P hown hK hP 1 (by decide) rfl rfl 10 (by decide) (hN.1 _ (List.mem_of_getElem? (i := 24) rfl) #[]) (fun _ h9 => h9) rfl wd_W_isNoCoil_9 ?_
    refine lv_topi (fun v2 ev2 => ?_)
    have hf := wc_st_e ev2 hf
    refine lv_icmp_lt (tgt := 19) hx hb wd_W_isNoCoil_12 (by decide) (fun c3 => ?_) (fun c3 => ?_)
    · have hf := wc_t c3 hf
      refine lv_iconst (v := 0) hx hb wd_W_isNoCoil_19 (by decide) ?_
      exact wx_zret hx hb hr narrow_b0 hlocks hf hP hS wd_W_isNoCoil_20
    · have hf := wc_f c3 hf
      refine lv_iconst (v := 1) hx hb wd_W_isNoCoil_15 (by decide) ?_
      refine lv_goto (tgt := 20) hx hb wd_W_isNoCoil_16 (by decide) ?_
      exact wx_zret hx hb hr narrow_b1 hlocks hf hP hS wd_W_isNoCoil_20
set_option maxHeartbeats 4000000 in
set_option maxRecDepth 100000 in
theorem wm_W_forgetOrder (l : Launch) (D : va_G) (ad : Nat → Nat) (cI cZ cJ cG : ClassId) (sz : Nat) (σ : wc_S) (res : wc_S) (hf : wf_W_forgetOrder  σ = some res) : Met l wy_W_forgetOrder (wx_ws_W_forgetOrder) ({ frames := 0, cells := 0, slots := 0, locals := 0 }) (va_Pc [.ref (ad 0)] (wx_pre D ad cI cZ cJ cG σ sz)) (wx_Qv D ad cI cZ cJ cG res (va_A (wx_W ad cI cZ cJ cG σ) sz)) 0 0 (va_A (wx_W ad cI cZ cJ cG σ) sz) := by
  refine wx_ofW (cc := prog_1_method_19_code) (maxL := 1) (ret := none) (Qc := fun A => wx_Qv D ad cI cZ cJ cG res A) [.ref (ad 0)] (by decide) rfl (Nat.le_of_ble_eq_true rfl) ?_
  intro p e s m args below meth c A ls hin hl
  obtain ⟨hx, hb, hr, hts, hown, hlocks, hml, hA, hP, hK, hD, hC, hN, hS⟩ := hin
  have hl : lv_has ls 1 [(0, .ref (ad 0))] := hl
  unfold wf_W_forgetOrder at hf
  refine lv_aload_n hx hb wd_W_forgetOrder_0 rfl (lv_at hl 0 rfl) ?_
  refine lv_iconst (v := 0) hx hb wd_W_forgetOrder_1 (by decide) ?_
  refine wx_put (x := 0) (ty := .boolean) (C := "WidthCampaigns") (T := wx_TW) (N' := 7) hx hb hts wi_W wx_tW wx_toW wx_nW hown hK hP hD hS 0 (by decide) (fun _ => rfl) rfl 5 (by decide) wt_224 (fun _ h9 => h9) rfl (by decide +kernel) narrow_b0 rfl (Nat.le_of_ble_eq_true rfl) rfl wd_W_forgetOrder_2 (fun σ1 H locs eσ1 hP hD hS => ?_)
  have hf := wc_st_e eσ1 hf
  refine lv_aload_n hx hb wd_W_forgetOrder_5 rfl (lv_at hl 0 rfl) ?_
  refine lv_iconst (v := 0) hx hb wd_W_forgetOrder_6 (by decide) ?_
  refine wx_put (x := 0) (ty := .boolean) (C := "WidthCampaigns") (T := wx_TW) (N' := 7) hx hb hts wi_W wx_tW wx_toW wx_nW hown hK hP hD hS 0 (by decide) (fun _ => rfl) rfl 6 (by decide) wt_225 (fun _ h9 => h9) rfl (by decide +kernel) narrow_b0 rfl (Nat.le_of_ble_eq_true rfl) rfl wd_W_forgetOrder_7 (fun σ2 H locs eσ2 hP hD hS => ?_)
  have hf := wc_st_e eσ2 hf
  exact wx_vret hx hb hr hlocks hf hP hS wd_W_forgetOrder_10
set_option maxHeartbeats 4000000 in
set_option maxRecDepth 100000 in
theorem wm_W_readIntoScratch (l : Launch) (D : va_G) (ad : Nat → Nat) (cI cZ cJ cG : ClassId) (sz : Nat) (a1 : Int64) (σ : wc_S) (res : Int32 × wc_S) (hf : wf_W_readIntoScratch a1 σ = some res) : Met l wy_W_readIntoScratch (wx_ws_W_readIntoScratch) ({ frames := 1, cells := 0, slots := 0, locals := 21 }) (va_Pc [.ref (ad 0), .long a1] (wx_pre D ad cI cZ cJ cG σ sz)) (wx_Qi D ad cI cZ cJ cG res (va_A (wx_W ad cI cZ cJ cG σ) sz)) 0 0 (va_A (wx_W ad cI cZ cJ cG σ) sz) := by
  refine wx_ofW (cc := prog_1_method_22_code) (maxL := 6) (ret := (some .boolean)) (Qc := fun A => wx_Qi D ad cI cZ cJ cG res A) [.ref (ad 0), .long a1] (by decide) rfl (Nat.le_of_ble_eq_true rfl) ?_
  intro p e s m args below meth c A ls hin hl
  obtain ⟨hx, hb, hr, hts, hown, hlocks, hml, hA, hP, hK, hD, hC, hN, hS⟩ := hin
  have hl : lv_has ls 6 [(0, .ref (ad 0)), (1, .long a1)] := hl
  have J5 : ∀ (n : Nat) (x1 : Int64) (x3 : Int32) (x4 : Int32) (σ : wc_S), wf_W_readIntoScratch_5 n x1 x3 x4 σ = some res → wx_Arr p l e ({ frames := 1, cells := 0, slots := 0, locals := 21 }) s m args below meth c D ad cI cZ cJ cG A (MQ below (wx_Qi D ad cI cZ cJ cG res A) args s 0 0 A) 6 0 0 5 [(0, .ref (ad 0)), (1, .long x1), (3, .int x3), (4, .int x4)] [] σ := by
    intro  n
    induction n with
    | zero => intro x1 x3 x4 σ hf; exact absurd hf (by intro h9; cases h9)
    | succ n hk5 =>
      intro x1 x3 x4 σ hf H locs ls hP hD hS hl
      have hf : wf_W_readIntoScratch_5_b (wf_W_readIntoScratch_5 n) x1 x3 x4 σ = some res := hf
      unfold wf_W_readIntoScratch_5_b at hf
      refine lv_iload hx hb wd_W_readIntoScratch_5 (lv_at hl 3 rfl) ?_
      refine lv_aload_n hx hb wd_W_readIntoScratch_7 rfl (lv_at hl 0 rfl) ?_
      refine wx_get (v := .ref (ad 1)) (C := "WidthCampaigns") (T := wx_TW) (N' := 7) hx hb hts wi_W hown hK hP 0 (by decide) rfl rfl 0 (by decide) wt_219 (fun _ h9 => h9) rfl wd_W_readIntoScratch_8 ?_
      refine wx_getN (v := .int (σ 1 10)) (C := "WidthCampaigns$Plant") (T := wx_TP) (N' := 15) hx hb hts wi_P hown hK hP 1 (by decide) rfl rfl 10 (by decide) (hN.1 _ (List.mem_of_getElem? (i := 24) rfl) #[]) (fun _ h9 => h9) rfl wd_W_readIntoScratch_11 ?_
      refine lv_topi (fun v1 ev1 => ?_)
      have hf := wc_st_e ev1 hf
      refine lv_icmp_ge (tgt := 72) hx hb wd_W_readIntoScratch_14 (by decide) (fun c2 => ?_) (fun c2 => ?_)
      · have hf := wc_t c2 hf
        refine lv_iconst (v := 1) hx hb wd_W_readIntoScratch_72 (by decide) ?_
        exact wx_zret hx hb hr narrow_b1 hlocks hf hP hS wd_W_readIntoScratch_73
      · have hf := wc_f c2 hf
        refine lv_lload_n hx hb wd_W_readIntoScratch_17 rfl (lv_at hl 1 rfl) ?_
        refine lv_iconst (v := 4) hx hb wd_W_readIntoScratch_18 (by decide) ?_
        refine lv_iload hx hb wd_W_readIntoScratch_19 (lv_at hl 3 rfl) ?_
        refine lv_imul hx hb wd_W_readIntoScratch_21 ?_
        refine lv_topi (fun v3 ev3 => ?_)
        have hf := wc_st_e ev3 hf
        refine lv_lushr hx hb wd_W_readIntoScratch_22 rfl ?_
        refine lv_topl (fun v4 ev4 => ?_)
        have hf := wc_st_e ev4 hf
        refine lv_l2i hx hb wd_W_readIntoScratch_23 rfl ?_
        refine lv_topi (fun v5 ev5 => ?_)
        have hf := wc_st_e ev5 hf
        refine lv_bipush (v := 15) hx hb wd_W_readIntoScratch_24 (by decide) ?_
        refine lv_iand hx hb wd_W_readIntoScratch_26 ?_
        refine lv_topi (fun v6 ev6 => ?_)
        have hf := wc_st_e ev6 hf
        refine lv_istore (lv' := [(5, .int v6), (0, .ref (ad 0)), (1, .long x1), (3, .int x3), (4, .int x4)]) hx hb wd_W_readIntoScratch_27 hl (by decide) rfl (fun ls hl => ?_)
        refine lv_aload_n hx hb wd_W_readIntoScratch_29 rfl (lv_at hl 1 rfl) ?_
        refine lv_iload hx hb wd_W_readIntoScratch_30 (lv_at hl 0 rfl) ?_
        obtain ⟨r8, σ7, hq, hf⟩ := wc_b2_e hf
        refine wx_calli (va_runV (As := [.int v6]) (rest := []) ⟨hx, hb, hml, hown, hts⟩ (wm_W_isNoCoil l D ad cI cZ cJ cG _ v6 σ _ hq) (wx_cwV 1 hts wt_426 wt_425 wp_9 wt_1 wt_423 wh_W_isNoCoil rfl rfl ⟨Nat.le_of_ble_eq_true rfl, Nat.le_of_ble_eq_true rfl⟩) (wx_preV hK hP hD hS hA hC (by decide) rfl rfl) rfl rfl hl.1 rfl (lv_room (Nat.le_of_ble_eq_true rfl)) wd_W_readIntoScratch_32 ⟨Nat.le_of_ble_eq_true rfl, Nat.le_of_ble_eq_true rfl⟩) hD hS hA (fun H locs hP hD hS => ?_)
        refine lv_if_ne (tgt := 48) hx hb wd_W_readIntoScratch_35 (by decide) (fun c9 => ?_) (fun c9 => ?_)
        · have hf := wc_f c9 hf
          refine lv_iconst (v := 0) hx hb wd_W_readIntoScratch_48 (by decide) ?_
          exact wx_zret hx hb hr narrow_b0 hlocks hf hP hS wd_W_readIntoScratch_49
        · have hf := wc_t c9 hf
          refine lv_iload_n hx hb wd_W_readIntoScratch_38 rfl (lv_at hl 3 rfl) ?_
          refine lv_iload hx hb wd_W_readIntoScratch_39 (lv_at hl 0 rfl) ?_
          refine lv_ishr hx hb wd_W_readIntoScratch_41 ?_
          refine lv_topi (fun v10 ev10 => ?_)
          have hf := wc_st_e ev10 hf
          refine lv_iconst (v := 1) hx hb wd_W_readIntoScratch_42 (by decide) ?_
          refine lv_iand hx hb wd_W_readIntoScratch_43 ?_
          refine lv_topi (fun v11 ev11 => ?_)
          have hf := wc_st_e ev11 hf
          refine lv_iconst (v := 1) hx hb wd_W_readIntoScratch_44 (by decide) ?_
          refine lv_icmp_ne (tgt := 50) hx hb wd_W_readIntoScratch_45 (by decide) (fun c12 => ?_) (fun c12 => ?_)
          · have hf := wc_f c12 hf
            refine lv_iload_n hx hb wd_W_readIntoScratch_50 rfl (lv_at hl 3 rfl) ?_
            refine lv_iconst (v := 1) hx hb wd_W_readIntoScratch_51 (by decide) ?_
            refine lv_iload hx hb wd_W_readIntoScratch_52 (lv_at hl 0 rfl) ?_
            refine lv_ishl hx hb wd_W_readIntoScratch_54 ?_
            refine lv_topi (fun v13 ev13 => ?_)
            have hf := wc_st_e ev13 hf
            refine lv_ior hx hb wd_W_readIntoScratch_55 ?_
            refine lv_topi (fun v14 ev14 => ?_)
            have hf := wc_st_e ev14 hf
            refine lv_istore_n (lv' := [(3, .int v14), (5, .int v6), (0, .ref (ad 0)), (1, .long x1), (4, .int x4)]) hx hb wd_W_readIntoScratch_56 rfl hl (by decide) rfl (fun ls hl => ?_)
            refine lv_aload_n hx hb wd_W_readIntoScratch_57 rfl (lv_at hl 2 rfl) ?_
            refine wx_get (v := .ref (ad 70)) (C := "WidthCampaigns") (T := wx_TW) (N' := 7) hx hb hts wi_W hown hK hP 0 (by decide) rfl rfl 4 (by decide) wt_223 (fun _ h9 => h9) rfl wd_W_readIntoScratch_58 ?_
            refine lv_iload hx hb wd_W_readIntoScratch_61 (lv_at hl 4 rfl) ?_
            refine lv_iload hx hb wd_W_readIntoScratch_63 (lv_at hl 1 rfl) ?_
            obtain ⟨h15, hf⟩ := wc_gd_e hf
            refine wx_iast hx hb hK hP hD hS 70 (n := 9) (by decide) (fun _ => rfl) h15 wd_W_readIntoScratch_65 (fun σ16 H locs eσ16 hP hD hS => ?_)
            have hf := wc_st_e eσ16 hf
            obtain ⟨v17, ev17⟩ : ∃ y : Int32, y = x4 + 1 := ⟨_, rfl⟩
            have hf := wc_st_e ev17 hf
            refine lv_iinc (v := v17) (lv' := [(4, .int v17), (3, .int v14), (5, .int v6), (0, .ref (ad 0)), (1, .long x1)]) hx hb wd_W_readIntoScratch_66 hl (k := 4) rfl (by rw [ev17]; rfl) (by decide) rfl (fun ls hl => ?_)
            refine lv_goto (tgt := 5) hx hb wd_W_readIntoScratch_69 (by decide) ?_
            exact hk5 x1 v14 v17 σ16 hf _ _ _ hP hD hS (lv_sub hl [3, 4, 1, 0] rfl)
          · have hf := wc_t c12 hf
            refine lv_iconst (v := 0) hx hb wd_W_readIntoScratch_48 (by decide) ?_
            exact wx_zret hx hb hr narrow_b0 hlocks hf hP hS wd_W_readIntoScratch_49
  unfold wf_W_readIntoScratch at hf
  refine lv_iconst (v := 0) hx hb wd_W_readIntoScratch_0 (by decide) ?_
  refine lv_istore_n (lv' := [(3, .int 0), (0, .ref (ad 0)), (1, .long a1)]) hx hb wd_W_readIntoScratch_1 rfl hl (by decide) rfl (fun ls hl => ?_)
  refine lv_iconst (v := 0) hx hb wd_W_readIntoScratch_2 (by decide) ?_
  refine lv_istore (lv' := [(4, .int 0), (3, .int 0), (0, .ref (ad 0)), (1, .long a1)]) hx hb wd_W_readIntoScratch_3 hl (by decide) rfl (fun ls hl => ?_)
  exact J5 16 a1 0 0 σ hf _ _ _ hP hD hS (lv_sub hl [2, 3, 1, 0] rfl)
