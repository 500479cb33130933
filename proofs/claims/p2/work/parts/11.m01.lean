set_option maxHeartbeats 4000000 in
set_option maxRecDepth 100000 in
theorem wm_P_leastJumpTo (l : Launch) (D : va_G) (ad : Nat → Nat) (cI cZ cJ cG : ClassId) (sz : Nat) (a1 : Int32) (σ : wc_S) (res : Int32 × wc_S) (hf : wf_P_leastJumpTo a1 σ = some res) : Met l wy_P_leastJumpTo (wx_ws_P_leastJumpTo) ({ frames := 0, cells := 0, slots := 0, locals := 0 }) (va_Pc [.ref (ad 1), .int a1] (wx_pre D ad cI cZ cJ cG σ sz)) (wx_Qi D ad cI cZ cJ cG res (va_A (wx_W ad cI cZ cJ cG σ) sz)) 0 0 (va_A (wx_W ad cI cZ cJ cG σ) sz) := by
  refine wx_ofW (cc := prog_4_method_5_code) (maxL := 5) (ret := (some .int)) (Qc := fun A => wx_Qi D ad cI cZ cJ cG res A) [.ref (ad 1), .int a1] (by decide) rfl (Nat.le_of_ble_eq_true rfl) ?_
  intro p e s m args below meth c A ls hin hl
  obtain ⟨hx, hb, hr, hts, hown, hlocks, hml, hA, hP, hK, hD, hC, hN, hS⟩ := hin
  have hl : lv_has ls 5 [(0, .ref (ad 1)), (1, .int a1)] := hl
  have J47 : ∀ (k4 : Int32 → Int32 → Int32 → wc_S → Option (Int32 × wc_S)) (hk4 : (∀ (x1 : Int32) (x2 : Int32) (x3 : Int32) (σ : wc_S), k4 x1 x2 x3 σ = some res → wx_Arr p l e ({ frames := 0, cells := 0, slots := 0, locals := 0 }) s m args below meth c D ad cI cZ cJ cG A (MQ below (wx_Qi D ad cI cZ cJ cG res A) args s 0 0 A) 5 0 0 4 [(0, .ref (ad 1)), (1, .int x1), (2, .int x2), (3, .int x3)] [] σ)) (x1 : Int32) (x2 : Int32) (x3 : Int32) (σ : wc_S), wf_P_leastJumpTo_47 k4 x1 x2 x3 σ = some res → wx_Arr p l e ({ frames := 0, cells := 0, slots := 0, locals := 0 }) s m args below meth c D ad cI cZ cJ cG A (MQ below (wx_Qi D ad cI cZ cJ cG res A) args s 0 0 A) 5 0 0 47 [(0, .ref (ad 1)), (1, .int x1), (2, .int x2), (3, .int x3)] [] σ := by
    intro k4 hk4 x1 x2 x3 σ hf H locs ls hP hD hS hl
    unfold wf_P_leastJumpTo_47 at hf
    obtain ⟨v8, ev8⟩ : ∃ y : Int32, y = x3 + 1 := ⟨_, rfl⟩
    have hf := wc_st_e ev8 hf
    refine lv_iinc (v := v8) (lv' := [(3, .int v8), (0, .ref (ad 1)), (1, .int x1), (2, .int x2)]) hx hb wd_P_leastJumpTo_47 hl (k := 3) rfl (by rw [ev8]; rfl) (by decide) rfl (fun ls hl => ?_)
    refine lv_goto (tgt := 4) hx hb wd_P_leastJumpTo_50 (by decide) ?_
    exact hk4 x1 x2 v8 σ hf _ _ _ hP hD hS (lv_sub hl [1, 2, 3, 0] rfl)
  have J44 : ∀ (k4 : Int32 → Int32 → Int32 → wc_S → Option (Int32 × wc_S)) (hk4 : (∀ (x1 : Int32) (x2 : Int32) (x3 : Int32) (σ : wc_S), k4 x1 x2 x3 σ = some res → wx_Arr p l e ({ frames := 0, cells := 0, slots := 0, locals := 0 }) s m args below meth c D ad cI cZ cJ cG A (MQ below (wx_Qi D ad cI cZ cJ cG res A) args s 0 0 A) 5 0 0 4 [(0, .ref (ad 1)), (1, .int x1), (2, .int x2), (3, .int x3)] [] σ)) (x1 : Int32) (x3 : Int32) (x4 : Int32) (σ : wc_S), wf_P_leastJumpTo_44 k4 x1 x3 x4 σ = some res → wx_Arr p l e ({ frames := 0, cells := 0, slots := 0, locals := 0 }) s m args below meth c D ad cI cZ cJ cG A (MQ below (wx_Qi D ad cI cZ cJ cG res A) args s 0 0 A) 5 0 0 44 [(0, .ref (ad 1)), (1, .int x1), (3, .int x3), (4, .int x4)] [] σ := by
    intro k4 hk4 x1 x3 x4 σ hf H locs ls hP hD hS hl
    unfold wf_P_leastJumpTo_44 at hf
    refine lv_iload hx hb wd_P_leastJumpTo_44 (lv_at hl 3 rfl) ?_
    refine lv_istore_n (lv' := [(2, .int x4), (0, .ref (ad 1)), (1, .int x1), (3, .int x3), (4, .int x4)]) hx hb wd_P_leastJumpTo_46 rfl hl (by decide) rfl (fun ls hl => ?_)
    exact J47 k4 hk4 x1 x4 x3 σ hf _ _ _ hP hD hS (lv_sub hl [1, 2, 0, 3] rfl)
  have J4 : ∀ (n : Nat) (x1 : Int32) (x2 : Int32) (x3 : Int32) (σ : wc_S), wf_P_leastJumpTo_4 n x1 x2 x3 σ = some res → wx_Arr p l e ({ frames := 0, cells := 0, slots := 0, locals := 0 }) s m args below meth c D ad cI cZ cJ cG A (MQ below (wx_Qi D ad cI cZ cJ cG res A) args s 0 0 A) 5 0 0 4 [(0, .ref (ad 1)), (1, .int x1), (2, .int x2), (3, .int x3)] [] σ := by
    intro  n
    induction n with
    | zero => intro x1 x2 x3 σ hf; exact absurd hf (by intro h9; cases h9)
    | succ n hk4 =>
      intro x1 x2 x3 σ hf H locs ls hP hD hS hl
      have hf : wf_P_leastJumpTo_4_b (wf_P_leastJumpTo_4 n) x1 x2 x3 σ = some res := hf
      unfold wf_P_leastJumpTo_4_b at hf
      refine lv_iload_n hx hb wd_P_leastJumpTo_4 rfl (lv_at hl 3 rfl) ?_
      refine lv_aload_n hx hb wd_P_leastJumpTo_5 rfl (lv_at hl 0 rfl) ?_
      refine wx_get (v := .int (σ 1 10)) (C := "WidthCampaigns$Plant") (T := wx_TP) (N' := 15) hx hb hts wi_P hown hK hP 1 (by decide) rfl rfl 10 (by decide) wt_100 (fun _ h9 => h9) rfl wd_P_leastJumpTo_6 ?_
      refine lv_topi (fun v1 ev1 => ?_)
      have hf := wc_st_e ev1 hf
      refine lv_icmp_ge (tgt := 53) hx hb wd_P_leastJumpTo_9 (by decide) (fun c2 => ?_) (fun c2 => ?_)
      · have hf := wc_t c2 hf
        refine lv_iload_n hx hb wd_P_leastJumpTo_53 rfl (lv_at hl 2 rfl) ?_
        refine lv_iconst (v := (-1)) hx hb wd_P_leastJumpTo_54 (by decide) ?_
        refine lv_icmp_ne (tgt := 62) hx hb wd_P_leastJumpTo_55 (by decide) (fun c3 => ?_) (fun c3 => ?_)
        · have hf := wc_f c3 hf
          refine lv_iload_n hx hb wd_P_leastJumpTo_62 rfl (lv_at hl 2 rfl) ?_
          exact wx_iret hx hb hr hlocks hf hP hS wd_P_leastJumpTo_63
        · have hf := wc_t c3 hf
          refine lv_iconst (v := 0) hx hb wd_P_leastJumpTo_58 (by decide) ?_
          refine lv_goto (tgt := 63) hx hb wd_P_leastJumpTo_59 (by decide) ?_
          exact wx_iret hx hb hr hlocks hf hP hS wd_P_leastJumpTo_63
      · have hf := wc_f c2 hf
        refine lv_aload_n hx hb wd_P_leastJumpTo_12 rfl (lv_at hl 0 rfl) ?_
        refine wx_get (v := .ref (ad 8)) (C := "WidthCampaigns$Plant") (T := wx_TP) (N' := 15) hx hb hts wi_P hown hK hP 1 (by decide) rfl rfl 6 (by decide) wt_90 (fun _ h9 => h9) rfl wd_P_leastJumpTo_13 ?_
        refine lv_iload_n hx hb wd_P_leastJumpTo_16 rfl (lv_at hl 3 rfl) ?_
        obtain ⟨h4, hf⟩ := wc_gd_e hf
        refine wx_aald (bs := 9) hx hb hK hP 8 (n := 9) (by decide) rfl h4 wd_P_leastJumpTo_17 ?_
        refine lv_iload_n hx hb wd_P_leastJumpTo_18 rfl (lv_at hl 1 rfl) ?_
        obtain ⟨h5, hf⟩ := wc_gd_e hf
        refine wx_iald hx hb hK hP (9 + x3.toNatClampNeg) (n := 9) (wx_g8l h4) (wx_g8 h4 _) (wc_in_e h5) wd_P_leastJumpTo_19 ?_
        refine lv_topi (fun v6 ev6 => ?_)
        have hf := wc_st_e ev6 hf
        refine lv_istore (lv' := [(4, .int v6), (0, .ref (ad 1)), (1, .int x1), (2, .int x2), (3, .int x3)]) hx hb wd_P_leastJumpTo_20 hl (by decide) rfl (fun ls hl => ?_)
        refine lv_iload_n hx hb wd_P_leastJumpTo_22 rfl (lv_at hl 4 rfl) ?_
        refine lv_iload_n hx hb wd_P_leastJumpTo_23 rfl (lv_at hl 2 rfl) ?_
        refine lv_icmp_eq (tgt := 47) hx hb wd_P_leastJumpTo_24 (by decide) (fun c7 => ?_) (fun c7 => ?_)
        · have hf := wc_t c7 hf
          exact J47 (wf_P_leastJumpTo_4 n) hk4 x1 x2 x3 σ hf _ _ _ hP hD hS (lv_sub hl [1, 2, 3, 4] rfl)
        · have hf := wc_f c7 hf
          refine lv_iload hx hb wd_P_leastJumpTo_27 (lv_at hl 0 rfl) ?_
          refine lv_iconst (v := (-1)) hx hb wd_P_leastJumpTo_29 (by decide) ?_
          refine lv_icmp_eq (tgt := 47) hx hb wd_P_leastJumpTo_30 (by decide) (fun c9 => ?_) (fun c9 => ?_)
          · have hf := wc_t c9 hf
            exact J47 (wf_P_leastJumpTo_4 n) hk4 x1 x2 x3 σ hf _ _ _ hP hD hS (lv_sub hl [1, 2, 3, 4] rfl)
          · have hf := wc_f c9 hf
            refine lv_iload_n hx hb wd_P_leastJumpTo_33 rfl (lv_at hl 3 rfl) ?_
            refine lv_iconst (v := (-1)) hx hb wd_P_leastJumpTo_34 (by decide) ?_
            refine lv_icmp_eq (tgt := 44) hx hb wd_P_leastJumpTo_35 (by decide) (fun c10 => ?_) (fun c10 => ?_)
            · have hf := wc_t c10 hf
              exact J44 (wf_P_leastJumpTo_4 n) hk4 x1 x3 v6 σ hf _ _ _ hP hD hS (lv_sub hl [1, 2, 4, 0] rfl)
            · have hf := wc_f c10 hf
              refine lv_iload hx hb wd_P_leastJumpTo_38 (lv_at hl 0 rfl) ?_
              refine lv_iload_n hx hb wd_P_leastJumpTo_40 rfl (lv_at hl 3 rfl) ?_
              refine lv_icmp_ge (tgt := 47) hx hb wd_P_leastJumpTo_41 (by decide) (fun c11 => ?_) (fun c11 => ?_)
              · have hf := wc_t c11 hf
                exact J47 (wf_P_leastJumpTo_4 n) hk4 x1 x2 x3 σ hf _ _ _ hP hD hS (lv_sub hl [1, 2, 3, 4] rfl)
              · have hf := wc_f c11 hf
                exact J44 (wf_P_leastJumpTo_4 n) hk4 x1 x3 v6 σ hf _ _ _ hP hD hS (lv_sub hl [1, 2, 4, 0] rfl)
  unfold wf_P_leastJumpTo at hf
  refine lv_iconst (v := (-1)) hx hb wd_P_leastJumpTo_0 (by decide) ?_
  refine lv_istore_n (lv' := [(2, .int (-1)), (0, .ref (ad 1)), (1, .int a1)]) hx hb wd_P_leastJumpTo_1 rfl hl (by decide) rfl (fun ls hl => ?_)
  refine lv_iconst (v := 0) hx hb wd_P_leastJumpTo_2 (by decide) ?_
  refine lv_istore_n (lv' := [(3, .int 0), (2, .int (-1)), (0, .ref (ad 1)), (1, .int a1)]) hx hb wd_P_leastJumpTo_3 rfl hl (by decide) rfl (fun ls hl => ?_)
  exact J4 16 a1 (-1) 0 σ hf _ _ _ hP hD hS (lv_sub hl [2, 3, 1, 0] rfl)
set_option maxHeartbeats 4000000 in
set_option maxRecDepth 100000 in
theorem wm_P_kilometresInGroup (l : Launch) (D : va_G) (ad : Nat → Nat) (cI cZ cJ cG : ClassId) (sz : Nat) (a1 : Int32) (a2 : Int32) (σ : wc_S) (res : Int32 × wc_S) (hf : wf_P_kilometresInGroup a1 a2 σ = some res) : Met l wy_P_kilometresInGroup (wx_ws_P_kilometresInGroup) ({ frames := 0, cells := 0, slots := 0, locals := 0 }) (va_Pc [.ref (ad 1), .int a1, .int a2] (wx_pre D ad cI cZ cJ cG σ sz)) (wx_Qi D ad cI cZ cJ cG res (va_A (wx_W ad cI cZ cJ cG σ) sz)) 0 0 (va_A (wx_W ad cI cZ cJ cG σ) sz) := by
  refine wx_ofW (cc := prog_4_method_6_code) (maxL := 4) (ret := (some .int)) (Qc := fun A => wx_Qi D ad cI cZ cJ cG res A) [.ref (ad 1), .int a1, .int a2] (by decide) rfl (Nat.le_of_ble_eq_true rfl) ?_
  intro p e s m args below meth c A ls hin hl
  obtain ⟨hx, hb, hr, hts, hown, hlocks, hml, hA, hP, hK, hD, hC, hN, hS⟩ := hin
  have hl : lv_has ls 4 [(0, .ref (ad 1)), (1, .int a1), (2, .int a2)] := hl
  have J41 : ∀ (x2 : Int32) (s0 : Int32) (σ : wc_S), wf_P_kilometresInGroup_41 x2 s0 σ = some res → wx_Arr p l e ({ frames := 0, cells := 0, slots := 0, locals := 0 }) s m args below meth c D ad cI cZ cJ cG A (MQ below (wx_Qi D ad cI cZ cJ cG res A) args s 0 0 A) 4 0 0 41 [(0, .ref (ad 1)), (2, .int x2)] [.int s0] σ := by
    intro  x2 s0 σ hf H locs ls hP hD hS hl
    unfold wf_P_kilometresInGroup_41 at hf
    refine lv_istore_n (lv' := [(3, .int s0), (0, .ref (ad 1)), (2, .int x2)]) hx hb wd_P_kilometresInGroup_41 rfl hl (by decide) rfl (fun ls hl => ?_)
    refine lv_iload_n hx hb wd_P_kilometresInGroup_42 rfl (lv_at hl 0 rfl) ?_
    refine lv_if_eq (tgt := 55) hx hb wd_P_kilometresInGroup_43 (by decide) (fun c6 => ?_) (fun c6 => ?_)
    · have hf := wc_t c6 hf
      refine lv_iconst (v := 0) hx hb wd_P_kilometresInGroup_55 (by decide) ?_
      exact wx_iret hx hb hr hlocks hf hP hS wd_P_kilometresInGroup_56
    · have hf := wc_f c6 hf
      refine lv_aload_n hx hb wd_P_kilometresInGroup_46 rfl (lv_at hl 1 rfl) ?_
      refine wx_get (v := .ref (ad 5)) (C := "WidthCampaigns$Plant") (T := wx_TP) (N' := 15) hx hb hts wi_P hown hK hP 1 (by decide) rfl rfl 3 (by decide) wt_82 (fun _ h9 => h9) rfl wd_P_kilometresInGroup_47 ?_
      refine lv_iload_n hx hb wd_P_kilometresInGroup_50 rfl (lv_at hl 2 rfl) ?_
      obtain ⟨h7, hf⟩ := wc_gd_e hf
      refine wx_iald hx hb hK hP 5 (n := 9) (by decide) rfl (wc_in_e h7) wd_P_kilometresInGroup_51 ?_
      refine lv_topi (fun v8 ev8 => ?_)
      have hf := wc_st_e ev8 hf
      refine lv_goto (tgt := 56) hx hb wd_P_kilometresInGroup_52 (by decide) ?_
      exact wx_iret hx hb hr hlocks hf hP hS wd_P_kilometresInGroup_56
  have J40 : ∀ (x2 : Int32) (σ : wc_S), wf_P_kilometresInGroup_40 x2 σ = some res → wx_Arr p l e ({ frames := 0, cells := 0, slots := 0, locals := 0 }) s m args below meth c D ad cI cZ cJ cG A (MQ below (wx_Qi D ad cI cZ cJ cG res A) args s 0 0 A) 4 0 0 40 [(0, .ref (ad 1)), (2, .int x2)] [] σ := by
    intro  x2 σ hf H locs ls hP hD hS hl
    unfold wf_P_kilometresInGroup_40 at hf
    refine lv_iconst (v := 0) hx hb wd_P_kilometresInGroup_40 (by decide) ?_
    exact J41 x2 0 σ hf _ _ _ hP hD hS (lv_sub hl [0, 1] rfl)
  unfold wf_P_kilometresInGroup at hf
  refine lv_aload_n hx hb wd_P_kilometresInGroup_0 rfl (lv_at hl 0 rfl) ?_
  refine wx_get (v := .ref (ad 26)) (C := "WidthCampaigns$Plant") (T := wx_TP) (N' := 15) hx hb hts wi_P hown hK hP 1 (by decide) rfl rfl 9 (by decide) wt_97 (fun _ h9 => h9) rfl wd_P_kilometresInGroup_1 ?_
  refine wx_getN (v := .ref (ad 27)) (C := "WidthCampaigns$WidthGroups") (T := wx_TG) (N' := 4) hx hb hts wi_G hown hK hP 26 (by decide) rfl rfl 0 (by decide) (hN.1 _ (List.mem_of_getElem? (i := 1) rfl) #[]) (fun _ h9 => h9) rfl wd_P_kilometresInGroup_4 ?_
  refine lv_iload_n hx hb wd_P_kilometresInGroup_7 rfl (lv_at hl 1 rfl) ?_
  obtain ⟨h1, hf⟩ := wc_gd_e hf
  refine wx_iald hx hb hK hP 27 (n := 4) (by decide) rfl (wc_in_e h1) wd_P_kilometresInGroup_8 ?_
  refine lv_topi (fun v2 ev2 => ?_)
  have hf := wc_st_e ev2 hf
  refine lv_aload_n hx hb wd_P_kilometresInGroup_9 rfl (lv_at hl 0 rfl) ?_
  refine wx_get (v := .ref (ad 2)) (C := "WidthCampaigns$Plant") (T := wx_TP) (N' := 15) hx hb hts wi_P hown hK hP 1 (by decide) rfl rfl 0 (by decide) wt_78 (fun _ h9 => h9) rfl wd_P_kilometresInGroup_10 ?_
  refine lv_iload_n hx hb wd_P_kilometresInGroup_13 rfl (lv_at hl 2 rfl) ?_
  obtain ⟨h3, hf⟩ := wc_gd_e hf
  refine wx_iald hx hb hK hP 2 (n := 9) (by decide) rfl (wc_in_e h3) wd_P_kilometresInGroup_14 ?_
  refine lv_topi (fun v4 ev4 => ?_)
  have hf := wc_st_e ev4 hf
  refine lv_icmp_gt (tgt := 40) hx hb wd_P_kilometresInGroup_15 (by decide) (fun c5 => ?_) (fun c5 => ?_)
  · have hf := wc_t c5 hf
    exact J40 a2 σ hf _ _ _ hP hD hS (lv_sub hl [0, 2] rfl)
  · have hf := wc_f c5 hf
    refine lv_aload_n hx hb wd_P_kilometresInGroup_18 rfl (lv_at hl 0 rfl) ?_
    refine wx_get (v := .ref (ad 2)) (C := "WidthCampaigns$Plant") (T := wx_TP) (N' := 15) hx hb hts wi_P hown hK hP 1 (by decide) rfl rfl 0 (by decide) wt_78 (fun _ h9 => h9) rfl wd_P_kilometresInGroup_19 ?_
    refine lv_iload_n hx hb wd_P_kilometresInGroup_22 rfl (lv_at hl 2 rfl) ?_
    obtain ⟨h9, hf⟩ := wc_gd_e hf
    refine wx_iald hx hb hK hP 2 (n := 9) (by decide) rfl (wc_in_e h9) wd_P_kilometresInGroup_23 ?_
    refine lv_topi (fun v10 ev10 => ?_)
    have hf := wc_st_e ev10 hf
    refine lv_aload_n hx hb wd_P_kilometresInGroup_24 rfl (lv_at hl 0 rfl) ?_
    refine wx_get (v := .ref (ad 26)) (C := "WidthCampaigns$Plant") (T := wx_TP) (N' := 15) hx hb hts wi_P hown hK hP 1 (by decide) rfl rfl 9 (by decide) wt_97 (fun _ h9 => h9) rfl wd_P_kilometresInGroup_25 ?_
    refine wx_getN (v := .ref (ad 28)) (C := "WidthCampaigns$WidthGroups") (T := wx_TG) (N' := 4) hx hb hts wi_G hown hK hP 26 (by decide) rfl rfl 1 (by decide) (hN.1 _ (List.mem_of_getElem? (i := 2) rfl) #[]) (fun _ h9 => h9) rfl wd_P_kilometresInGroup_28 ?_
    refine lv_iload_n hx hb wd_P_kilometresInGroup_31 rfl (lv_at hl 1 rfl) ?_
    obtain ⟨h11, hf⟩ := wc_gd_e hf
    refine wx_iald hx hb hK hP 28 (n := 4) (by decide) rfl (wc_in_e h11) wd_P_kilometresInGroup_32 ?_
    refine lv_topi (fun v12 ev12 => ?_)
    have hf := wc_st_e ev12 hf
    refine lv_icmp_gt (tgt := 40) hx hb wd_P_kilometresInGroup_33 (by decide) (fun c13 => ?_) (fun c13 => ?_)
    · have hf := wc_t c13 hf
      exact J40 a2 σ hf _ _ _ hP hD hS (lv_sub hl [0, 2] rfl)
    · have hf := wc_f c13 hf
      refine lv_iconst (v := 1) hx hb wd_P_kilometresInGroup_36 (by decide) ?_
      refine lv_goto (tgt := 41) hx hb wd_P_kilometresInGroup_37 (by decide) ?_
      exact J41 a2 1 σ hf _ _ _ hP hD hS (lv_sub hl [0, 2] rfl)
set_option maxHeartbeats 4000000 in
set_option maxRecDepth 100000 in
theorem wm_L_penaltySoFar (l : Launch) (D : va_G) (ad : Nat → Nat) (cI cZ cJ cG : ClassId) (sz : Nat) (b : Nat) (hb_ : b = 30 ∨ b = 49) (σ : wc_S) (res : Int32 × wc_S) (hf : wf_L_penaltySoFar b σ = some res) : Met l wy_L_penaltySoFar (wx_ws_L_penaltySoFar) ({ frames := 0, cells := 0, slots := 0, locals := 0 }) (va_Pc [.ref (ad b)] (wx_pre D ad cI cZ cJ cG σ sz)) (wx_Qi D ad cI cZ cJ cG res (va_A (wx_W ad cI cZ cJ cG σ) sz)) 0 0 (va_A (wx_W ad cI cZ cJ cG σ) sz) := by
  refine wx_ofW (cc := prog_3_method_2_code) (maxL := 1) (ret := (some .int)) (Qc := fun A => wx_Qi D ad cI cZ cJ cG res A) [.ref (ad b)] (by decide) rfl (Nat.le_of_ble_eq_true rfl) ?_
  intro p e s m args below meth c A ls hin hl
  obtain ⟨hx, hb, hr, hts, hown, hlocks, hml, hA, hP, hK, hD, hC, hN, hS⟩ := hin
  have hl : lv_has ls 1 [(0, .ref (ad b))] := hl
  unfold wf_L_penaltySoFar at hf
  refine lv_aload_n hx hb wd_L_penaltySoFar_0 rfl (lv_at hl 0 rfl) ?_
  refine wx_get (v := .ref (ad (b + 4))) (C := "WidthCampaigns$Line") (T := wx_TL) (N' := 10) hx hb hts wi_L hown hK hP b (wx_Ll0 hb_) (wx_L0 hb_ _) rfl 4 (by decide) wt_160 (fun _ h9 => h9) rfl wd_L_penaltySoFar_1 ?_
  refine lv_aload_n hx hb wd_L_penaltySoFar_4 rfl (lv_at hl 0 rfl) ?_
  refine wx_get (v := .int (σ b 9)) (C := "WidthCampaigns$Line") (T := wx_TL) (N' := 10) hx hb hts wi_L hown hK hP b (wx_Ll0 hb_) (wx_L0 hb_ _) rfl 9 (by decide) wt_165 (fun _ h9 => h9) rfl wd_L_penaltySoFar_5 ?_
  refine lv_topi (fun v1 ev1 => ?_)
  have hf := wc_st_e ev1 hf
  obtain ⟨h2, hf⟩ := wc_gd_e hf
  refine wx_iald hx hb hK hP (b + 4) (n := 10) (wx_Ll4 hb_) (wx_L4 hb_ _) (wc_in_e h2) wd_L_penaltySoFar_8 ?_
  refine lv_topi (fun v3 ev3 => ?_)
  have hf := wc_st_e ev3 hf
  exact wx_iret hx hb hr hlocks hf hP hS wd_L_penaltySoFar_9
set_option maxHeartbeats 4000000 in
set_option maxRecDepth 100000 in
theorem wm_L_changesSoFar (l : Launch) (D : va_G) (ad : Nat → Nat) (cI cZ cJ cG : ClassId) (sz : Nat) (b : Nat) (hb_ : b = 30 ∨ b = 49) (σ : wc_S) (res : Int32 × wc_S) (hf : wf_L_changesSoFar b σ = some res) : Met l wy_L_changesSoFar (wx_ws_L_changesSoFar) ({ frames := 0, cells := 0, slots := 0, locals := 0 }) (va_Pc [.ref (ad b)] (wx_pre D ad cI cZ cJ cG σ sz)) (wx_Qi D ad cI cZ cJ cG res (va_A (wx_W ad cI cZ cJ cG σ) sz)) 0 0 (va_A (wx_W ad cI cZ cJ cG σ) sz) := by
  refine wx_ofW (cc := prog_3_method_3_code) (maxL := 1) (ret := (some .int)) (Qc := fun A => wx_Qi D ad cI cZ cJ cG res A) [.ref (ad b)] (by decide) rfl (Nat.le_of_ble_eq_true rfl) ?_
  intro p e s m args below meth c A ls hin hl
  obtain ⟨hx, hb, hr, hts, hown, hlocks, hml, hA, hP, hK, hD, hC, hN, hS⟩ := hin
  have hl : lv_has ls 1 [(0, .ref (ad b))] := hl
  unfold wf_L_changesSoFar at hf
  refine lv_aload_n hx hb wd_L_changesSoFar_0 rfl (lv_at hl 0 rfl) ?_
  refine wx_get (v := .ref (ad (b + 5))) (C := "WidthCampaigns$Line") (T := wx_TL) (N' := 10) hx hb hts wi_L hown hK hP b (wx_Ll0 hb_) (wx_L0 hb_ _) rfl 5 (by decide) wt_161 (fun _ h9 => h9) rfl wd_L_changesSoFar_1 ?_
  refine lv_aload_n hx hb wd_L_changesSoFar_4 rfl (lv_at hl 0 rfl) ?_
  refine wx_get (v := .int (σ b 9)) (C := "WidthCampaigns$Line") (T := wx_TL) (N' := 10) hx hb hts wi_L hown hK hP b (wx_Ll0 hb_) (wx_L0 hb_ _) rfl 9 (by decide) wt_165 (fun _ h9 => h9) rfl wd_L_changesSoFar_5 ?_
  refine lv_topi (fun v1 ev1 => ?_)
  have hf := wc_st_e ev1 hf
  obtain ⟨h2, hf⟩ := wc_gd_e hf
  refine wx_iald hx hb hK hP (b + 5) (n := 10) (wx_Ll5 hb_) (wx_L5 hb_ _) (wc_in_e h2) wd_L_changesSoFar_8 ?_
  refine lv_topi (fun v3 ev3 => ?_)
  have hf := wc_st_e ev3 hf
  exact wx_iret hx hb hr hlocks hf hP hS wd_L_changesSoFar_9
set_option maxHeartbeats 4000000 in
set_option maxRecDepth 100000 in
theorem wm_L_movedSoFar (l : Launch) (D : va_G) (ad : Nat → Nat) (cI cZ cJ cG : ClassId) (sz : Nat) (b : Nat) (hb_ : b = 30 ∨ b = 49) (σ : wc_S) (res : Int32 × wc_S) (hf : wf_L_movedSoFar b σ = some res) : Met l wy_L_movedSoFar (wx_ws_L_movedSoFar) ({ frames := 0, cells := 0, slots := 0, locals := 0 }) (va_Pc [.ref (ad b)] (wx_pre D ad cI cZ cJ cG σ sz)) (wx_Qi D ad cI cZ cJ cG res (va_A (wx_W ad cI cZ cJ cG σ) sz)) 0 0 (va_A (wx_W ad cI cZ cJ cG σ) sz) := by
  refine wx_ofW (cc := prog_3_method_4_code) (maxL := 1) (ret := (some .int)) (Qc := fun A => wx_Qi D ad cI cZ cJ cG res A) [.ref (ad b)] (by decide) rfl (Nat.le_of_ble_eq_true rfl) ?_
  intro p e s m args below meth c A ls hin hl
  obtain ⟨hx, hb, hr, hts, hown, hlocks, hml, hA, hP, hK, hD, hC, hN, hS⟩ := hin
  have hl : lv_has ls 1 [(0, .ref (ad b))] := hl
  unfold wf_L_movedSoFar at hf
  refine lv_aload_n hx hb wd_L_movedSoFar_0 rfl (lv_at hl 0 rfl) ?_
  refine wx_get (v := .ref (ad (b + 6))) (C := "WidthCampaigns$Line") (T := wx_TL) (N' := 10) hx hb hts wi_L hown hK hP b (wx_Ll0 hb_) (wx_L0 hb_ _) rfl 6 (by decide) wt_162 (fun _ h9 => h9) rfl wd_L_movedSoFar_1 ?_
  refine lv_aload_n hx hb wd_L_movedSoFar_4 rfl (lv_at hl 0 rfl) ?_
  refine wx_get (v := .int (σ b 9)) (C := "WidthCampaigns$Line") (T := wx_TL) (N' := 10) hx hb hts wi_L hown hK hP b (wx_Ll0 hb_) (wx_L0 hb_ _) rfl 9 (by decide) wt_165 (fun _ h9 => h9) rfl wd_L_movedSoFar_5 ?_
  refine lv_topi (fun v1 ev1 => ?_)
  have hf := wc_st_e ev1 hf
  obtain ⟨h2, hf⟩ := wc_gd_e hf
  refine wx_iald hx hb hK hP (b + 6) (n := 10) (wx_Ll6 hb_) (wx_L6 hb_ _) (wc_in_e h2) wd_L_movedSoFar_8 ?_
  refine lv_topi (fun v3 ev3 => ?_)
  have hf := wc_st_e ev3 hf
  exact wx_iret hx hb hr hlocks hf hP hS wd_L_movedSoFar_9
set_option maxHeartbeats 4000000 in
set_option maxRecDepth 100000 in
theorem wm_L_clear (l : Launch) (D : va_G) (ad : Nat → Nat) (cI cZ cJ cG : ClassId) (sz : Nat) (b : Nat) (hb_ : b = 30 ∨ b = 49) (σ : wc_S) (res : wc_S) (hf : wf_L_clear b σ = some res) : Met l wy_L_clear (wx_ws_L_clear) ({ frames := 0, cells := 0, slots := 0, locals := 0 }) (va_Pc [.ref (ad b)] (wx_pre D ad cI cZ cJ cG σ sz)) (wx_Qv D ad cI cZ cJ cG res (va_A (wx_W ad cI cZ cJ cG σ) sz)) 0 0 (va_A (wx_W ad cI cZ cJ cG σ) sz) := by
  refine wx_ofW (cc := prog_3_method_5_code) (maxL := 2) (ret := none) (Qc := fun A => wx_Qv D ad cI cZ cJ cG res A) [.ref (ad b)] (by decide) rfl (Nat.le_of_ble_eq_true rfl) ?_
  intro p e s m args below meth c A ls hin hl
  obtain ⟨hx, hb, hr, hts, hown, hlocks, hml, hA, hP, hK, hD, hC, hN, hS⟩ := hin
  have hl : lv_has ls 2 [(0, .ref (ad b))] := hl
  have J7 : ∀ (n : Nat) (x1 : Int32) (σ : wc_S), wf_L_clear_7 b n x1 σ = some res → wx_Arr p l e ({ frames := 0, cells := 0, slots := 0, locals := 0 }) s m args below meth c D ad cI cZ cJ cG A (MQ below (wx_Qv D ad cI cZ cJ cG res A) args s 0 0 A) 2 0 0 7 [(0, .ref (ad b)), (1, .int x1)] [] σ := by
    intro  n
    induction n with
    | zero => intro x1 σ hf; exact absurd hf (by intro h9; cases h9)
    | succ n hk7 =>
      intro x1 σ hf H locs ls hP hD hS hl
      have hf : wf_L_clear_7_b b (wf_L_clear_7 b n) x1 σ = some res := hf
      unfold wf_L_clear_7_b at hf
      refine lv_iload_n hx hb wd_L_clear_7 rfl (lv_at hl 1 rfl) ?_
      refine lv_bipush (v := 9) hx hb wd_L_clear_8 (by decide) ?_
      refine lv_icmp_ge (tgt := 26) hx hb wd_L_clear_10 (by decide) (fun c2 => ?_) (fun c2 => ?_)
      · have hf := wc_t c2 hf
        exact wx_vret hx hb hr hlocks hf hP hS wd_L_clear_26
      · have hf := wc_f c2 hf
        refine lv_aload_n hx hb wd_L_clear_13 rfl (lv_at hl 0 rfl) ?_
        refine wx_get (v := .ref (ad (b + 2))) (C := "WidthCampaigns$Line") (T := wx_TL) (N' := 10) hx hb hts wi_L hown hK hP b (wx_Ll0 hb_) (wx_L0 hb_ _) rfl 2 (by decide) wt_157 (fun _ h9 => h9) rfl wd_L_clear_14 ?_
        refine lv_iload_n hx hb wd_L_clear_17 rfl (lv_at hl 1 rfl) ?_
        refine lv_iconst (v := 0) hx hb wd_L_clear_18 (by decide) ?_
        obtain ⟨h3, hf⟩ := wc_gd_e hf
        refine wx_zast hx hb hK hP hD hS (b + 2) (n := 9) (wx_Ll2 hb_) (fun _ => (wx_L2 hb_ _)) h3 wd_L_clear_19 (fun σ4 H locs eσ4 hP hD hS => ?_)
        have hf := wc_st_e eσ4 hf
        obtain ⟨v5, ev5⟩ : ∃ y : Int32, y = x1 + 1 := ⟨_, rfl⟩
        have hf := wc_st_e ev5 hf
        refine lv_iinc (v := v5) (lv' := [(1, .int v5), (0, .ref (ad b))]) hx hb wd_L_clear_20 hl (k := 1) rfl (by rw [ev5]; rfl) (by decide) rfl (fun ls hl => ?_)
        refine lv_goto (tgt := 7) hx hb wd_L_clear_23 (by decide) ?_
        exact hk7 v5 σ4 hf _ _ _ hP hD hS (lv_sub hl [1, 0] rfl)
  unfold wf_L_clear at hf
  refine lv_aload_n hx hb wd_L_clear_0 rfl (lv_at hl 0 rfl) ?_
  refine lv_iconst (v := 0) hx hb wd_L_clear_1 (by decide) ?_
  refine wx_put (x := 0) (ty := .int) (C := "WidthCampaigns$Line") (T := wx_TL) (N' := 10) hx hb hts wi_L wx_tL wx_toL wx_nL hown hK hP hD hS b (wx_Ll0 hb_) (fun _ => (wx_L0 hb_ _)) rfl 9 (by decide) wt_165 (fun _ h9 => h9) rfl (by decide +kernel) rfl rfl (Nat.le_of_ble_eq_true rfl) rfl wd_L_clear_2 (fun σ1 H locs eσ1 hP hD hS => ?_)
  have hf := wc_st_e eσ1 hf
  refine lv_iconst (v := 0) hx hb wd_L_clear_5 (by decide) ?_
  refine lv_istore_n (lv' := [(1, .int 0), (0, .ref (ad b))]) hx hb wd_L_clear_6 rfl hl (by decide) rfl (fun ls hl => ?_)
  exact J7 16 0 σ1 hf _ _ _ hP hD hS (lv_sub hl [1, 0] rfl)
set_option maxHeartbeats 4000000 in
set_option maxRecDepth 100000 in
theorem wm_L_mayFollow (l : Launch) (D : va_G) (ad : Nat → Nat) (cI cZ cJ cG : ClassId) (sz : Nat) (b : Nat) (hb_ : b = 30 ∨ b = 49) (a1 : Int32) (a2 : Int32) (σ : wc_S) (res : Int32 × wc_S) (hf : wf_L_mayFollow b a1 a2 σ = some res) : Met l wy_L_mayFollow (wx_ws_L_mayFollow) ({ frames := 0, cells := 0, slots := 0, locals := 0 }) (va_Pc [.ref (ad b), .int a1, .int a2] (wx_pre D ad cI cZ cJ cG σ sz)) (wx_Qi D ad cI cZ cJ cG res (va_A (wx_W ad cI cZ cJ cG σ) sz)) 0 0 (va_A (wx_W ad cI cZ cJ cG σ) sz) := by
  refine wx_ofW (cc := prog_3_method_8_code) (maxL := 4) (ret := (some .boolean)) (Qc := fun A => wx_Qi D ad cI cZ cJ cG res A) [.ref (ad b), .int a1, .int a2] (by decide) rfl (Nat.le_of_ble_eq_true rfl) ?_
  intro p e s m args below meth c A ls hin hl
  obtain ⟨hx, hb, hr, hts, hown, hlocks, hml, hA, hP, hK, hD, hC, hN, hS⟩ := hin
  have hl : lv_has ls 4 [(0, .ref (ad b)), (1, .int a1), (2, .int a2)] := hl
  unfold wf_L_mayFollow at hf
  refine lv_aload_n hx hb wd_L_mayFollow_0 rfl (lv_at hl 0 rfl) ?_
  refine wx_get (v := .ref (ad 1)) (C := "WidthCampaigns$Line") (T := wx_TL) (N' := 10) hx hb hts wi_L hown hK hP b (wx_Ll0 hb_) (wx_L0 hb_ _) rfl 0 (by decide) wt_153 (fun _ h9 => h9) rfl wd_L_mayFollow_1 ?_
  refine wx_getN (v := .ref (ad 8)) (C := "WidthCampaigns$Plant") (T := wx_TP) (N' := 15) hx hb hts wi_P hown hK hP 1 (by decide) rfl rfl 6 (by decide) (hN.1 _ (List.mem_of_getElem? (i := 3) rfl) #[]) (fun _ h9 => h9) rfl wd_L_mayFollow_4 ?_
  refine lv_iload_n hx hb wd_L_mayFollow_7 rfl (lv_at hl 1 rfl) ?_
  obtain ⟨h1, hf⟩ := wc_gd_e hf
  refine wx_aald (bs := 9) hx hb hK hP 8 (n := 9) (by decide) rfl h1 wd_L_mayFollow_8 ?_
  refine lv_iload_n hx hb wd_L_mayFollow_9 rfl (lv_at hl 2 rfl) ?_
  obtain ⟨h2, hf⟩ := wc_gd_e hf
  refine wx_iald hx hb hK hP (9 + a1.toNatClampNeg) (n := 9) (wx_g8l h1) (wx_g8 h1 _) (wc_in_e h2) wd_L_mayFollow_10 ?_
  refine lv_topi (fun v3 ev3 => ?_)
  have hf := wc_st_e ev3 hf
  refine lv_iconst (v := (-1)) hx hb wd_L_mayFollow_11 (by decide) ?_
  refine lv_icmp_ne (tgt := 17) hx hb wd_L_mayFollow_12 (by decide) (fun c4 => ?_) (fun c4 => ?_)
  · have hf := wc_f c4 hf
    refine lv_aload_n hx hb wd_L_mayFollow_17 rfl (lv_at hl 0 rfl) ?_
    refine wx_get (v := .ref (ad 1)) (C := "WidthCampaigns$Line") (T := wx_TL) (N' := 10) hx hb hts wi_L hown hK hP b (wx_Ll0 hb_) (wx_L0 hb_ _) rfl 0 (by decide) wt_153 (fun _ h9 => h9) rfl wd_L_mayFollow_18 ?_
    refine wx_getN (v := .ref (ad 2)) (C := "WidthCampaigns$Plant") (T := wx_TP) (N' := 15) hx hb hts wi_P hown hK hP 1 (by decide) rfl rfl 0 (by decide) (hN.1 _ (List.mem_of_getElem? (i := 4) rfl) #[]) (fun _ h9 => h9) rfl wd_L_mayFollow_21 ?_
    refine lv_iload_n hx hb wd_L_mayFollow_24 rfl (lv_at hl 2 rfl) ?_
    obtain ⟨h5, hf⟩ := wc_gd_e hf
    refine wx_iald hx hb hK hP 2 (n := 9) (by decide) rfl (wc_in_e h5) wd_L_mayFollow_25 ?_
    refine lv_topi (fun v6 ev6 => ?_)
    have hf := wc_st_e ev6 hf
    refine lv_aload_n hx hb wd_L_mayFollow_26 rfl (lv_at hl 0 rfl) ?_
    refine wx_get (v := .ref (ad 1)) (C := "WidthCampaigns$Line") (T := wx_TL) (N' := 10) hx hb hts wi_L hown hK hP b (wx_Ll0 hb_) (wx_L0 hb_ _) rfl 0 (by decide) wt_153 (fun _ h9 => h9) rfl wd_L_mayFollow_27 ?_
    refine wx_getN (v := .ref (ad 2)) (C := "WidthCampaigns$Plant") (T := wx_TP) (N' := 15) hx hb hts wi_P hown hK hP 1 (by decide) rfl rfl 0 (by decide) (hN.1 _ (List.mem_of_getElem? (i := 4) rfl) #[]) (fun _ h9 => h9) rfl wd_L_mayFollow_30 ?_
    refine lv_iload_n hx hb wd_L_mayFollow_33 rfl (lv_at hl 1 rfl) ?_
    obtain ⟨h7, hf⟩ := wc_gd_e hf
    refine wx_iald hx hb hK hP 2 (n := 9) (by decide) rfl (wc_in_e h7) wd_L_mayFollow_34 ?_
    refine lv_topi (fun v8 ev8 => ?_)
    have hf := wc_st_e ev8 hf
    refine lv_isub hx hb wd_L_mayFollow_35 ?_
    refine lv_topi (fun v9 ev9 => ?_)
    have hf := wc_st_e ev9 hf
    refine lv_istore_n (lv' := [(3, .int v9), (0, .ref (ad b)), (1, .int a1), (2, .int a2)]) hx hb wd_L_mayFollow_36 rfl hl (by decide) rfl (fun ls hl => ?_)
    refine lv_aload_n hx hb wd_L_mayFollow_37 rfl (lv_at hl 1 rfl) ?_
    refine wx_get (v := .int (σ b 9)) (C := "WidthCampaigns$Line") (T := wx_TL) (N' := 10) hx hb hts wi_L hown hK hP b (wx_Ll0 hb_) (wx_L0 hb_ _) rfl 9 (by decide) wt_165 (fun _ h9 => h9) rfl wd_L_mayFollow_38 ?_
    refine lv_topi (fun v10 ev10 => ?_)
    have hf := wc_st_e ev10 hf
    refine lv_aload_n hx hb wd_L_mayFollow_41 rfl (lv_at hl 1 rfl) ?_
    refine wx_get (v := .ref (ad 1)) (C := "WidthCampaigns$Line") (T := wx_TL) (N' := 10) hx hb hts wi_L hown hK hP b (wx_Ll0 hb_) (wx_L0 hb_ _) rfl 0 (by decide) wt_153 (fun _ h9 => h9) rfl wd_L_mayFollow_42 ?_
    refine wx_getN (v := .int (σ 1 11)) (C := "WidthCampaigns$Plant") (T := wx_TP) (N' := 15) hx hb hts wi_P hown hK hP 1 (by decide) rfl rfl 11 (by decide) (hN.1 _ (List.mem_of_getElem? (i := 5) rfl) #[]) (fun _ h9 => h9) rfl wd_L_mayFollow_45 ?_
    refine lv_topi (fun v11 ev11 => ?_)
    have hf := wc_st_e ev11 hf
    refine lv_icmp_ge (tgt := 63) hx hb wd_L_mayFollow_48 (by decide) (fun c12 => ?_) (fun c12 => ?_)
    · have hf := wc_t c12 hf
      refine lv_iload_n hx hb wd_L_mayFollow_63 rfl (lv_at hl 0 rfl) ?_
      refine lv_if_gt (tgt := 71) hx hb wd_L_mayFollow_64 (by decide) (fun c13 => ?_) (fun c13 => ?_)
      · have hf := wc_t c13 hf
        refine lv_iconst (v := 0) hx hb wd_L_mayFollow_71 (by decide) ?_
        exact wx_zret hx hb hr narrow_b0 hlocks hf hP hS wd_L_mayFollow_72
      · have hf := wc_f c13 hf
        refine lv_iconst (v := 1) hx hb wd_L_mayFollow_67 (by decide) ?_
        refine lv_goto (tgt := 72) hx hb wd_L_mayFollow_68 (by decide) ?_
        exact wx_zret hx hb hr narrow_b1 hlocks hf hP hS wd_L_mayFollow_72
    · have hf := wc_f c12 hf
      refine lv_iload_n hx hb wd_L_mayFollow_51 rfl (lv_at hl 0 rfl) ?_
      refine lv_if_lt (tgt := 59) hx hb wd_L_mayFollow_52 (by decide) (fun c14 => ?_) (fun c14 => ?_)
      · have hf := wc_t c14 hf
        refine lv_iconst (v := 0) hx hb wd_L_mayFollow_59 (by decide) ?_
        refine lv_goto (tgt := 72) hx hb wd_L_mayFollow_60 (by decide) ?_
        exact wx_zret hx hb hr narrow_b0 hlocks hf hP hS wd_L_mayFollow_72
      · have hf := wc_f c14 hf
        refine lv_iconst (v := 1) hx hb wd_L_mayFollow_55 (by decide) ?_
        refine lv_goto (tgt := 72) hx hb wd_L_mayFollow_56 (by decide) ?_
        exact wx_zret hx hb hr narrow_b1 hlocks hf hP hS wd_L_mayFollow_72
  · have hf := wc_t c4 hf
    refine lv_iconst (v := 0) hx hb wd_L_mayFollow_15 (by decide) ?_
    exact wx_zret hx hb hr narrow_b0 hlocks hf hP hS wd_L_mayFollow_16
set_option maxHeartbeats 4000000 in
set_option maxRecDepth 100000 in
theorem wm_L_mayPut (l : Launch) (D : va_G) (ad : Nat → Nat) (cI cZ cJ cG : ClassId) (sz : Nat) (b : Nat) (hb_ : b = 30 ∨ b = 49) (a1 : Int32) (σ : wc_S) (res : Int32 × wc_S) (hf : wf_L_mayPut b a1 σ = some res) : Met l wy_L_mayPut (wx_ws_L_mayPut) ({ frames := 1, cells := 0, slots := 0, locals := 23 }) (va_Pc [.ref (ad b), .int a1] (wx_pre D ad cI cZ cJ cG σ sz)) (wx_Qi D ad cI cZ cJ cG res (va_A (wx_W ad cI cZ cJ cG σ) sz)) 0 0 (va_A (wx_W ad cI cZ cJ cG σ) sz) := by
  refine wx_ofW (cc := prog_3_method_7_code) (maxL := 2) (ret := (some .boolean)) (Qc := fun A => wx_Qi D ad cI cZ cJ cG res A) [.ref (ad b), .int a1] (by decide) rfl (Nat.le_of_ble_eq_true rfl) ?_
  intro p e s m args below meth c A ls hin hl
  obtain ⟨hx, hb, hr, hts, hown, hlocks, hml, hA, hP, hK, hD, hC, hN, hS⟩ := hin
  have hl : lv_has ls 2 [(0, .ref (ad b)), (1, .int a1)] := hl
  unfold wf_L_mayPut at hf
  refine lv_aload_n hx hb wd_L_mayPut_0 rfl (lv_at hl 0 rfl) ?_
  refine wx_get (v := .ref (ad (b + 2))) (C := "WidthCampaigns$Line") (T := wx_TL) (N' := 10) hx hb hts wi_L hown hK hP b (wx_Ll0 hb_) (wx_L0 hb_ _) rfl 2 (by decide) wt_157 (fun _ h9 => h9) rfl wd_L_mayPut_1 ?_
  refine lv_iload_n hx hb wd_L_mayPut_4 rfl (lv_at hl 1 rfl) ?_
  obtain ⟨h1, hf⟩ := wc_gd_e hf
  refine wx_zald hx hb hK hP (b + 2) (n := 9) (wx_Ll2 hb_) (wx_L2 hb_ _) (wc_in_e h1) wd_L_mayPut_5 ?_
  refine lv_topi (fun v2 ev2 => ?_)
  have hf := wc_st_e ev2 hf
  refine lv_if_ne (tgt := 25) hx hb wd_L_mayPut_6 (by decide) (fun c3 => ?_) (fun c3 => ?_)
  · have hf := wc_f c3 hf
    refine lv_iconst (v := 0) hx hb wd_L_mayPut_25 (by decide) ?_
    exact wx_zret hx hb hr narrow_b0 hlocks hf hP hS wd_L_mayPut_26
  · have hf := wc_t c3 hf
    refine lv_aload_n hx hb wd_L_mayPut_9 rfl (lv_at hl 0 rfl) ?_
    refine wx_get (v := .int (σ b 9)) (C := "WidthCampaigns$Line") (T := wx_TL) (N' := 10) hx hb hts wi_L hown hK hP b (wx_Ll0 hb_) (wx_L0 hb_ _) rfl 9 (by decide) wt_165 (fun _ h9 => h9) rfl wd_L_mayPut_10 ?_
    refine lv_topi (fun v4 ev4 => ?_)
    have hf := wc_st_e ev4 hf
    refine lv_aload_n hx hb wd_L_mayPut_13 rfl (lv_at hl 0 rfl) ?_
    refine wx_get (v := .ref (ad 1)) (C := "WidthCampaigns$Line") (T := wx_TL) (N' := 10) hx hb hts wi_L hown hK hP b (wx_Ll0 hb_) (wx_L0 hb_ _) rfl 0 (by decide) wt_153 (fun _ h9 => h9) rfl wd_L_mayPut_14 ?_
    refine wx_getN (v := .ref (ad 6)) (C := "WidthCampaigns$Plant") (T := wx_TP) (N' := 15) hx hb hts wi_P hown hK hP 1 (by decide) rfl rfl 4 (by decide) (hN.1 _ (List.mem_of_getElem? (i := 6) rfl) #[]) (fun _ h9 => h9) rfl wd_L_mayPut_17 ?_
    refine lv_iload_n hx hb wd_L_mayPut_20 rfl (lv_at hl 1 rfl) ?_
    obtain ⟨h5, hf⟩ := wc_gd_e hf
    refine wx_iald hx hb hK hP 6 (n := 9) (by decide) rfl (wc_in_e h5) wd_L_mayPut_21 ?_
    refine lv_topi (fun v6 ev6 => ?_)
    have hf := wc_st_e ev6 hf
    refine lv_icmp_le (tgt := 27) hx hb wd_L_mayPut_22 (by decide) (fun c7 => ?_) (fun c7 => ?_)
    · have hf := wc_t c7 hf
      refine lv_aload_n hx hb wd_L_mayPut_27 rfl (lv_at hl 0 rfl) ?_
      refine wx_get (v := .int (σ b 9)) (C := "WidthCampaigns$Line") (T := wx_TL) (N' := 10) hx hb hts wi_L hown hK hP b (wx_Ll0 hb_) (wx_L0 hb_ _) rfl 9 (by decide) wt_165 (fun _ h9 => h9) rfl wd_L_mayPut_28 ?_
      refine lv_topi (fun v8 ev8 => ?_)
      have hf := wc_st_e ev8 hf
      refine lv_if_eq (tgt := 53) hx hb wd_L_mayPut_31 (by decide) (fun c9 => ?_) (fun c9 => ?_)
      · have hf := wc_t c9 hf
        refine lv_iconst (v := 1) hx hb wd_L_mayPut_53 (by decide) ?_
        refine lv_goto (tgt := 58) hx hb wd_L_mayPut_54 (by decide) ?_
        exact wx_zret hx hb hr narrow_b1 hlocks hf hP hS wd_L_mayPut_58
      · have hf := wc_f c9 hf
        refine lv_aload_n hx hb wd_L_mayPut_34 rfl (lv_at hl 0 rfl) ?_
        refine lv_aload_n hx hb wd_L_mayPut_35 rfl (lv_at hl 0 rfl) ?_
        refine wx_get (v := .ref (ad (b + 1))) (C := "WidthCampaigns$Line") (T := wx_TL) (N' := 10) hx hb hts wi_L hown hK hP b (wx_Ll0 hb_) (wx_L0 hb_ _) rfl 1 (by decide) wt_154 (fun _ h9 => h9) rfl wd_L_mayPut_36 ?_
        refine lv_aload_n hx hb wd_L_mayPut_39 rfl (lv_at hl 0 rfl) ?_
        refine wx_get (v := .int (σ b 9)) (C := "WidthCampaigns$Line") (T := wx_TL) (N' := 10) hx hb hts wi_L hown hK hP b (wx_Ll0 hb_) (wx_L0 hb_ _) rfl 9 (by decide) wt_165 (fun _ h9 => h9) rfl wd_L_mayPut_40 ?_
        refine lv_topi (fun v10 ev10 => ?_)
        have hf := wc_st_e ev10 hf
        refine lv_iconst (v := 1) hx hb wd_L_mayPut_43 (by decide) ?_
        refine lv_isub hx hb wd_L_mayPut_44 ?_
        refine lv_topi (fun v11 ev11 => ?_)
        have hf := wc_st_e ev11 hf
        obtain ⟨h12, hf⟩ := wc_gd_e hf
        refine wx_iald hx hb hK hP (b + 1) (n := 9) (wx_Ll1 hb_) (wx_L1 hb_ _) (wc_in_e h12) wd_L_mayPut_45 ?_
        refine lv_topi (fun v13 ev13 => ?_)
        have hf := wc_st_e ev13 hf
        refine lv_iload_n hx hb wd_L_mayPut_46 rfl (lv_at hl 1 rfl) ?_
        obtain ⟨r15, σ14, hq, hf⟩ := wc_b2_e hf
        refine wx_calli (va_runV (As := [.int v13, .int a1]) (rest := []) ⟨hx, hb, hml, hown, hts⟩ (wm_L_mayFollow l D ad cI cZ cJ cG _ b hb_ v13 a1 σ _ hq) (wx_cwV 2 hts wt_485 wt_484 wp_16 wt_5 wt_482 wh_L_mayFollow rfl rfl ⟨Nat.le_of_ble_eq_true rfl, Nat.le_of_ble_eq_true rfl⟩) (wx_preV hK hP hD hS hA hC (wx_Ll0 hb_) (wx_L0 hb_ _) rfl) rfl rfl hl.1 rfl (lv_room (Nat.le_of_ble_eq_true rfl)) wd_L_mayPut_47 ⟨Nat.le_of_ble_eq_true rfl, Nat.le_of_ble_eq_true rfl⟩) hD hS hA (fun H locs hP hD hS => ?_)
        refine lv_if_eq (tgt := 57) hx hb wd_L_mayPut_50 (by decide) (fun c16 => ?_) (fun c16 => ?_)
        · have hf := wc_t c16 hf
          refine lv_iconst (v := 0) hx hb wd_L_mayPut_57 (by decide) ?_
          exact wx_zret hx hb hr narrow_b0 hlocks hf hP hS wd_L_mayPut_58
        · have hf := wc_f c16 hf
          refine lv_iconst (v := 1) hx hb wd_L_mayPut_53 (by decide) ?_
          refine lv_goto (tgt := 58) hx hb wd_L_mayPut_54 (by decide) ?_
          exact wx_zret hx hb hr narrow_b1 hlocks hf hP hS wd_L_mayPut_58
    · have hf := wc_f c7 hf
      refine lv_iconst (v := 0) hx hb wd_L_mayPut_25 (by decide) ?_
      exact wx_zret hx hb hr narrow_b0 hlocks hf hP hS wd_L_mayPut_26
