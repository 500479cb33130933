set_option maxHeartbeats 4000000 in
set_option maxRecDepth 100000 in
theorem wm_M_isWorn (l : Launch) (D : va_G) (ad : Nat → Nat) (cI cZ cJ cG : ClassId) (sz : Nat) (k1 : Nat) (hk1_ : k1 = 85 ∨ k1 = 86) (a2 : Int32) (a3 : Int32) (σ : wc_S) (res : Int32 × wc_S) (hf : wf_M_isWorn k1 a2 a3 σ = some res) : Met l wy_M_isWorn (wx_ws_M_isWorn) ({ frames := 0, cells := 0, slots := 0, locals := 0 }) (va_Pc [.ref (ad 71), .ref (ad k1), .int a2, .int a3] (wx_pre D ad cI cZ cJ cG σ sz)) (wx_Qi D ad cI cZ cJ cG res (va_A (wx_W ad cI cZ cJ cG σ) sz)) 0 0 (va_A (wx_W ad cI cZ cJ cG σ) sz) := by
  refine wx_ofW (cc := prog_8_method_17_code) (maxL := 9) (ret := (some .boolean)) (Qc := fun A => wx_Qi D ad cI cZ cJ cG res A) [.ref (ad 71), .ref (ad k1), .int a2, .int a3] (by decide) rfl (Nat.le_of_ble_eq_true rfl) ?_
  intro p e s m args below meth c A ls hin hl
  obtain ⟨hx, hb, hr, hts, hown, hlocks, hml, hA, hP, hK, hD, hC, hN, hS⟩ := hin
  have hl : lv_has ls 9 [(0, .ref (ad 71)), (1, .ref (ad k1)), (2, .int a2), (3, .int a3)] := hl
  have J187 : ∀ (k46 : Int32 → Int32 → Int32 → wc_S → Option (Int32 × wc_S)) (hk46 : (∀ (x2 : Int32) (x3 : Int32) (x5 : Int32) (σ : wc_S), k46 x2 x3 x5 σ = some res → wx_Arr p l e ({ frames := 0, cells := 0, slots := 0, locals := 0 }) s m args below meth c D ad cI cZ cJ cG A (MQ below (wx_Qi D ad cI cZ cJ cG res A) args s 0 0 A) 9 0 0 46 [(0, .ref (ad 71)), (1, .ref (ad k1)), (2, .int x2), (3, .int x3), (5, .int x5)] [] σ)) (x2 : Int32) (x3 : Int32) (x5 : Int32) (σ : wc_S), wf_M_isWorn_187 k1 k46 x2 x3 x5 σ = some res → wx_Arr p l e ({ frames := 0, cells := 0, slots := 0, locals := 0 }) s m args below meth c D ad cI cZ cJ cG A (MQ below (wx_Qi D ad cI cZ cJ cG res A) args s 0 0 A) 9 0 0 187 [(0, .ref (ad 71)), (1, .ref (ad k1)), (2, .int x2), (3, .int x3), (5, .int x5)] [] σ := by
    intro k46 hk46 x2 x3 x5 σ hf H locs ls hP hD hS hl
    unfold wf_M_isWorn_187 at hf
    obtain ⟨v15, ev15⟩ : ∃ y : Int32, y = x5 + 1 := ⟨_, rfl⟩
    have hf := wc_st_e ev15 hf
    refine lv_iinc (v := v15) (lv' := [(5, .int v15), (0, .ref (ad 71)), (1, .ref (ad k1)), (2, .int x2), (3, .int x3)]) hx hb wd_M_isWorn_187 hl (k := 4) rfl (by rw [ev15]; rfl) (by decide) rfl (fun ls hl => ?_)
    refine lv_goto (tgt := 46) hx hb wd_M_isWorn_190 (by decide) ?_
    exact hk46 x2 x3 v15 σ hf _ _ _ hP hD hS (lv_sub hl [1, 2, 3, 4, 0] rfl)
  have J162 : ∀ (k46 : Int32 → Int32 → Int32 → wc_S → Option (Int32 × wc_S)) (hk46 : (∀ (x2 : Int32) (x3 : Int32) (x5 : Int32) (σ : wc_S), k46 x2 x3 x5 σ = some res → wx_Arr p l e ({ frames := 0, cells := 0, slots := 0, locals := 0 }) s m args below meth c D ad cI cZ cJ cG A (MQ below (wx_Qi D ad cI cZ cJ cG res A) args s 0 0 A) 9 0 0 46 [(0, .ref (ad 71)), (1, .ref (ad k1)), (2, .int x2), (3, .int x3), (5, .int x5)] [] σ)) (k104 : Int32 → Int32 → Int32 → Int32 → Int32 → Int32 → wc_S → Option (Int32 × wc_S)) (hk104 : (∀ (x2 : Int32) (x3 : Int32) (x5 : Int32) (x6 : Int32) (x7 : Int32) (x8 : Int32) (σ : wc_S), k104 x2 x3 x5 x6 x7 x8 σ = some res → wx_Arr p l e ({ frames := 0, cells := 0, slots := 0, locals := 0 }) s m args below meth c D ad cI cZ cJ cG A (MQ below (wx_Qi D ad cI cZ cJ cG res A) args s 0 0 A) 9 0 0 104 [(0, .ref (ad 71)), (1, .ref (ad k1)), (2, .int x2), (3, .int x3), (5, .int x5), (6, .int x6), (7, .int x7), (8, .int x8)] [] σ)) (x2 : Int32) (x3 : Int32) (x5 : Int32) (x6 : Int32) (x7 : Int32) (x8 : Int32) (σ : wc_S), wf_M_isWorn_162 k1 k46 k104 x2 x3 x5 x6 x7 x8 σ = some res → wx_Arr p l e ({ frames := 0, cells := 0, slots := 0, locals := 0 }) s m args below meth c D ad cI cZ cJ cG A (MQ below (wx_Qi D ad cI cZ cJ cG res A) args s 0 0 A) 9 0 0 162 [(0, .ref (ad 71)), (1, .ref (ad k1)), (2, .int x2), (3, .int x3), (5, .int x5), (6, .int x6), (7, .int x7), (8, .int x8)] [] σ := by
    intro k46 hk46 k104 hk104 x2 x3 x5 x6 x7 x8 σ hf H locs ls hP hD hS hl
    unfold wf_M_isWorn_162 at hf
    obtain ⟨v26, ev26⟩ : ∃ y : Int32, y = x8 + 1 := ⟨_, rfl⟩
    have hf := wc_st_e ev26 hf
    refine lv_iinc (v := v26) (lv' := [(8, .int v26), (0, .ref (ad 71)), (1, .ref (ad k1)), (2, .int x2), (3, .int x3), (5, .int x5), (6, .int x6), (7, .int x7)]) hx hb wd_M_isWorn_162 hl (k := 7) rfl (by rw [ev26]; rfl) (by decide) rfl (fun ls hl => ?_)
    refine lv_goto (tgt := 104) hx hb wd_M_isWorn_165 (by decide) ?_
    exact hk104 x2 x3 x5 x6 x7 v26 σ hf _ _ _ hP hD hS (lv_sub hl [1, 2, 3, 4, 5, 6, 7, 0] rfl)
  have J104 : ∀ (k46 : Int32 → Int32 → Int32 → wc_S → Option (Int32 × wc_S)) (hk46 : (∀ (x2 : Int32) (x3 : Int32) (x5 : Int32) (σ : wc_S), k46 x2 x3 x5 σ = some res → wx_Arr p l e ({ frames := 0, cells := 0, slots := 0, locals := 0 }) s m args below meth c D ad cI cZ cJ cG A (MQ below (wx_Qi D ad cI cZ cJ cG res A) args s 0 0 A) 9 0 0 46 [(0, .ref (ad 71)), (1, .ref (ad k1)), (2, .int x2), (3, .int x3), (5, .int x5)] [] σ)) (n : Nat) (x2 : Int32) (x3 : Int32) (x5 : Int32) (x6 : Int32) (x7 : Int32) (x8 : Int32) (σ : wc_S), wf_M_isWorn_104 k1 k46 n x2 x3 x5 x6 x7 x8 σ = some res → wx_Arr p l e ({ frames := 0, cells := 0, slots := 0, locals := 0 }) s m args below meth c D ad cI cZ cJ cG A (MQ below (wx_Qi D ad cI cZ cJ cG res A) args s 0 0 A) 9 0 0 104 [(0, .ref (ad 71)), (1, .ref (ad k1)), (2, .int x2), (3, .int x3), (5, .int x5), (6, .int x6), (7, .int x7), (8, .int x8)] [] σ := by
    intro k46 hk46 n
    induction n with
    | zero => intro x2 x3 x5 x6 x7 x8 σ hf; exact absurd hf (by intro h9; cases h9)
    | succ n hk104 =>
      intro x2 x3 x5 x6 x7 x8 σ hf H locs ls hP hD hS hl
      have hf : wf_M_isWorn_104_b k1 k46 (wf_M_isWorn_104 k1 k46 n) x2 x3 x5 x6 x7 x8 σ = some res := hf
      unfold wf_M_isWorn_104_b at hf
      refine lv_iload hx hb wd_M_isWorn_104 (lv_at hl 7 rfl) ?_
      refine lv_iload_n hx hb wd_M_isWorn_106 rfl (lv_at hl 3 rfl) ?_
      refine lv_icmp_gt (tgt := 168) hx hb wd_M_isWorn_107 (by decide) (fun c13 => ?_) (fun c13 => ?_)
      · have hf := wc_t c13 hf
        refine lv_iload hx hb wd_M_isWorn_168 (lv_at hl 5 rfl) ?_
        refine lv_if_eq (tgt := 187) hx hb wd_M_isWorn_170 (by decide) (fun c14 => ?_) (fun c14 => ?_)
        · have hf := wc_t c14 hf
          exact J187 k46 hk46 x2 x3 x5 σ hf _ _ _ hP hD hS (lv_sub hl [0, 1, 2, 3, 4] rfl)
        · have hf := wc_f c14 hf
          refine lv_iload hx hb wd_M_isWorn_173 (lv_at hl 6 rfl) ?_
          refine lv_aload_n hx hb wd_M_isWorn_175 rfl (lv_at hl 0 rfl) ?_
          refine wx_get (v := .ref (ad 84)) (C := "WidthCampaignsModel") (T := wx_TM) (N' := 29) hx hb hts wi_M hown hK hP 71 (by decide) rfl rfl 15 (by decide) wt_645 (fun _ h9 => h9) rfl wd_M_isWorn_176 ?_
          refine lv_iload hx hb wd_M_isWorn_179 (lv_at hl 4 rfl) ?_
          obtain ⟨h16, hf⟩ := wc_gd_e hf
          refine wx_iald hx hb hK hP 84 (n := 4) (by decide) rfl (wc_in_e h16) wd_M_isWorn_181 ?_
          refine lv_topi (fun v17 ev17 => ?_)
          have hf := wc_st_e ev17 hf
          refine lv_icmp_le (tgt := 187) hx hb wd_M_isWorn_182 (by decide) (fun c18 => ?_) (fun c18 => ?_)
          · have hf := wc_t c18 hf
            exact J187 k46 hk46 x2 x3 x5 σ hf _ _ _ hP hD hS (lv_sub hl [0, 1, 2, 3, 4] rfl)
          · have hf := wc_f c18 hf
            refine lv_iconst (v := 1) hx hb wd_M_isWorn_185 (by decide) ?_
            exact wx_zret hx hb hr narrow_b1 hlocks hf hP hS wd_M_isWorn_186
      · have hf := wc_f c13 hf
        refine lv_aload_n hx hb wd_M_isWorn_110 rfl (lv_at hl 0 rfl) ?_
        refine wx_get (v := .ref (ad 72)) (C := "WidthCampaignsModel") (T := wx_TM) (N' := 29) hx hb hts wi_M hown hK hP 71 (by decide) rfl rfl 2 (by decide) wt_632 (fun _ h9 => h9) rfl wd_M_isWorn_111 ?_
        refine lv_aload_n hx hb wd_M_isWorn_114 rfl (lv_at hl 1 rfl) ?_
        refine lv_iload hx hb wd_M_isWorn_115 (lv_at hl 7 rfl) ?_
        obtain ⟨h19, hf⟩ := wc_gd_e hf
        refine wx_iald hx hb hK hP k1 (n := 9) (wx_Ml hk1_) (wx_M hk1_ _) (wc_in_e h19) wd_M_isWorn_117 ?_
        refine lv_topi (fun v20 ev20 => ?_)
        have hf := wc_st_e ev20 hf
        obtain ⟨h21, hf⟩ := wc_gd_e hf
        refine wx_iald hx hb hK hP 72 (n := 9) (by decide) rfl (wc_in_e h21) wd_M_isWorn_118 ?_
        refine lv_topi (fun v22 ev22 => ?_)
        have hf := wc_st_e ev22 hf
        refine lv_aload_n hx hb wd_M_isWorn_119 rfl (lv_at hl 0 rfl) ?_
        refine wx_get (v := .ref (ad 82)) (C := "WidthCampaignsModel") (T := wx_TM) (N' := 29) hx hb hts wi_M hown hK hP 71 (by decide) rfl rfl 13 (by decide) wt_643 (fun _ h9 => h9) rfl wd_M_isWorn_120 ?_
        refine lv_iload hx hb wd_M_isWorn_123 (lv_at hl 4 rfl) ?_
        obtain ⟨h23, hf⟩ := wc_gd_e hf
        refine wx_iald hx hb hK hP 82 (n := 4) (by decide) rfl (wc_in_e h23) wd_M_isWorn_125 ?_
        refine lv_topi (fun v24 ev24 => ?_)
        have hf := wc_st_e ev24 hf
        refine lv_icmp_lt (tgt := 162) hx hb wd_M_isWorn_126 (by decide) (fun c25 => ?_) (fun c25 => ?_)
        · have hf := wc_t c25 hf
          exact J162 k46 hk46 (wf_M_isWorn_104 k1 k46 n) hk104 x2 x3 x5 x6 x7 x8 σ hf _ _ _ hP hD hS (lv_sub hl [0, 1, 2, 3, 4, 5, 6, 7] rfl)
        · have hf := wc_f c25 hf
          refine lv_aload_n hx hb wd_M_isWorn_129 rfl (lv_at hl 0 rfl) ?_
          refine wx_get (v := .ref (ad 72)) (C := "WidthCampaignsModel") (T := wx_TM) (N' := 29) hx hb hts wi_M hown hK hP 71 (by decide) rfl rfl 2 (by decide) wt_632 (fun _ h9 => h9) rfl wd_M_isWorn_130 ?_
          refine lv_aload_n hx hb wd_M_isWorn_133 rfl (lv_at hl 1 rfl) ?_
          refine lv_iload hx hb wd_M_isWorn_134 (lv_at hl 7 rfl) ?_
          obtain ⟨h27, hf⟩ := wc_gd_e hf
          refine wx_iald hx hb hK hP k1 (n := 9) (wx_Ml hk1_) (wx_M hk1_ _) (wc_in_e h27) wd_M_isWorn_136 ?_
          refine lv_topi (fun v28 ev28 => ?_)
          have hf := wc_st_e ev28 hf
          obtain ⟨h29, hf⟩ := wc_gd_e hf
          refine wx_iald hx hb hK hP 72 (n := 9) (by decide) rfl (wc_in_e h29) wd_M_isWorn_137 ?_
          refine lv_topi (fun v30 ev30 => ?_)
          have hf := wc_st_e ev30 hf
          refine lv_aload_n hx hb wd_M_isWorn_138 rfl (lv_at hl 0 rfl) ?_
          refine wx_get (v := .ref (ad 83)) (C := "WidthCampaignsModel") (T := wx_TM) (N' := 29) hx hb hts wi_M hown hK hP 71 (by decide) rfl rfl 14 (by decide) wt_644 (fun _ h9 => h9) rfl wd_M_isWorn_139 ?_
          refine lv_iload hx hb wd_M_isWorn_142 (lv_at hl 4 rfl) ?_
          obtain ⟨h31, hf⟩ := wc_gd_e hf
          refine wx_iald hx hb hK hP 83 (n := 4) (by decide) rfl (wc_in_e h31) wd_M_isWorn_144 ?_
          refine lv_topi (fun v32 ev32 => ?_)
          have hf := wc_st_e ev32 hf
          refine lv_icmp_gt (tgt := 162) hx hb wd_M_isWorn_145 (by decide) (fun c33 => ?_) (fun c33 => ?_)
          · have hf := wc_t c33 hf
            exact J162 k46 hk46 (wf_M_isWorn_104 k1 k46 n) hk104 x2 x3 x5 x6 x7 x8 σ hf _ _ _ hP hD hS (lv_sub hl [0, 1, 2, 3, 4, 5, 6, 7] rfl)
          · have hf := wc_f c33 hf
            refine lv_iload hx hb wd_M_isWorn_148 (lv_at hl 6 rfl) ?_
            refine lv_aload_n hx hb wd_M_isWorn_150 rfl (lv_at hl 0 rfl) ?_
            refine wx_get (v := .ref (ad 75)) (C := "WidthCampaignsModel") (T := wx_TM) (N' := 29) hx hb hts wi_M hown hK hP 71 (by decide) rfl rfl 5 (by decide) wt_635 (fun _ h9 => h9) rfl wd_M_isWorn_151 ?_
            refine lv_aload_n hx hb wd_M_isWorn_154 rfl (lv_at hl 1 rfl) ?_
            refine lv_iload hx hb wd_M_isWorn_155 (lv_at hl 7 rfl) ?_
            obtain ⟨h34, hf⟩ := wc_gd_e hf
            refine wx_iald hx hb hK hP k1 (n := 9) (wx_Ml hk1_) (wx_M hk1_ _) (wc_in_e h34) wd_M_isWorn_157 ?_
            refine lv_topi (fun v35 ev35 => ?_)
            have hf := wc_st_e ev35 hf
            obtain ⟨h36, hf⟩ := wc_gd_e hf
            refine wx_iald hx hb hK hP 75 (n := 9) (by decide) rfl (wc_in_e h36) wd_M_isWorn_158 ?_
            refine lv_topi (fun v37 ev37 => ?_)
            have hf := wc_st_e ev37 hf
            refine lv_iadd hx hb wd_M_isWorn_159 ?_
            refine lv_topi (fun v38 ev38 => ?_)
            have hf := wc_st_e ev38 hf
            refine lv_istore (lv' := [(7, .int v38), (0, .ref (ad 71)), (1, .ref (ad k1)), (2, .int x2), (3, .int x3), (5, .int x5), (6, .int x6), (8, .int x8)]) hx hb wd_M_isWorn_160 hl (by decide) rfl (fun ls hl => ?_)
            exact J162 k46 hk46 (wf_M_isWorn_104 k1 k46 n) hk104 x2 x3 x5 x6 v38 x8 σ hf _ _ _ hP hD hS (lv_sub hl [1, 2, 3, 4, 5, 6, 0, 7] rfl)
  have J96 : ∀ (k46 : Int32 → Int32 → Int32 → wc_S → Option (Int32 × wc_S)) (hk46 : (∀ (x2 : Int32) (x3 : Int32) (x5 : Int32) (σ : wc_S), k46 x2 x3 x5 σ = some res → wx_Arr p l e ({ frames := 0, cells := 0, slots := 0, locals := 0 }) s m args below meth c D ad cI cZ cJ cG A (MQ below (wx_Qi D ad cI cZ cJ cG res A) args s 0 0 A) 9 0 0 46 [(0, .ref (ad 71)), (1, .ref (ad k1)), (2, .int x2), (3, .int x3), (5, .int x5)] [] σ)) (x2 : Int32) (x3 : Int32) (x5 : Int32) (s0 : Int32) (σ : wc_S), wf_M_isWorn_96 k1 k46 x2 x3 x5 s0 σ = some res → wx_Arr p l e ({ frames := 0, cells := 0, slots := 0, locals := 0 }) s m args below meth c D ad cI cZ cJ cG A (MQ below (wx_Qi D ad cI cZ cJ cG res A) args s 0 0 A) 9 0 0 96 [(0, .ref (ad 71)), (1, .ref (ad k1)), (2, .int x2), (3, .int x3), (5, .int x5)] [.int s0] σ := by
    intro k46 hk46 x2 x3 x5 s0 σ hf H locs ls hP hD hS hl
    unfold wf_M_isWorn_96 at hf
    refine lv_istore (lv' := [(6, .int s0), (0, .ref (ad 71)), (1, .ref (ad k1)), (2, .int x2), (3, .int x3), (5, .int x5)]) hx hb wd_M_isWorn_96 hl (by decide) rfl (fun ls hl => ?_)
    refine lv_iconst (v := 0) hx hb wd_M_isWorn_98 (by decide) ?_
    refine lv_istore (lv' := [(7, .int 0), (6, .int s0), (0, .ref (ad 71)), (1, .ref (ad k1)), (2, .int x2), (3, .int x3), (5, .int x5)]) hx hb wd_M_isWorn_99 hl (by decide) rfl (fun ls hl => ?_)
    refine lv_iload_n hx hb wd_M_isWorn_101 rfl (lv_at hl 4 rfl) ?_
    refine lv_istore (lv' := [(8, .int x2), (7, .int 0), (6, .int s0), (0, .ref (ad 71)), (1, .ref (ad k1)), (2, .int x2), (3, .int x3), (5, .int x5)]) hx hb wd_M_isWorn_102 hl (by decide) rfl (fun ls hl => ?_)
    exact J104 k46 hk46 16 x2 x3 x5 s0 0 x2 σ hf _ _ _ hP hD hS (lv_sub hl [3, 4, 5, 6, 7, 2, 1, 0] rfl)
  have J95 : ∀ (k46 : Int32 → Int32 → Int32 → wc_S → Option (Int32 × wc_S)) (hk46 : (∀ (x2 : Int32) (x3 : Int32) (x5 : Int32) (σ : wc_S), k46 x2 x3 x5 σ = some res → wx_Arr p l e ({ frames := 0, cells := 0, slots := 0, locals := 0 }) s m args below meth c D ad cI cZ cJ cG A (MQ below (wx_Qi D ad cI cZ cJ cG res A) args s 0 0 A) 9 0 0 46 [(0, .ref (ad 71)), (1, .ref (ad k1)), (2, .int x2), (3, .int x3), (5, .int x5)] [] σ)) (x2 : Int32) (x3 : Int32) (x5 : Int32) (σ : wc_S), wf_M_isWorn_95 k1 k46 x2 x3 x5 σ = some res → wx_Arr p l e ({ frames := 0, cells := 0, slots := 0, locals := 0 }) s m args below meth c D ad cI cZ cJ cG A (MQ below (wx_Qi D ad cI cZ cJ cG res A) args s 0 0 A) 9 0 0 95 [(0, .ref (ad 71)), (1, .ref (ad k1)), (2, .int x2), (3, .int x3), (5, .int x5)] [] σ := by
    intro k46 hk46 x2 x3 x5 σ hf H locs ls hP hD hS hl
    unfold wf_M_isWorn_95 at hf
    refine lv_iconst (v := 0) hx hb wd_M_isWorn_95 (by decide) ?_
    exact J96 k46 hk46 x2 x3 x5 0 σ hf _ _ _ hP hD hS (lv_sub hl [0, 1, 2, 3, 4] rfl)
  have J46 : ∀ (n : Nat) (x2 : Int32) (x3 : Int32) (x5 : Int32) (σ : wc_S), wf_M_isWorn_46 k1 n x2 x3 x5 σ = some res → wx_Arr p l e ({ frames := 0, cells := 0, slots := 0, locals := 0 }) s m args below meth c D ad cI cZ cJ cG A (MQ below (wx_Qi D ad cI cZ cJ cG res A) args s 0 0 A) 9 0 0 46 [(0, .ref (ad 71)), (1, .ref (ad k1)), (2, .int x2), (3, .int x3), (5, .int x5)] [] σ := by
    intro  n
    induction n with
    | zero => intro x2 x3 x5 σ hf; exact absurd hf (by intro h9; cases h9)
    | succ n hk46 =>
      intro x2 x3 x5 σ hf H locs ls hP hD hS hl
      have hf : wf_M_isWorn_46_b k1 (wf_M_isWorn_46 k1 n) x2 x3 x5 σ = some res := hf
      unfold wf_M_isWorn_46_b at hf
      refine lv_iload hx hb wd_M_isWorn_46 (lv_at hl 4 rfl) ?_
      refine lv_aload_n hx hb wd_M_isWorn_48 rfl (lv_at hl 0 rfl) ?_
      refine wx_get (v := .int (σ 71 12)) (C := "WidthCampaignsModel") (T := wx_TM) (N' := 29) hx hb hts wi_M hown hK hP 71 (by decide) rfl rfl 12 (by decide) wt_642 (fun _ h9 => h9) rfl wd_M_isWorn_49 ?_
      refine lv_topi (fun v4 ev4 => ?_)
      have hf := wc_st_e ev4 hf
      refine lv_icmp_ge (tgt := 193) hx hb wd_M_isWorn_52 (by decide) (fun c5 => ?_) (fun c5 => ?_)
      · have hf := wc_t c5 hf
        refine lv_iconst (v := 0) hx hb wd_M_isWorn_193 (by decide) ?_
        exact wx_zret hx hb hr narrow_b0 hlocks hf hP hS wd_M_isWorn_194
      · have hf := wc_f c5 hf
        refine lv_aload_n hx hb wd_M_isWorn_55 rfl (lv_at hl 0 rfl) ?_
        refine wx_get (v := .ref (ad 72)) (C := "WidthCampaignsModel") (T := wx_TM) (N' := 29) hx hb hts wi_M hown hK hP 71 (by decide) rfl rfl 2 (by decide) wt_632 (fun _ h9 => h9) rfl wd_M_isWorn_56 ?_
        refine lv_aload_n hx hb wd_M_isWorn_59 rfl (lv_at hl 1 rfl) ?_
        refine lv_iload_n hx hb wd_M_isWorn_60 rfl (lv_at hl 3 rfl) ?_
        obtain ⟨h6, hf⟩ := wc_gd_e hf
        refine wx_iald hx hb hK hP k1 (n := 9) (wx_Ml hk1_) (wx_M hk1_ _) (wc_in_e h6) wd_M_isWorn_61 ?_
        refine lv_topi (fun v7 ev7 => ?_)
        have hf := wc_st_e ev7 hf
        obtain ⟨h8, hf⟩ := wc_gd_e hf
        refine wx_iald hx hb hK hP 72 (n := 9) (by decide) rfl (wc_in_e h8) wd_M_isWorn_62 ?_
        refine lv_topi (fun v9 ev9 => ?_)
        have hf := wc_st_e ev9 hf
        refine lv_aload_n hx hb wd_M_isWorn_63 rfl (lv_at hl 0 rfl) ?_
        refine wx_get (v := .ref (ad 82)) (C := "WidthCampaignsModel") (T := wx_TM) (N' := 29) hx hb hts wi_M hown hK hP 71 (by decide) rfl rfl 13 (by decide) wt_643 (fun _ h9 => h9) rfl wd_M_isWorn_64 ?_
        refine lv_iload hx hb wd_M_isWorn_67 (lv_at hl 4 rfl) ?_
        obtain ⟨h10, hf⟩ := wc_gd_e hf
        refine wx_iald hx hb hK hP 82 (n := 4) (by decide) rfl (wc_in_e h10) wd_M_isWorn_69 ?_
        refine lv_topi (fun v11 ev11 => ?_)
        have hf := wc_st_e ev11 hf
        refine lv_icmp_lt (tgt := 95) hx hb wd_M_isWorn_70 (by decide) (fun c12 => ?_) (fun c12 => ?_)
        · have hf := wc_t c12 hf
          exact J95 (wf_M_isWorn_46 k1 n) hk46 x2 x3 x5 σ hf _ _ _ hP hD hS (lv_sub hl [0, 1, 2, 3, 4] rfl)
        · have hf := wc_f c12 hf
          refine lv_aload_n hx hb wd_M_isWorn_73 rfl (lv_at hl 0 rfl) ?_
          refine wx_get (v := .ref (ad 72)) (C := "WidthCampaignsModel") (T := wx_TM) (N' := 29) hx hb hts wi_M hown hK hP 71 (by decide) rfl rfl 2 (by decide) wt_632 (fun _ h9 => h9) rfl wd_M_isWorn_74 ?_
          refine lv_aload_n hx hb wd_M_isWorn_77 rfl (lv_at hl 1 rfl) ?_
          refine lv_iload_n hx hb wd_M_isWorn_78 rfl (lv_at hl 3 rfl) ?_
          obtain ⟨h39, hf⟩ := wc_gd_e hf
          refine wx_iald hx hb hK hP k1 (n := 9) (wx_Ml hk1_) (wx_M hk1_ _) (wc_in_e h39) wd_M_isWorn_79 ?_
          refine lv_topi (fun v40 ev40 => ?_)
          have hf := wc_st_e ev40 hf
          obtain ⟨h41, hf⟩ := wc_gd_e hf
          refine wx_iald hx hb hK hP 72 (n := 9) (by decide) rfl (wc_in_e h41) wd_M_isWorn_80 ?_
          refine lv_topi (fun v42 ev42 => ?_)
          have hf := wc_st_e ev42 hf
          refine lv_aload_n hx hb wd_M_isWorn_81 rfl (lv_at hl 0 rfl) ?_
          refine wx_get (v := .ref (ad 83)) (C := "WidthCampaignsModel") (T := wx_TM) (N' := 29) hx hb hts wi_M hown hK hP 71 (by decide) rfl rfl 14 (by decide) wt_644 (fun _ h9 => h9) rfl wd_M_isWorn_82 ?_
          refine lv_iload hx hb wd_M_isWorn_85 (lv_at hl 4 rfl) ?_
          obtain ⟨h43, hf⟩ := wc_gd_e hf
          refine wx_iald hx hb hK hP 83 (n := 4) (by decide) rfl (wc_in_e h43) wd_M_isWorn_87 ?_
          refine lv_topi (fun v44 ev44 => ?_)
          have hf := wc_st_e ev44 hf
          refine lv_icmp_gt (tgt := 95) hx hb wd_M_isWorn_88 (by decide) (fun c45 => ?_) (fun c45 => ?_)
          · have hf := wc_t c45 hf
            exact J95 (wf_M_isWorn_46 k1 n) hk46 x2 x3 x5 σ hf _ _ _ hP hD hS (lv_sub hl [0, 1, 2, 3, 4] rfl)
          · have hf := wc_f c45 hf
            refine lv_iconst (v := 1) hx hb wd_M_isWorn_91 (by decide) ?_
            refine lv_goto (tgt := 96) hx hb wd_M_isWorn_92 (by decide) ?_
            exact J96 (wf_M_isWorn_46 k1 n) hk46 x2 x3 x5 1 σ hf _ _ _ hP hD hS (lv_sub hl [0, 1, 2, 3, 4] rfl)
  have J6 : ∀ (n : Nat) (x2 : Int32) (x3 : Int32) (x4 : Int32) (x5 : Int32) (σ : wc_S), wf_M_isWorn_6 k1 n x2 x3 x4 x5 σ = some res → wx_Arr p l e ({ frames := 0, cells := 0, slots := 0, locals := 0 }) s m args below meth c D ad cI cZ cJ cG A (MQ below (wx_Qi D ad cI cZ cJ cG res A) args s 0 0 A) 9 0 0 6 [(0, .ref (ad 71)), (1, .ref (ad k1)), (2, .int x2), (3, .int x3), (4, .int x4), (5, .int x5)] [] σ := by
    intro  n
    induction n with
    | zero => intro x2 x3 x4 x5 σ hf; exact absurd hf (by intro h9; cases h9)
    | succ n hk6 =>
      intro x2 x3 x4 x5 σ hf H locs ls hP hD hS hl
      have hf : wf_M_isWorn_6_b k1 (wf_M_isWorn_6 k1 n) x2 x3 x4 x5 σ = some res := hf
      unfold wf_M_isWorn_6_b at hf
      refine lv_iload hx hb wd_M_isWorn_6 (lv_at hl 5 rfl) ?_
      refine lv_iload_n hx hb wd_M_isWorn_8 rfl (lv_at hl 3 rfl) ?_
      refine lv_icmp_gt (tgt := 32) hx hb wd_M_isWorn_9 (by decide) (fun c1 => ?_) (fun c1 => ?_)
      · have hf := wc_t c1 hf
        refine lv_iload hx hb wd_M_isWorn_32 (lv_at hl 4 rfl) ?_
        refine lv_aload_n hx hb wd_M_isWorn_34 rfl (lv_at hl 0 rfl) ?_
        refine wx_get (v := .int (σ 71 17)) (C := "WidthCampaignsModel") (T := wx_TM) (N' := 29) hx hb hts wi_M hown hK hP 71 (by decide) rfl rfl 17 (by decide) wt_647 (fun _ h9 => h9) rfl wd_M_isWorn_35 ?_
        refine lv_topi (fun v2 ev2 => ?_)
        have hf := wc_st_e ev2 hf
        refine lv_icmp_le (tgt := 43) hx hb wd_M_isWorn_38 (by decide) (fun c3 => ?_) (fun c3 => ?_)
        · have hf := wc_t c3 hf
          refine lv_iconst (v := 0) hx hb wd_M_isWorn_43 (by decide) ?_
          refine lv_istore (lv' := [(5, .int 0), (0, .ref (ad 71)), (1, .ref (ad k1)), (2, .int x2), (3, .int x3), (4, .int x4)]) hx hb wd_M_isWorn_44 hl (by decide) rfl (fun ls hl => ?_)
          exact J46 16 x2 x3 0 σ hf _ _ _ hP hD hS (lv_sub hl [1, 2, 3, 4, 0] rfl)
        · have hf := wc_f c3 hf
          refine lv_iconst (v := 1) hx hb wd_M_isWorn_41 (by decide) ?_
          exact wx_zret hx hb hr narrow_b1 hlocks hf hP hS wd_M_isWorn_42
      · have hf := wc_f c1 hf
        refine lv_iload hx hb wd_M_isWorn_12 (lv_at hl 4 rfl) ?_
        refine lv_aload_n hx hb wd_M_isWorn_14 rfl (lv_at hl 0 rfl) ?_
        refine wx_get (v := .ref (ad 75)) (C := "WidthCampaignsModel") (T := wx_TM) (N' := 29) hx hb hts wi_M hown hK hP 71 (by decide) rfl rfl 5 (by decide) wt_635 (fun _ h9 => h9) rfl wd_M_isWorn_15 ?_
        refine lv_aload_n hx hb wd_M_isWorn_18 rfl (lv_at hl 1 rfl) ?_
        refine lv_iload hx hb wd_M_isWorn_19 (lv_at hl 5 rfl) ?_
        obtain ⟨h46, hf⟩ := wc_gd_e hf
        refine wx_iald hx hb hK hP k1 (n := 9) (wx_Ml hk1_) (wx_M hk1_ _) (wc_in_e h46) wd_M_isWorn_21 ?_
        refine lv_topi (fun v47 ev47 => ?_)
        have hf := wc_st_e ev47 hf
        obtain ⟨h48, hf⟩ := wc_gd_e hf
        refine wx_iald hx hb hK hP 75 (n := 9) (by decide) rfl (wc_in_e h48) wd_M_isWorn_22 ?_
        refine lv_topi (fun v49 ev49 => ?_)
        have hf := wc_st_e ev49 hf
        refine lv_iadd hx hb wd_M_isWorn_23 ?_
        refine lv_topi (fun v50 ev50 => ?_)
        have hf := wc_st_e ev50 hf
        refine lv_istore (lv' := [(4, .int v50), (0, .ref (ad 71)), (1, .ref (ad k1)), (2, .int x2), (3, .int x3), (5, .int x5)]) hx hb wd_M_isWorn_24 hl (by decide) rfl (fun ls hl => ?_)
        obtain ⟨v51, ev51⟩ : ∃ y : Int32, y = x5 + 1 := ⟨_, rfl⟩
        have hf := wc_st_e ev51 hf
        refine lv_iinc (v := v51) (lv' := [(5, .int v51), (4, .int v50), (0, .ref (ad 71)), (1, .ref (ad k1)), (2, .int x2), (3, .int x3)]) hx hb wd_M_isWorn_26 hl (k := 5) rfl (by rw [ev51]; rfl) (by decide) rfl (fun ls hl => ?_)
        refine lv_goto (tgt := 6) hx hb wd_M_isWorn_29 (by decide) ?_
        exact hk6 x2 x3 v50 v51 σ hf _ _ _ hP hD hS (lv_sub hl [2, 3, 4, 5, 1, 0] rfl)
  unfold wf_M_isWorn at hf
  refine lv_iconst (v := 0) hx hb wd_M_isWorn_0 (by decide) ?_
  refine lv_istore (lv' := [(4, .int 0), (0, .ref (ad 71)), (1, .ref (ad k1)), (2, .int a2), (3, .int a3)]) hx hb wd_M_isWorn_1 hl (by decide) rfl (fun ls hl => ?_)
  refine lv_iload_n hx hb wd_M_isWorn_3 rfl (lv_at hl 3 rfl) ?_
  refine lv_istore (lv' := [(5, .int a2), (4, .int 0), (0, .ref (ad 71)), (1, .ref (ad k1)), (2, .int a2), (3, .int a3)]) hx hb wd_M_isWorn_4 hl (by decide) rfl (fun ls hl => ?_)
  exact J6 16 a2 a3 0 a2 σ hf _ _ _ hP hD hS (lv_sub hl [2, 3, 4, 5, 1, 0] rfl)
