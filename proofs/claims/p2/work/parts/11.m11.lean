set_option maxHeartbeats 4000000 in
set_option maxRecDepth 100000 in
theorem wm_M_run (l : Launch) (D : va_G) (ad : Nat → Nat) (cI cZ cJ cG : ClassId) (sz : Nat) (a1 : Int32) (σ : wc_S) (res : Int32 × wc_S) (hf : wf_M_run a1 σ = some res) : Met l wy_M_run (wx_ws_M_run) ({ frames := 3, cells := 0, slots := 0, locals := 72 }) (va_Pc [.ref (ad 71), .int a1] (wx_pre D ad cI cZ cJ cG σ sz)) (wx_Qi D ad cI cZ cJ cG res (va_A (wx_W ad cI cZ cJ cG σ) sz)) 0 0 (va_A (wx_W ad cI cZ cJ cG σ) sz) := by
  refine wx_ofW (cc := prog_8_method_19_code) (maxL := 6) (ret := (some .int)) (Qc := fun A => wx_Qi D ad cI cZ cJ cG res A) [.ref (ad 71), .int a1] (by decide) rfl (Nat.le_of_ble_eq_true rfl) ?_
  intro p e s m args below meth c A ls hin hl
  obtain ⟨hx, hb, hr, hts, hown, hlocks, hml, hA, hP, hK, hD, hC, hN, hS⟩ := hin
  have hl : lv_has ls 6 [(0, .ref (ad 71)), (1, .int a1)] := hl
  have J291 : ∀ (σ : wc_S), wf_M_run_291  σ = some res → wx_Arr p l e ({ frames := 3, cells := 0, slots := 0, locals := 72 }) s m args below meth c D ad cI cZ cJ cG A (MQ below (wx_Qi D ad cI cZ cJ cG res A) args s 0 0 A) 6 0 0 291 [(0, .ref (ad 71))] [] σ := by
    intro   σ hf H locs ls hP hD hS hl
    unfold wf_M_run_291 at hf
    refine lv_aload_n hx hb wd_M_run_291 rfl (lv_at hl 0 rfl) ?_
    refine wx_get (v := .int (σ 71 22)) (C := "WidthCampaignsModel") (T := wx_TM) (N' := 29) hx hb hts wi_M hown hK hP 71 (by decide) rfl rfl 22 (by decide) wt_652 (fun _ h9 => h9) rfl wd_M_run_292 ?_
    refine lv_topi (fun v14 ev14 => ?_)
    have hf := wc_st_e ev14 hf
    refine lv_if_eq (tgt := 305) hx hb wd_M_run_295 (by decide) (fun c15 => ?_) (fun c15 => ?_)
    · have hf := wc_t c15 hf
      refine lv_iconst (v := (-1)) hx hb wd_M_run_305 (by decide) ?_
      exact wx_iret hx hb hr hlocks hf hP hS wd_M_run_306
    · have hf := wc_f c15 hf
      refine lv_aload_n hx hb wd_M_run_298 rfl (lv_at hl 0 rfl) ?_
      refine wx_get (v := .int (σ 71 1)) (C := "WidthCampaignsModel") (T := wx_TM) (N' := 29) hx hb hts wi_M hown hK hP 71 (by decide) rfl rfl 1 (by decide) wt_631 (fun _ h9 => h9) rfl wd_M_run_299 ?_
      refine lv_topi (fun v16 ev16 => ?_)
      have hf := wc_st_e ev16 hf
      refine lv_goto (tgt := 306) hx hb wd_M_run_302 (by decide) ?_
      exact wx_iret hx hb hr hlocks hf hP hS wd_M_run_306
  have J89 : ∀ (k61 : Int32 → Int32 → Int32 → wc_S → Option (Int32 × wc_S)) (hk61 : (∀ (x2 : Int32) (x3 : Int32) (x4 : Int32) (σ : wc_S), k61 x2 x3 x4 σ = some res → wx_Arr p l e ({ frames := 3, cells := 0, slots := 0, locals := 72 }) s m args below meth c D ad cI cZ cJ cG A (MQ below (wx_Qi D ad cI cZ cJ cG res A) args s 0 0 A) 6 0 0 61 [(0, .ref (ad 71)), (2, .int x2), (3, .int x3), (4, .int x4)] [] σ)) (x2 : Int32) (x3 : Int32) (x4 : Int32) (σ : wc_S), wf_M_run_89 k61 x2 x3 x4 σ = some res → wx_Arr p l e ({ frames := 3, cells := 0, slots := 0, locals := 72 }) s m args below meth c D ad cI cZ cJ cG A (MQ below (wx_Qi D ad cI cZ cJ cG res A) args s 0 0 A) 6 0 0 89 [(0, .ref (ad 71)), (2, .int x2), (3, .int x3), (4, .int x4)] [] σ := by
    intro k61 hk61 x2 x3 x4 σ hf H locs ls hP hD hS hl
    unfold wf_M_run_89 at hf
    obtain ⟨v19, ev19⟩ : ∃ y : Int32, y = x4 + (-1) := ⟨_, rfl⟩
    have hf := wc_st_e ev19 hf
    refine lv_iinc (v := v19) (lv' := [(4, .int v19), (0, .ref (ad 71)), (2, .int x2), (3, .int x3)]) hx hb wd_M_run_89 hl (k := 3) rfl (by rw [ev19]; rfl) (by decide) rfl (fun ls hl => ?_)
    refine lv_iload hx hb wd_M_run_92 (lv_at hl 0 rfl) ?_
    refine lv_if_lt (tgt := 61) hx hb wd_M_run_94 (by decide) (fun c20 => ?_) (fun c20 => ?_)
    · have hf := wc_t c20 hf
      exact hk61 x2 x3 v19 σ hf _ _ _ hP hD hS (lv_sub hl [1, 2, 3, 0] rfl)
    · have hf := wc_f c20 hf
      refine lv_aload_n hx hb wd_M_run_97 rfl (lv_at hl 1 rfl) ?_
      refine wx_get (v := .ref (ad 86)) (C := "WidthCampaignsModel") (T := wx_TM) (N' := 29) hx hb hts wi_M hown hK hP 71 (by decide) rfl rfl 24 (by decide) wt_654 (fun _ h9 => h9) rfl wd_M_run_98 ?_
      refine lv_iload hx hb wd_M_run_101 (lv_at hl 0 rfl) ?_
      refine lv_dup2_11 hx hb wd_M_run_103 rfl rfl ?_
      obtain ⟨h21, hf⟩ := wc_gd_e hf
      refine wx_iald hx hb hK hP 86 (n := 9) (by decide) rfl (wc_in_e h21) wd_M_run_104 ?_
      refine lv_topi (fun v22 ev22 => ?_)
      have hf := wc_st_e ev22 hf
      refine lv_iconst (v := 1) hx hb wd_M_run_105 (by decide) ?_
      refine lv_iadd hx hb wd_M_run_106 ?_
      refine lv_topi (fun v23 ev23 => ?_)
      have hf := wc_st_e ev23 hf
      obtain ⟨h24, hf⟩ := wc_gd_e hf
      refine wx_iast hx hb hK hP hD hS 86 (n := 9) (by decide) (fun _ => rfl) h24 wd_M_run_107 (fun σ25 H locs eσ25 hP hD hS => ?_)
      have hf := wc_st_e eσ25 hf
      refine lv_goto (tgt := 61) hx hb wd_M_run_108 (by decide) ?_
      exact hk61 x2 x3 v19 σ25 hf _ _ _ hP hD hS (lv_sub hl [1, 2, 3, 0] rfl)
  have J140 : ∀ (k61 : Int32 → Int32 → Int32 → wc_S → Option (Int32 × wc_S)) (hk61 : (∀ (x2 : Int32) (x3 : Int32) (x4 : Int32) (σ : wc_S), k61 x2 x3 x4 σ = some res → wx_Arr p l e ({ frames := 3, cells := 0, slots := 0, locals := 72 }) s m args below meth c D ad cI cZ cJ cG A (MQ below (wx_Qi D ad cI cZ cJ cG res A) args s 0 0 A) 6 0 0 61 [(0, .ref (ad 71)), (2, .int x2), (3, .int x3), (4, .int x4)] [] σ)) (x2 : Int32) (x3 : Int32) (x4 : Int32) (σ : wc_S), wf_M_run_140 k61 x2 x3 x4 σ = some res → wx_Arr p l e ({ frames := 3, cells := 0, slots := 0, locals := 72 }) s m args below meth c D ad cI cZ cJ cG A (MQ below (wx_Qi D ad cI cZ cJ cG res A) args s 0 0 A) 6 0 0 140 [(0, .ref (ad 71)), (2, .int x2), (3, .int x3), (4, .int x4)] [] σ := by
    intro k61 hk61 x2 x3 x4 σ hf H locs ls hP hD hS hl
    unfold wf_M_run_140 at hf
    refine lv_aload_n hx hb wd_M_run_140 rfl (lv_at hl 0 rfl) ?_
    refine wx_get (v := .ref (ad 86)) (C := "WidthCampaignsModel") (T := wx_TM) (N' := 29) hx hb hts wi_M hown hK hP 71 (by decide) rfl rfl 24 (by decide) wt_654 (fun _ h9 => h9) rfl wd_M_run_141 ?_
    refine lv_iload hx hb wd_M_run_144 (lv_at hl 3 rfl) ?_
    refine lv_dup2_11 hx hb wd_M_run_146 rfl rfl ?_
    obtain ⟨h35, hf⟩ := wc_gd_e hf
    refine wx_iald hx hb hK hP 86 (n := 9) (by decide) rfl (wc_in_e h35) wd_M_run_147 ?_
    refine lv_topi (fun v36 ev36 => ?_)
    have hf := wc_st_e ev36 hf
    refine lv_iconst (v := 1) hx hb wd_M_run_148 (by decide) ?_
    refine lv_iadd hx hb wd_M_run_149 ?_
    refine lv_topi (fun v37 ev37 => ?_)
    have hf := wc_st_e ev37 hf
    obtain ⟨h38, hf⟩ := wc_gd_e hf
    refine wx_iast hx hb hK hP hD hS 86 (n := 9) (by decide) (fun _ => rfl) h38 wd_M_run_150 (fun σ39 H locs eσ39 hP hD hS => ?_)
    have hf := wc_st_e eσ39 hf
    refine lv_goto (tgt := 61) hx hb wd_M_run_151 (by decide) ?_
    exact hk61 x2 x3 x4 σ39 hf _ _ _ hP hD hS (lv_sub hl [0, 1, 2, 3] rfl)
  have J234 : ∀ (k61 : Int32 → Int32 → Int32 → wc_S → Option (Int32 × wc_S)) (hk61 : (∀ (x2 : Int32) (x3 : Int32) (x4 : Int32) (σ : wc_S), k61 x2 x3 x4 σ = some res → wx_Arr p l e ({ frames := 3, cells := 0, slots := 0, locals := 72 }) s m args below meth c D ad cI cZ cJ cG A (MQ below (wx_Qi D ad cI cZ cJ cG res A) args s 0 0 A) 6 0 0 61 [(0, .ref (ad 71)), (2, .int x2), (3, .int x3), (4, .int x4)] [] σ)) (n : Nat) (x2 : Int32) (x3 : Int32) (x4 : Int32) (x5 : Int32) (σ : wc_S), wf_M_run_234 k61 n x2 x3 x4 x5 σ = some res → wx_Arr p l e ({ frames := 3, cells := 0, slots := 0, locals := 72 }) s m args below meth c D ad cI cZ cJ cG A (MQ below (wx_Qi D ad cI cZ cJ cG res A) args s 0 0 A) 6 0 0 234 [(0, .ref (ad 71)), (2, .int x2), (3, .int x3), (4, .int x4), (5, .int x5)] [] σ := by
    intro k61 hk61 n
    induction n with
    | zero => intro x2 x3 x4 x5 σ hf; exact absurd hf (by intro h9; cases h9)
    | succ n hk234 =>
      intro x2 x3 x4 x5 σ hf H locs ls hP hD hS hl
      have hf : wf_M_run_234_b k61 (wf_M_run_234 k61 n) x2 x3 x4 x5 σ = some res := hf
      unfold wf_M_run_234_b at hf
      refine lv_iload hx hb wd_M_run_234 (lv_at hl 4 rfl) ?_
      refine lv_aload_n hx hb wd_M_run_236 rfl (lv_at hl 0 rfl) ?_
      refine wx_get (v := .int (σ 71 1)) (C := "WidthCampaignsModel") (T := wx_TM) (N' := 29) hx hb hts wi_M hown hK hP 71 (by decide) rfl rfl 1 (by decide) wt_631 (fun _ h9 => h9) rfl wd_M_run_237 ?_
      refine lv_topi (fun v57 ev57 => ?_)
      have hf := wc_st_e ev57 hf
      refine lv_icmp_ge (tgt := 263) hx hb wd_M_run_240 (by decide) (fun c58 => ?_) (fun c58 => ?_)
      · have hf := wc_t c58 hf
        refine lv_aload_n hx hb wd_M_run_263 rfl (lv_at hl 0 rfl) ?_
        refine wx_get (v := .ref (ad 86)) (C := "WidthCampaignsModel") (T := wx_TM) (N' := 29) hx hb hts wi_M hown hK hP 71 (by decide) rfl rfl 24 (by decide) wt_654 (fun _ h9 => h9) rfl wd_M_run_264 ?_
        refine lv_iload hx hb wd_M_run_267 (lv_at hl 3 rfl) ?_
        refine lv_dup2_11 hx hb wd_M_run_269 rfl rfl ?_
        obtain ⟨h59, hf⟩ := wc_gd_e hf
        refine wx_iald hx hb hK hP 86 (n := 9) (by decide) rfl (wc_in_e h59) wd_M_run_270 ?_
        refine lv_topi (fun v60 ev60 => ?_)
        have hf := wc_st_e ev60 hf
        refine lv_iconst (v := 1) hx hb wd_M_run_271 (by decide) ?_
        refine lv_iadd hx hb wd_M_run_272 ?_
        refine lv_topi (fun v61 ev61 => ?_)
        have hf := wc_st_e ev61 hf
        obtain ⟨h62, hf⟩ := wc_gd_e hf
        refine wx_iast hx hb hK hP hD hS 86 (n := 9) (by decide) (fun _ => rfl) h62 wd_M_run_273 (fun σ63 H locs eσ63 hP hD hS => ?_)
        have hf := wc_st_e eσ63 hf
        refine lv_goto (tgt := 61) hx hb wd_M_run_274 (by decide) ?_
        exact hk61 x2 x3 x4 σ63 hf _ _ _ hP hD hS (lv_sub hl [0, 1, 2, 3] rfl)
      · have hf := wc_f c58 hf
        refine lv_aload_n hx hb wd_M_run_243 rfl (lv_at hl 0 rfl) ?_
        refine wx_get (v := .ref (ad 85)) (C := "WidthCampaignsModel") (T := wx_TM) (N' := 29) hx hb hts wi_M hown hK hP 71 (by decide) rfl rfl 23 (by decide) wt_653 (fun _ h9 => h9) rfl wd_M_run_244 ?_
        refine lv_iload hx hb wd_M_run_247 (lv_at hl 4 rfl) ?_
        refine lv_aload_n hx hb wd_M_run_249 rfl (lv_at hl 0 rfl) ?_
        refine wx_get (v := .ref (ad 86)) (C := "WidthCampaignsModel") (T := wx_TM) (N' := 29) hx hb hts wi_M hown hK hP 71 (by decide) rfl rfl 24 (by decide) wt_654 (fun _ h9 => h9) rfl wd_M_run_250 ?_
        refine lv_iload hx hb wd_M_run_253 (lv_at hl 4 rfl) ?_
        obtain ⟨h64, hf⟩ := wc_gd_e hf
        refine wx_iald hx hb hK hP 86 (n := 9) (by decide) rfl (wc_in_e h64) wd_M_run_255 ?_
        refine lv_topi (fun v65 ev65 => ?_)
        have hf := wc_st_e ev65 hf
        obtain ⟨h66, hf⟩ := wc_gd_e hf
        refine wx_iast hx hb hK hP hD hS 85 (n := 9) (by decide) (fun _ => rfl) h66 wd_M_run_256 (fun σ67 H locs eσ67 hP hD hS => ?_)
        have hf := wc_st_e eσ67 hf
        obtain ⟨v68, ev68⟩ : ∃ y : Int32, y = x5 + 1 := ⟨_, rfl⟩
        have hf := wc_st_e ev68 hf
        refine lv_iinc (v := v68) (lv' := [(5, .int v68), (0, .ref (ad 71)), (2, .int x2), (3, .int x3), (4, .int x4)]) hx hb wd_M_run_257 hl (k := 4) rfl (by rw [ev68]; rfl) (by decide) rfl (fun ls hl => ?_)
        refine lv_goto (tgt := 234) hx hb wd_M_run_260 (by decide) ?_
        exact hk234 x2 x3 x4 v68 σ67 hf _ _ _ hP hD hS (lv_sub hl [1, 2, 3, 4, 0] rfl)
  have J210 : ∀ (k61 : Int32 → Int32 → Int32 → wc_S → Option (Int32 × wc_S)) (hk61 : (∀ (x2 : Int32) (x3 : Int32) (x4 : Int32) (σ : wc_S), k61 x2 x3 x4 σ = some res → wx_Arr p l e ({ frames := 3, cells := 0, slots := 0, locals := 72 }) s m args below meth c D ad cI cZ cJ cG A (MQ below (wx_Qi D ad cI cZ cJ cG res A) args s 0 0 A) 6 0 0 61 [(0, .ref (ad 71)), (2, .int x2), (3, .int x3), (4, .int x4)] [] σ)) (x2 : Int32) (x3 : Int32) (x4 : Int32) (σ : wc_S), wf_M_run_210 k61 x2 x3 x4 σ = some res → wx_Arr p l e ({ frames := 3, cells := 0, slots := 0, locals := 72 }) s m args below meth c D ad cI cZ cJ cG A (MQ below (wx_Qi D ad cI cZ cJ cG res A) args s 0 0 A) 6 0 0 210 [(0, .ref (ad 71)), (2, .int x2), (3, .int x3), (4, .int x4)] [] σ := by
    intro k61 hk61 x2 x3 x4 σ hf H locs ls hP hD hS hl
    unfold wf_M_run_210 at hf
    refine lv_iload hx hb wd_M_run_210 (lv_at hl 3 rfl) ?_
    refine lv_aload_n hx hb wd_M_run_212 rfl (lv_at hl 0 rfl) ?_
    refine wx_get (v := .int (σ 71 1)) (C := "WidthCampaignsModel") (T := wx_TM) (N' := 29) hx hb hts wi_M hown hK hP 71 (by decide) rfl rfl 1 (by decide) wt_631 (fun _ h9 => h9) rfl wd_M_run_213 ?_
    refine lv_topi (fun v49 ev49 => ?_)
    have hf := wc_st_e ev49 hf
    refine lv_iconst (v := 1) hx hb wd_M_run_216 (by decide) ?_
    refine lv_isub hx hb wd_M_run_217 ?_
    refine lv_topi (fun v50 ev50 => ?_)
    have hf := wc_st_e ev50 hf
    refine lv_icmp_ne (tgt := 277) hx hb wd_M_run_218 (by decide) (fun c51 => ?_) (fun c51 => ?_)
    · have hf := wc_f c51 hf
      obtain ⟨v52, ev52⟩ : ∃ y : Int32, y = x4 + 1 := ⟨_, rfl⟩
      have hf := wc_st_e ev52 hf
      refine lv_iinc (v := v52) (lv' := [(4, .int v52), (0, .ref (ad 71)), (2, .int x2), (3, .int x3)]) hx hb wd_M_run_277 hl (k := 3) rfl (by rw [ev52]; rfl) (by decide) rfl (fun ls hl => ?_)
      refine lv_aload_n hx hb wd_M_run_280 rfl (lv_at hl 1 rfl) ?_
      refine wx_get (v := .ref (ad 86)) (C := "WidthCampaignsModel") (T := wx_TM) (N' := 29) hx hb hts wi_M hown hK hP 71 (by decide) rfl rfl 24 (by decide) wt_654 (fun _ h9 => h9) rfl wd_M_run_281 ?_
      refine lv_iload hx hb wd_M_run_284 (lv_at hl 0 rfl) ?_
      refine lv_iconst (v := 0) hx hb wd_M_run_286 (by decide) ?_
      obtain ⟨h53, hf⟩ := wc_gd_e hf
      refine wx_iast hx hb hK hP hD hS 86 (n := 9) (by decide) (fun _ => rfl) h53 wd_M_run_287 (fun σ54 H locs eσ54 hP hD hS => ?_)
      have hf := wc_st_e eσ54 hf
      refine lv_goto (tgt := 61) hx hb wd_M_run_288 (by decide) ?_
      exact hk61 x2 x3 v52 σ54 hf _ _ _ hP hD hS (lv_sub hl [1, 2, 3, 0] rfl)
    · have hf := wc_t c51 hf
      refine lv_aload_n hx hb wd_M_run_221 rfl (lv_at hl 0 rfl) ?_
      refine lv_iconst (v := 1) hx hb wd_M_run_222 (by decide) ?_
      refine wx_put (x := 1) (ty := .boolean) (C := "WidthCampaignsModel") (T := wx_TM) (N' := 29) hx hb hts wi_M wx_tM wx_toM wx_nM hown hK hP hD hS 71 (by decide) (fun _ => rfl) rfl 22 (by decide) wt_652 (fun _ h9 => h9) rfl (by decide +kernel) narrow_b1 rfl (Nat.le_of_ble_eq_true rfl) rfl wd_M_run_223 (fun σ55 H locs eσ55 hP hD hS => ?_)
      have hf := wc_st_e eσ55 hf
      refine lv_aload_n hx hb wd_M_run_226 rfl (lv_at hl 0 rfl) ?_
      refine wx_get (v := .int (σ55 71 25)) (C := "WidthCampaignsModel") (T := wx_TM) (N' := 29) hx hb hts wi_M hown hK hP 71 (by decide) rfl rfl 25 (by decide) wt_655 (fun _ h9 => h9) rfl wd_M_run_227 ?_
      refine lv_topi (fun v56 ev56 => ?_)
      have hf := wc_st_e ev56 hf
      refine lv_istore_n (lv' := [(2, .int v56), (0, .ref (ad 71)), (3, .int x3), (4, .int x4)]) hx hb wd_M_run_230 rfl hl (by decide) rfl (fun ls hl => ?_)
      refine lv_iconst (v := 0) hx hb wd_M_run_231 (by decide) ?_
      refine lv_istore (lv' := [(5, .int 0), (2, .int v56), (0, .ref (ad 71)), (3, .int x3), (4, .int x4)]) hx hb wd_M_run_232 hl (by decide) rfl (fun ls hl => ?_)
      exact J234 k61 hk61 16 v56 x3 x4 0 σ55 hf _ _ _ hP hD hS (lv_sub hl [2, 1, 3, 4, 0] rfl)
  have J61 : ∀ (n : Nat) (x2 : Int32) (x3 : Int32) (x4 : Int32) (σ : wc_S), wf_M_run_61 n x2 x3 x4 σ = some res → wx_Arr p l e ({ frames := 3, cells := 0, slots := 0, locals := 72 }) s m args below meth c D ad cI cZ cJ cG A (MQ below (wx_Qi D ad cI cZ cJ cG res A) args s 0 0 A) 6 0 0 61 [(0, .ref (ad 71)), (2, .int x2), (3, .int x3), (4, .int x4)] [] σ := by
    intro  n
    induction n with
    | zero => intro x2 x3 x4 σ hf; exact absurd hf (by intro h9; cases h9)
    | succ n hk61 =>
      intro x2 x3 x4 σ hf H locs ls hP hD hS hl
      have hf : wf_M_run_61_b (wf_M_run_61 n) x2 x3 x4 σ = some res := hf
      unfold wf_M_run_61_b at hf
      refine lv_iload hx hb wd_M_run_61 (lv_at hl 3 rfl) ?_
      refine lv_if_lt (tgt := 291) hx hb wd_M_run_63 (by decide) (fun c13 => ?_) (fun c13 => ?_)
      · have hf := wc_t c13 hf
        exact J291  σ hf _ _ _ hP hD hS (lv_sub hl [0] rfl)
      · have hf := wc_f c13 hf
        refine lv_iload hx hb wd_M_run_66 (lv_at hl 3 rfl) ?_
        refine lv_aload_n hx hb wd_M_run_68 rfl (lv_at hl 0 rfl) ?_
        refine wx_get (v := .int (σ 71 1)) (C := "WidthCampaignsModel") (T := wx_TM) (N' := 29) hx hb hts wi_M hown hK hP 71 (by decide) rfl rfl 1 (by decide) wt_631 (fun _ h9 => h9) rfl wd_M_run_69 ?_
        refine lv_topi (fun v17 ev17 => ?_)
        have hf := wc_st_e ev17 hf
        refine lv_icmp_eq (tgt := 89) hx hb wd_M_run_72 (by decide) (fun c18 => ?_) (fun c18 => ?_)
        · have hf := wc_t c18 hf
          exact J89 (wf_M_run_61 n) hk61 x2 x3 x4 σ hf _ _ _ hP hD hS (lv_sub hl [0, 1, 2, 3] rfl)
        · have hf := wc_f c18 hf
          refine lv_aload_n hx hb wd_M_run_75 rfl (lv_at hl 0 rfl) ?_
          refine wx_get (v := .ref (ad 86)) (C := "WidthCampaignsModel") (T := wx_TM) (N' := 29) hx hb hts wi_M hown hK hP 71 (by decide) rfl rfl 24 (by decide) wt_654 (fun _ h9 => h9) rfl wd_M_run_76 ?_
          refine lv_iload hx hb wd_M_run_79 (lv_at hl 3 rfl) ?_
          obtain ⟨h26, hf⟩ := wc_gd_e hf
          refine wx_iald hx hb hK hP 86 (n := 9) (by decide) rfl (wc_in_e h26) wd_M_run_81 ?_
          refine lv_topi (fun v27 ev27 => ?_)
          have hf := wc_st_e ev27 hf
          refine lv_aload_n hx hb wd_M_run_82 rfl (lv_at hl 0 rfl) ?_
          refine wx_get (v := .int (σ 71 1)) (C := "WidthCampaignsModel") (T := wx_TM) (N' := 29) hx hb hts wi_M hown hK hP 71 (by decide) rfl rfl 1 (by decide) wt_631 (fun _ h9 => h9) rfl wd_M_run_83 ?_
          refine lv_topi (fun v28 ev28 => ?_)
          have hf := wc_st_e ev28 hf
          refine lv_icmp_ne (tgt := 111) hx hb wd_M_run_86 (by decide) (fun c29 => ?_) (fun c29 => ?_)
          · have hf := wc_f c29 hf
            refine lv_aload_n hx hb wd_M_run_111 rfl (lv_at hl 0 rfl) ?_
            refine lv_aload_n hx hb wd_M_run_112 rfl (lv_at hl 0 rfl) ?_
            refine wx_get (v := .ref (ad 86)) (C := "WidthCampaignsModel") (T := wx_TM) (N' := 29) hx hb hts wi_M hown hK hP 71 (by decide) rfl rfl 24 (by decide) wt_654 (fun _ h9 => h9) rfl wd_M_run_113 ?_
            refine lv_iload hx hb wd_M_run_116 (lv_at hl 3 rfl) ?_
            obtain ⟨h30, hf⟩ := wc_gd_e hf
            refine wx_iald hx hb hK hP 86 (n := 9) (by decide) rfl (wc_in_e h30) wd_M_run_118 ?_
            refine lv_topi (fun v31 ev31 => ?_)
            have hf := wc_st_e ev31 hf
            refine lv_iload hx hb wd_M_run_119 (lv_at hl 3 rfl) ?_
            obtain ⟨r33, σ32, hq, hf⟩ := wc_b2_e hf
            refine wx_calli (va_runV (As := [.int v31, .int x4]) (rest := []) ⟨hx, hb, hml, hown, hts⟩ (wm_M_stands l D ad cI cZ cJ cG _ v31 x4 σ _ hq) (wx_cwV 2 hts wt_769 wt_768 wp_35 wt_7 wt_766 wh_M_stands rfl rfl ⟨Nat.le_of_ble_eq_true rfl, Nat.le_of_ble_eq_true rfl⟩) (wx_preV hK hP hD hS hA hC (by decide) rfl rfl) rfl rfl hl.1 rfl (lv_room (Nat.le_of_ble_eq_true rfl)) wd_M_run_121 ⟨Nat.le_of_ble_eq_true rfl, Nat.le_of_ble_eq_true rfl⟩) hD hS hA (fun H locs hP hD hS => ?_)
            refine lv_if_ne (tgt := 140) hx hb wd_M_run_124 (by decide) (fun c34 => ?_) (fun c34 => ?_)
            · have hf := wc_f c34 hf
              exact J140 (wf_M_run_61 n) hk61 x2 x3 x4 σ32 hf _ _ _ hP hD hS (lv_sub hl [0, 1, 2, 3] rfl)
            · have hf := wc_t c34 hf
              refine lv_aload_n hx hb wd_M_run_127 rfl (lv_at hl 0 rfl) ?_
              refine lv_aload_n hx hb wd_M_run_128 rfl (lv_at hl 0 rfl) ?_
              refine wx_get (v := .ref (ad 86)) (C := "WidthCampaignsModel") (T := wx_TM) (N' := 29) hx hb hts wi_M hown hK hP 71 (by decide) rfl rfl 24 (by decide) wt_654 (fun _ h9 => h9) rfl wd_M_run_129 ?_
              refine lv_iload hx hb wd_M_run_132 (lv_at hl 3 rfl) ?_
              obtain ⟨r41, σ40, hq, hf⟩ := wc_b2_e hf
              refine wx_calli (va_runV (As := [.ref (ad 86), .int x4]) (rest := []) ⟨hx, hb, hml, hown, hts⟩ (wm_M_mayBe l D ad cI cZ cJ cG _ 86 (Or.inr rfl) x4 σ32 _ hq) (wx_cwV 2 hts wt_773 wt_772 wp_36 wt_7 wt_770 wh_M_mayBe rfl rfl ⟨Nat.le_of_ble_eq_true rfl, Nat.le_of_ble_eq_true rfl⟩) (wx_preV hK hP hD hS hA hC (by decide) rfl rfl) rfl rfl hl.1 rfl (lv_room (Nat.le_of_ble_eq_true rfl)) wd_M_run_134 ⟨Nat.le_of_ble_eq_true rfl, Nat.le_of_ble_eq_true rfl⟩) hD hS hA (fun H locs hP hD hS => ?_)
              refine lv_if_ne (tgt := 154) hx hb wd_M_run_137 (by decide) (fun c42 => ?_) (fun c42 => ?_)
              · have hf := wc_f c42 hf
                refine lv_iload_n hx hb wd_M_run_154 rfl (lv_at hl 2 rfl) ?_
                refine lv_if_ne (tgt := 166) hx hb wd_M_run_155 (by decide) (fun c43 => ?_) (fun c43 => ?_)
                · have hf := wc_f c43 hf
                  obtain ⟨v44, ev44⟩ : ∃ y : Int32, y = x3 + (-1) := ⟨_, rfl⟩
                  have hf := wc_st_e ev44 hf
                  refine lv_iinc (v := v44) (lv' := [(3, .int v44), (0, .ref (ad 71)), (2, .int x2), (4, .int x4)]) hx hb wd_M_run_166 hl (k := 2) rfl (by rw [ev44]; rfl) (by decide) rfl (fun ls hl => ?_)
                  refine lv_aload_n hx hb wd_M_run_169 rfl (lv_at hl 1 rfl) ?_
                  refine lv_aload_n hx hb wd_M_run_170 rfl (lv_at hl 1 rfl) ?_
                  refine wx_get (v := .ref (ad 86)) (C := "WidthCampaignsModel") (T := wx_TM) (N' := 29) hx hb hts wi_M hown hK hP 71 (by decide) rfl rfl 24 (by decide) wt_654 (fun _ h9 => h9) rfl wd_M_run_171 ?_
                  refine lv_iload hx hb wd_M_run_174 (lv_at hl 3 rfl) ?_
                  refine lv_iconst (v := 1) hx hb wd_M_run_176 (by decide) ?_
                  refine lv_iadd hx hb wd_M_run_177 ?_
                  refine lv_topi (fun v45 ev45 => ?_)
                  have hf := wc_st_e ev45 hf
                  obtain ⟨σ46, hq, hf⟩ := wc_b1_e hf
                  refine wx_callv (va_runV (As := [.ref (ad 86), .int v45]) (rest := []) ⟨hx, hb, hml, hown, hts⟩ (wm_M_reckon l D ad cI cZ cJ cG _ 86 (Or.inr rfl) v45 σ40 _ hq) (wx_cwV 2 hts wt_785 wt_784 wp_39 wt_7 wt_782 wh_M_reckon rfl rfl ⟨Nat.le_of_ble_eq_true rfl, Nat.le_of_ble_eq_true rfl⟩) (wx_preV hK hP hD hS hA hC (by decide) rfl rfl) rfl rfl hl.1 rfl (lv_room (Nat.le_of_ble_eq_true rfl)) wd_M_run_178 ⟨Nat.le_of_ble_eq_true rfl, Nat.le_of_ble_eq_true rfl⟩) hD hS hA (fun H locs hP hD hS => ?_)
                  refine lv_aload_n hx hb wd_M_run_181 rfl (lv_at hl 1 rfl) ?_
                  refine wx_get (v := .int (σ46 71 22)) (C := "WidthCampaignsModel") (T := wx_TM) (N' := 29) hx hb hts wi_M hown hK hP 71 (by decide) rfl rfl 22 (by decide) wt_652 (fun _ h9 => h9) rfl wd_M_run_182 ?_
                  refine lv_topi (fun v47 ev47 => ?_)
                  have hf := wc_st_e ev47 hf
                  refine lv_if_eq (tgt := 210) hx hb wd_M_run_185 (by decide) (fun c48 => ?_) (fun c48 => ?_)
                  · have hf := wc_t c48 hf
                    exact J210 (wf_M_run_61 n) hk61 x2 v44 x4 σ46 hf _ _ _ hP hD hS (lv_sub hl [1, 2, 0, 3] rfl)
                  · have hf := wc_f c48 hf
                    refine lv_aload_n hx hb wd_M_run_188 rfl (lv_at hl 1 rfl) ?_
                    refine wx_get (v := .int (σ46 71 25)) (C := "WidthCampaignsModel") (T := wx_TM) (N' := 29) hx hb hts wi_M hown hK hP 71 (by decide) rfl rfl 25 (by decide) wt_655 (fun _ h9 => h9) rfl wd_M_run_189 ?_
                    refine lv_topi (fun v69 ev69 => ?_)
                    have hf := wc_st_e ev69 hf
                    refine lv_iload_n hx hb wd_M_run_192 rfl (lv_at hl 2 rfl) ?_
                    refine lv_icmp_lt (tgt := 210) hx hb wd_M_run_193 (by decide) (fun c70 => ?_) (fun c70 => ?_)
                    · have hf := wc_t c70 hf
                      exact J210 (wf_M_run_61 n) hk61 x2 v44 x4 σ46 hf _ _ _ hP hD hS (lv_sub hl [1, 2, 0, 3] rfl)
                    · have hf := wc_f c70 hf
                      refine lv_aload_n hx hb wd_M_run_196 rfl (lv_at hl 1 rfl) ?_
                      refine wx_get (v := .ref (ad 86)) (C := "WidthCampaignsModel") (T := wx_TM) (N' := 29) hx hb hts wi_M hown hK hP 71 (by decide) rfl rfl 24 (by decide) wt_654 (fun _ h9 => h9) rfl wd_M_run_197 ?_
                      refine lv_iload hx hb wd_M_run_200 (lv_at hl 3 rfl) ?_
                      refine lv_dup2_11 hx hb wd_M_run_202 rfl rfl ?_
                      obtain ⟨h71, hf⟩ := wc_gd_e hf
                      refine wx_iald hx hb hK hP 86 (n := 9) (by decide) rfl (wc_in_e h71) wd_M_run_203 ?_
                      refine lv_topi (fun v72 ev72 => ?_)
                      have hf := wc_st_e ev72 hf
                      refine lv_iconst (v := 1) hx hb wd_M_run_204 (by decide) ?_
                      refine lv_iadd hx hb wd_M_run_205 ?_
                      refine lv_topi (fun v73 ev73 => ?_)
                      have hf := wc_st_e ev73 hf
                      obtain ⟨h74, hf⟩ := wc_gd_e hf
                      refine wx_iast hx hb hK hP hD hS 86 (n := 9) (by decide) (fun _ => rfl) h74 wd_M_run_206 (fun σ75 H locs eσ75 hP hD hS => ?_)
                      have hf := wc_st_e eσ75 hf
                      refine lv_goto (tgt := 61) hx hb wd_M_run_207 (by decide) ?_
                      exact hk61 x2 v44 x4 σ75 hf _ _ _ hP hD hS (lv_sub hl [1, 2, 0, 3] rfl)
                · have hf := wc_t c43 hf
                  refine lv_aload_n hx hb wd_M_run_158 rfl (lv_at hl 0 rfl) ?_
                  refine lv_iconst (v := 0) hx hb wd_M_run_159 (by decide) ?_
                  refine wx_put (x := 0) (ty := .boolean) (C := "WidthCampaignsModel") (T := wx_TM) (N' := 29) hx hb hts wi_M wx_tM wx_toM wx_nM hown hK hP hD hS 71 (by decide) (fun _ => rfl) rfl 21 (by decide) wt_651 (fun _ h9 => h9) rfl (by decide +kernel) narrow_b0 rfl (Nat.le_of_ble_eq_true rfl) rfl wd_M_run_160 (fun σ76 H locs eσ76 hP hD hS => ?_)
                  have hf := wc_st_e eσ76 hf
                  refine lv_goto (tgt := 291) hx hb wd_M_run_163 (by decide) ?_
                  exact J291  σ76 hf _ _ _ hP hD hS (lv_sub hl [0] rfl)
              · have hf := wc_t c42 hf
                exact J140 (wf_M_run_61 n) hk61 x2 x3 x4 σ40 hf _ _ _ hP hD hS (lv_sub hl [0, 1, 2, 3] rfl)
          · have hf := wc_t c29 hf
            exact J89 (wf_M_run_61 n) hk61 x2 x3 x4 σ hf _ _ _ hP hD hS (lv_sub hl [0, 1, 2, 3] rfl)
  unfold wf_M_run at hf
  refine lv_aload_n hx hb wd_M_run_0 rfl (lv_at hl 0 rfl) ?_
  refine lv_iload_n hx hb wd_M_run_1 rfl (lv_at hl 1 rfl) ?_
  refine lv_iconst (v := 0) hx hb wd_M_run_2 (by decide) ?_
  refine lv_ldc (v := 100000) hx hb hown (wx_hw hts wt_765) wd_M_run_3 ?_
  obtain ⟨r2, σ1, hq, hf⟩ := wc_b2_e hf
  refine wx_calli (va_runS (As := [.int a1, .int 0, .int 100000]) (rest := [.ref (ad 71)]) ⟨hx, hb, hml, hown, hts⟩ (wm_M_in l D ad cI cZ cJ cG _ a1 0 100000 σ _ hq) (wx_cwS 3 hts wt_728 wt_727 wt_7 wt_726 wh_M_in rfl rfl ⟨Nat.le_of_ble_eq_true rfl, Nat.le_of_ble_eq_true rfl⟩) (wx_preS hK hP hD hS hA hC) rfl rfl hl.1 rfl (lv_room (Nat.le_of_ble_eq_true rfl)) wd_M_run_5 ⟨Nat.le_of_ble_eq_true rfl, Nat.le_of_ble_eq_true rfl⟩) hD hS hA (fun H locs hP hD hS => ?_)
  refine lv_iconst (v := 1) hx hb wd_M_run_8 (by decide) ?_
  refine lv_iconst (v := 1) hx hb wd_M_run_9 (by decide) ?_
  obtain ⟨r4, σ3, hq, hf⟩ := wc_b2_e hf
  refine wx_calli (va_runV (As := [.int r2, .int 1, .int 1]) (rest := []) ⟨hx, hb, hml, hown, hts⟩ (wm_M_goes l D ad cI cZ cJ cG _ r2 1 1 σ1 _ hq) (wx_cwV 3 hts wt_732 wt_731 wp_32 wt_7 wt_729 wh_M_goes rfl rfl ⟨Nat.le_of_ble_eq_true rfl, Nat.le_of_ble_eq_true rfl⟩) (wx_preV hK hP hD hS hA hC (by decide) rfl rfl) rfl rfl hl.1 rfl (lv_room (Nat.le_of_ble_eq_true rfl)) wd_M_run_10 ⟨Nat.le_of_ble_eq_true rfl, Nat.le_of_ble_eq_true rfl⟩) hD hS hA (fun H locs hP hD hS => ?_)
  refine lv_if_ne (tgt := 18) hx hb wd_M_run_13 (by decide) (fun c5 => ?_) (fun c5 => ?_)
  · have hf := wc_f c5 hf
    refine lv_aload_n hx hb wd_M_run_18 rfl (lv_at hl 0 rfl) ?_
    refine lv_iconst (v := 1) hx hb wd_M_run_19 (by decide) ?_
    refine wx_put (x := 1) (ty := .boolean) (C := "WidthCampaignsModel") (T := wx_TM) (N' := 29) hx hb hts wi_M wx_tM wx_toM wx_nM hown hK hP hD hS 71 (by decide) (fun _ => rfl) rfl 20 (by decide) wt_650 (fun _ h9 => h9) rfl (by decide +kernel) narrow_b1 rfl (Nat.le_of_ble_eq_true rfl) rfl wd_M_run_20 (fun σ6 H locs eσ6 hP hD hS => ?_)
    have hf := wc_st_e eσ6 hf
    refine lv_aload_n hx hb wd_M_run_23 rfl (lv_at hl 0 rfl) ?_
    refine lv_iconst (v := 0) hx hb wd_M_run_24 (by decide) ?_
    refine wx_put (x := 0) (ty := .boolean) (C := "WidthCampaignsModel") (T := wx_TM) (N' := 29) hx hb hts wi_M wx_tM wx_toM wx_nM hown hK hP hD hS 71 (by decide) (fun _ => rfl) rfl 22 (by decide) wt_652 (fun _ h9 => h9) rfl (by decide +kernel) narrow_b0 rfl (Nat.le_of_ble_eq_true rfl) rfl wd_M_run_25 (fun σ7 H locs eσ7 hP hD hS => ?_)
    have hf := wc_st_e eσ7 hf
    refine lv_aload_n hx hb wd_M_run_28 rfl (lv_at hl 0 rfl) ?_
    refine lv_iconst (v := 1) hx hb wd_M_run_29 (by decide) ?_
    refine wx_put (x := 1) (ty := .boolean) (C := "WidthCampaignsModel") (T := wx_TM) (N' := 29) hx hb hts wi_M wx_tM wx_toM wx_nM hown hK hP hD hS 71 (by decide) (fun _ => rfl) rfl 21 (by decide) wt_651 (fun _ h9 => h9) rfl (by decide +kernel) narrow_b1 rfl (Nat.le_of_ble_eq_true rfl) rfl wd_M_run_30 (fun σ8 H locs eσ8 hP hD hS => ?_)
    have hf := wc_st_e eσ8 hf
    refine lv_iconst (v := 0) hx hb wd_M_run_33 (by decide) ?_
    refine lv_istore_n (lv' := [(2, .int 0), (0, .ref (ad 71)), (1, .int a1)]) hx hb wd_M_run_34 rfl hl (by decide) rfl (fun ls hl => ?_)
    refine lv_iload_n hx hb wd_M_run_35 rfl (lv_at hl 2 rfl) ?_
    refine lv_istore_n (lv' := [(3, .int a1), (2, .int 0), (0, .ref (ad 71)), (1, .int a1)]) hx hb wd_M_run_36 rfl hl (by decide) rfl (fun ls hl => ?_)
    refine lv_iconst (v := 0) hx hb wd_M_run_37 (by decide) ?_
    refine lv_istore (lv' := [(4, .int 0), (3, .int a1), (2, .int 0), (0, .ref (ad 71)), (1, .int a1)]) hx hb wd_M_run_38 hl (by decide) rfl (fun ls hl => ?_)
    refine lv_aload_n hx hb wd_M_run_40 rfl (lv_at hl 3 rfl) ?_
    refine wx_get (v := .ref (ad 86)) (C := "WidthCampaignsModel") (T := wx_TM) (N' := 29) hx hb hts wi_M hown hK hP 71 (by decide) rfl rfl 24 (by decide) wt_654 (fun _ h9 => h9) rfl wd_M_run_41 ?_
    refine lv_iconst (v := 0) hx hb wd_M_run_44 (by decide) ?_
    refine lv_iconst (v := 0) hx hb wd_M_run_45 (by decide) ?_
    obtain ⟨h9, hf⟩ := wc_gd_e hf
    refine wx_iast hx hb hK hP hD hS 86 (n := 9) (by decide) (fun _ => rfl) h9 wd_M_run_46 (fun σ10 H locs eσ10 hP hD hS => ?_)
    have hf := wc_st_e eσ10 hf
    refine lv_aload_n hx hb wd_M_run_47 rfl (lv_at hl 3 rfl) ?_
    refine wx_get (v := .int (σ10 71 1)) (C := "WidthCampaignsModel") (T := wx_TM) (N' := 29) hx hb hts wi_M hown hK hP 71 (by decide) rfl rfl 1 (by decide) wt_631 (fun _ h9 => h9) rfl wd_M_run_48 ?_
    refine lv_topi (fun v11 ev11 => ?_)
    have hf := wc_st_e ev11 hf
    refine lv_if_ne (tgt := 61) hx hb wd_M_run_51 (by decide) (fun c12 => ?_) (fun c12 => ?_)
    · have hf := wc_f c12 hf
      exact J61 wc_big 0 a1 0 σ10 hf _ _ _ hP hD hS (lv_sub hl [3, 2, 1, 0] rfl)
    · have hf := wc_t c12 hf
      refine lv_aload_n hx hb wd_M_run_54 rfl (lv_at hl 3 rfl) ?_
      refine lv_iconst (v := 1) hx hb wd_M_run_55 (by decide) ?_
      refine wx_put (x := 1) (ty := .boolean) (C := "WidthCampaignsModel") (T := wx_TM) (N' := 29) hx hb hts wi_M wx_tM wx_toM wx_nM hown hK hP hD hS 71 (by decide) (fun _ => rfl) rfl 22 (by decide) wt_652 (fun _ h9 => h9) rfl (by decide +kernel) narrow_b1 rfl (Nat.le_of_ble_eq_true rfl) rfl wd_M_run_56 (fun σ77 H locs eσ77 hP hD hS => ?_)
      have hf := wc_st_e eσ77 hf
      refine lv_iconst (v := 0) hx hb wd_M_run_59 (by decide) ?_
      exact wx_iret hx hb hr hlocks hf hP hS wd_M_run_60
  · have hf := wc_t c5 hf
    refine lv_iconst (v := 0) hx hb wd_M_run_16 (by decide) ?_
    exact wx_iret hx hb hr hlocks hf hP hS wd_M_run_17
set_option maxHeartbeats 4000000 in
set_option maxRecDepth 100000 in
theorem wm_M_proved (l : Launch) (D : va_G) (ad : Nat → Nat) (cI cZ cJ cG : ClassId) (sz : Nat) (σ : wc_S) (res : Int32 × wc_S) (hf : wf_M_proved  σ = some res) : Met l wy_M_proved (wx_ws_M_proved) ({ frames := 1, cells := 0, slots := 0, locals := 23 }) (va_Pc [.ref (ad 71)] (wx_pre D ad cI cZ cJ cG σ sz)) (wx_Qi D ad cI cZ cJ cG res (va_A (wx_W ad cI cZ cJ cG σ) sz)) 0 0 (va_A (wx_W ad cI cZ cJ cG σ) sz) := by
  refine wx_ofW (cc := prog_8_method_20_code) (maxL := 1) (ret := (some .boolean)) (Qc := fun A => wx_Qi D ad cI cZ cJ cG res A) [.ref (ad 71)] (by decide) rfl (Nat.le_of_ble_eq_true rfl) ?_
  intro p e s m args below meth c A ls hin hl
  obtain ⟨hx, hb, hr, hts, hown, hlocks, hml, hA, hP, hK, hD, hC, hN, hS⟩ := hin
  have hl : lv_has ls 1 [(0, .ref (ad 71))] := hl
  unfold wf_M_proved at hf
  refine lv_aload_n hx hb wd_M_proved_0 rfl (lv_at hl 0 rfl) ?_
  refine lv_aload_n hx hb wd_M_proved_1 rfl (lv_at hl 0 rfl) ?_
  refine wx_get (v := .int (σ 71 20)) (C := "WidthCampaignsModel") (T := wx_TM) (N' := 29) hx hb hts wi_M hown hK hP 71 (by decide) rfl rfl 20 (by decide) wt_650 (fun _ h9 => h9) rfl wd_M_proved_2 ?_
  refine lv_topi (fun v1 ev1 => ?_)
  have hf := wc_st_e ev1 hf
  refine lv_iconst (v := 1) hx hb wd_M_proved_5 (by decide) ?_
  refine lv_iconst (v := 1) hx hb wd_M_proved_6 (by decide) ?_
  obtain ⟨r3, σ2, hq, hf⟩ := wc_b2_e hf
  refine wx_calli (va_runV (As := [.int v1, .int 1, .int 1]) (rest := []) ⟨hx, hb, hml, hown, hts⟩ (wm_M_goes l D ad cI cZ cJ cG _ v1 1 1 σ _ hq) (wx_cwV 3 hts wt_732 wt_731 wp_32 wt_7 wt_729 wh_M_goes rfl rfl ⟨Nat.le_of_ble_eq_true rfl, Nat.le_of_ble_eq_true rfl⟩) (wx_preV hK hP hD hS hA hC (by decide) rfl rfl) rfl rfl hl.1 rfl (lv_room (Nat.le_of_ble_eq_true rfl)) wd_M_proved_7 ⟨Nat.le_of_ble_eq_true rfl, Nat.le_of_ble_eq_true rfl⟩) hD hS hA (fun H locs hP hD hS => ?_)
  refine lv_if_eq (tgt := 24) hx hb wd_M_proved_10 (by decide) (fun c4 => ?_) (fun c4 => ?_)
  · have hf := wc_t c4 hf
    refine lv_iconst (v := 0) hx hb wd_M_proved_24 (by decide) ?_
    exact wx_zret hx hb hr narrow_b0 hlocks hf hP hS wd_M_proved_25
  · have hf := wc_f c4 hf
    refine lv_aload_n hx hb wd_M_proved_13 rfl (lv_at hl 0 rfl) ?_
    refine wx_get (v := .int (σ2 71 21)) (C := "WidthCampaignsModel") (T := wx_TM) (N' := 29) hx hb hts wi_M hown hK hP 71 (by decide) rfl rfl 21 (by decide) wt_651 (fun _ h9 => h9) rfl wd_M_proved_14 ?_
    refine lv_topi (fun v5 ev5 => ?_)
    have hf := wc_st_e ev5 hf
    refine lv_if_eq (tgt := 24) hx hb wd_M_proved_17 (by decide) (fun c6 => ?_) (fun c6 => ?_)
    · have hf := wc_t c6 hf
      refine lv_iconst (v := 0) hx hb wd_M_proved_24 (by decide) ?_
      exact wx_zret hx hb hr narrow_b0 hlocks hf hP hS wd_M_proved_25
    · have hf := wc_f c6 hf
      refine lv_iconst (v := 1) hx hb wd_M_proved_20 (by decide) ?_
      refine lv_goto (tgt := 25) hx hb wd_M_proved_21 (by decide) ?_
      exact wx_zret hx hb hr narrow_b1 hlocks hf hP hS wd_M_proved_25
