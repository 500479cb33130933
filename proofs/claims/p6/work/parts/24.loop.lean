set_option maxHeartbeats 8000000 in
set_option maxRecDepth 100000 in
theorem law_loop {p : Program} {e : Env} {s : State} {m : MethodId} {below : List Frame} {meth : Method} {c : Code} (l : Launch) (htr : l.stackTraces = false) {b L : Nat} {xs : Nat → Int32} (C0 : lw_At p s m meth c b L xs) (D : va_G) (ad : Nat → Nat) (cI cZ cJ cG : ClassId) (hK : va_K D wx_cl (wx_ty cI cZ cJ cG) s) (hC : wx_C (fun q : Nat => s.heap.size ≤ q) s s.heap) (res : Int32 × wc_S) (hres : res.1 = 1) : ∀ (n t : Nat) (x4 : Int32) (σ : wc_S), wf_law_23 L xs n t x4 σ = some res → wx_Arr p l e room_1 s m #[Value.ref b] below meth c D ad cI cZ cJ cG (fun q : Nat => s.heap.size ≤ q) (lw_Z below #[Value.ref b] s) 7 (90 + 2 * t + 0) (700 + 12 * t + 0) 23 [(0, .ref b), (1, .ref (ad 0)), (2, .ref (ad 71)), (3, .ref (ad 88)), (4, .int x4)] [] σ := by
  obtain ⟨hx, hb, hr, hml, hown, hts0, hX, hbl, hlocks, hgv⟩ := id C0
  have hA : ∀ q : Nat, s.heap.size ≤ q → (fun q : Nat => s.heap.size ≤ q) q := fun _ h => h
  have hbA : ¬ (fun q : Nat => s.heap.size ≤ q) b := Nat.not_le.mpr hbl
  have hts : ∀ w ∈ (.initialized "WidthCampaignsLaw" : Cond) :: wx_all, w.before #[Value.ref b] s = true := wl_hts hts0 wt_0
  have hown : s.vm.findClass "WidthCampaignsLaw" = some m.cls := hown
  have J704 : ∀ (k23 : Nat → Int32 → wc_S → Option (Int32 × wc_S)) (hk23 : (∀ (t : Nat) (x4 : Int32) (σ : wc_S), k23 t x4 σ = some res → wx_Arr p l e room_1 s m #[Value.ref b] below meth c D ad cI cZ cJ cG (fun q : Nat => s.heap.size ≤ q) (lw_Z below #[Value.ref b] s) 7 (90 + 2 * t + 0) (700 + 12 * t + 0) 23 [(0, .ref b), (1, .ref (ad 0)), (2, .ref (ad 71)), (3, .ref (ad 88)), (4, .int x4)] [] σ)) (t : Nat) (x4 : Int32) (σ : wc_S), wf_law_704 L xs k23 t x4 σ = some res → t < 600 → wx_Arr p l e room_1 s m #[Value.ref b] below meth c D ad cI cZ cJ cG (fun q : Nat => s.heap.size ≤ q) (lw_Z below #[Value.ref b] s) 7 (90 + 2 * t + 2) (700 + 12 * t + 12) 704 [(0, .ref b), (1, .ref (ad 0)), (2, .ref (ad 71)), (3, .ref (ad 88)), (4, .int x4)] [] σ := by
    intro k23 hk23 t x4 σ hf htt H locs ls hP hD hS hl
    unfold wf_law_704 at hf
    obtain ⟨v35, ev35⟩ : ∃ y : Int32, y = x4 + 5 := ⟨_, rfl⟩
    have hf := wc_st_e ev35 hf
    refine lv_iinc (v := v35) (lv' := [(4, .int v35), (0, .ref b), (1, .ref (ad 0)), (2, .ref (ad 71)), (3, .ref (ad 88))]) hx hb wd_K_law_704 hl (k := 4) rfl (by rw [ev35]; rfl) (by decide) rfl (fun ls hl => ?_)
    refine lv_goto (tgt := 23) hx hb wd_K_law_707 (by decide) ?_
    refine W.widen (k := 90 + 2 * (t + 1)) (n := 700 + 12 * (t + 1)) (by omega) (by omega) ?_
    exact hk23 (t + 1) v35 σ hf _ _ _ hP hD hS (lv_sub hl [1, 2, 3, 4, 0] rfl)
  have J112 : ∀ (k23 : Nat → Int32 → wc_S → Option (Int32 × wc_S)) (hk23 : (∀ (t : Nat) (x4 : Int32) (σ : wc_S), k23 t x4 σ = some res → wx_Arr p l e room_1 s m #[Value.ref b] below meth c D ad cI cZ cJ cG (fun q : Nat => s.heap.size ≤ q) (lw_Z below #[Value.ref b] s) 7 (90 + 2 * t + 0) (700 + 12 * t + 0) 23 [(0, .ref b), (1, .ref (ad 0)), (2, .ref (ad 71)), (3, .ref (ad 88)), (4, .int x4)] [] σ)) (t : Nat) (x4 : Int32) (σ : wc_S), wf_law_112 L xs k23 t x4 σ = some res → t < 600 → wx_Arr p l e room_1 s m #[Value.ref b] below meth c D ad cI cZ cJ cG (fun q : Nat => s.heap.size ≤ q) (lw_Z below #[Value.ref b] s) 7 (90 + 2 * t + 0) (700 + 12 * t + 0) 112 [(0, .ref b), (1, .ref (ad 0)), (2, .ref (ad 71)), (3, .ref (ad 88)), (4, .int x4)] [] σ := by
    intro k23 hk23 t x4 σ hf htt H locs ls hP hD hS hl
    unfold wf_law_112 at hf
    refine lv_aload_n hx hb wd_K_law_112 rfl (lv_at hl 1 rfl) ?_
    refine lv_aload_n hx hb wd_K_law_113 rfl (lv_at hl 0 rfl) ?_
    refine lv_iload hx hb wd_K_law_114 (lv_at hl 4 rfl) ?_
    refine lv_iconst (v := 1) hx hb wd_K_law_116 (by decide) ?_
    refine lv_iadd hx hb wd_K_law_117 ?_
    refine lv_topi (fun v7 ev7 => ?_)
    have hf := wc_st_e ev7 hf
    obtain ⟨h8, hf⟩ := wc_gd_e hf
    refine va_sld hx hb hX hbl hbA hS (wc_in_e h8) wd_K_law_118 ?_
    refine lv_topi (fun v9 ev9 => ?_)
    have hf := wc_st_e ev9 hf
    refine lv_aload_n hx hb wd_K_law_119 rfl (lv_at hl 0 rfl) ?_
    refine lv_iload hx hb wd_K_law_120 (lv_at hl 4 rfl) ?_
    refine lv_iconst (v := 2) hx hb wd_K_law_122 (by decide) ?_
    refine lv_iadd hx hb wd_K_law_123 ?_
    refine lv_topi (fun v10 ev10 => ?_)
    have hf := wc_st_e ev10 hf
    obtain ⟨h11, hf⟩ := wc_gd_e hf
    refine va_sld hx hb hX hbl hbA hS (wc_in_e h11) wd_K_law_124 ?_
    refine lv_topi (fun v12 ev12 => ?_)
    have hf := wc_st_e ev12 hf
    refine lv_aload_n hx hb wd_K_law_125 rfl (lv_at hl 0 rfl) ?_
    refine lv_iload hx hb wd_K_law_126 (lv_at hl 4 rfl) ?_
    refine lv_iconst (v := 3) hx hb wd_K_law_128 (by decide) ?_
    refine lv_iadd hx hb wd_K_law_129 ?_
    refine lv_topi (fun v13 ev13 => ?_)
    have hf := wc_st_e ev13 hf
    obtain ⟨h14, hf⟩ := wc_gd_e hf
    refine va_sld hx hb hX hbl hbA hS (wc_in_e h14) wd_K_law_130 ?_
    refine lv_topi (fun v15 ev15 => ?_)
    have hf := wc_st_e ev15 hf
    refine lv_aload_n hx hb wd_K_law_131 rfl (lv_at hl 0 rfl) ?_
    refine lv_iload hx hb wd_K_law_132 (lv_at hl 4 rfl) ?_
    refine lv_iconst (v := 4) hx hb wd_K_law_134 (by decide) ?_
    refine lv_iadd hx hb wd_K_law_135 ?_
    refine lv_topi (fun v16 ev16 => ?_)
    have hf := wc_st_e ev16 hf
    obtain ⟨h17, hf⟩ := wc_gd_e hf
    refine va_sld hx hb hX hbl hbA hS (wc_in_e h17) wd_K_law_136 ?_
    refine lv_topi (fun v18 ev18 => ?_)
    have hf := wc_st_e ev18 hf
    refine lv_aload_n hx hb wd_K_law_137 rfl (lv_at hl 3 rfl) ?_
    obtain ⟨r20, σ19, hq, hf⟩ := wc_b2_e hf
    refine wx_callik (wz_runSW (As := [.ref (ad 0), .int v9, .int v12, .int v15, .int v18, .ref (ad 88)]) (rest := []) ⟨hx, hb, hml, hown, hts⟩ (wm_K_coil l D ad cI cZ cJ cG htr _ v9 v12 v15 v18 σ _ hq) wt_254 wt_253 wt_0 wt_252 wh_K_coil rfl rfl ⟨Nat.le_of_ble_eq_true rfl, Nat.le_of_ble_eq_true rfl⟩ (wx_preS hK hP hD hS hA hC) rfl rfl hl.1 rfl (lv_room (Nat.le_of_ble_eq_true rfl)) wd_K_law_138 ⟨by show _ ≤ 661080; omega, by show _ ≤ 7112863; omega⟩) hD hS hA (fun H locs hP hD hS => ?_)
    refine W.widen (k := 90 + 2 * t + 1) (n := 700 + 12 * t + 6) (by omega) (by omega) ?_
    refine lv_istore (lv' := [(5, .int r20), (0, .ref b), (1, .ref (ad 0)), (2, .ref (ad 71)), (3, .ref (ad 88)), (4, .int x4)]) hx hb wd_K_law_141 hl (by decide) rfl (fun ls hl => ?_)
    refine lv_aload_n hx hb wd_K_law_143 rfl (lv_at hl 3 rfl) ?_
    refine lv_aload_n hx hb wd_K_law_144 rfl (lv_at hl 1 rfl) ?_
    refine lv_iload hx hb wd_K_law_145 (lv_at hl 5 rfl) ?_
    refine lv_iconst (v := 1) hx hb wd_K_law_147 (by decide) ?_
    refine lv_iadd hx hb wd_K_law_148 ?_
    refine lv_topi (fun v21 ev21 => ?_)
    have hf := wc_st_e ev21 hf
    obtain ⟨h22, hf⟩ := wc_gd_e hf
    refine va_sld hx hb hX hbl hbA hS (wc_in_e h22) wd_K_law_149 ?_
    refine lv_topi (fun v23 ev23 => ?_)
    have hf := wc_st_e ev23 hf
    refine lv_aload_n hx hb wd_K_law_150 rfl (lv_at hl 1 rfl) ?_
    refine lv_iload hx hb wd_K_law_151 (lv_at hl 5 rfl) ?_
    refine lv_iconst (v := 2) hx hb wd_K_law_153 (by decide) ?_
    refine lv_iadd hx hb wd_K_law_154 ?_
    refine lv_topi (fun v24 ev24 => ?_)
    have hf := wc_st_e ev24 hf
    obtain ⟨h25, hf⟩ := wc_gd_e hf
    refine va_sld hx hb hX hbl hbA hS (wc_in_e h25) wd_K_law_155 ?_
    refine lv_topi (fun v26 ev26 => ?_)
    have hf := wc_st_e ev26 hf
    refine lv_aload_n hx hb wd_K_law_156 rfl (lv_at hl 1 rfl) ?_
    refine lv_iload hx hb wd_K_law_157 (lv_at hl 5 rfl) ?_
    refine lv_iconst (v := 3) hx hb wd_K_law_159 (by decide) ?_
    refine lv_iadd hx hb wd_K_law_160 ?_
    refine lv_topi (fun v27 ev27 => ?_)
    have hf := wc_st_e ev27 hf
    obtain ⟨h28, hf⟩ := wc_gd_e hf
    refine va_sld hx hb hX hbl hbA hS (wc_in_e h28) wd_K_law_161 ?_
    refine lv_topi (fun v29 ev29 => ?_)
    have hf := wc_st_e ev29 hf
    refine lv_aload_n hx hb wd_K_law_162 rfl (lv_at hl 1 rfl) ?_
    refine lv_iload hx hb wd_K_law_163 (lv_at hl 5 rfl) ?_
    refine lv_iconst (v := 4) hx hb wd_K_law_165 (by decide) ?_
    refine lv_iadd hx hb wd_K_law_166 ?_
    refine lv_topi (fun v30 ev30 => ?_)
    have hf := wc_st_e ev30 hf
    obtain ⟨h31, hf⟩ := wc_gd_e hf
    refine va_sld hx hb hX hbl hbA hS (wc_in_e h31) wd_K_law_167 ?_
    refine lv_topi (fun v32 ev32 => ?_)
    have hf := wc_st_e ev32 hf
    obtain ⟨r34, σ33, hq, hf⟩ := wc_b2_e hf
    refine wx_calli (va_runV (As := [.int v23, .int v26, .int v29, .int v32]) (rest := []) ⟨hx, hb, hml, hown, hts⟩ (wm_M_coil l D ad cI cZ cJ cG _ v23 v26 v29 v32 σ19 _ hq) (wx_cwV 4 hts wt_725 wt_723 wt_724 wt_7 wt_722 wh_M_coil rfl rfl ⟨Nat.le_of_ble_eq_true rfl, Nat.le_of_ble_eq_true rfl⟩) (wx_preV hK hP hD hS hA hC (by decide) rfl rfl) rfl rfl hl.1 rfl (lv_room (Nat.le_of_ble_eq_true rfl)) wd_K_law_168 ⟨by show _ ≤ 661080; omega, by show _ ≤ 7112863; omega⟩) hD hS hA (fun H locs hP hD hS => ?_)
    refine lv_istore (lv' := [(6, .int r34), (5, .int r20), (0, .ref b), (1, .ref (ad 0)), (2, .ref (ad 71)), (3, .ref (ad 88)), (4, .int x4)]) hx hb wd_K_law_171 hl (by decide) rfl (fun ls hl => ?_)
    refine lv_goto (tgt := 704) hx hb wd_K_law_173 (by decide) ?_
    refine W.widen (k := 90 + 2 * t + 2) (n := 700 + 12 * t + 12) (by omega) (by omega) ?_
    exact J704 k23 hk23 t x4 σ33 hf htt _ _ _ hP hD hS (lv_sub hl [2, 3, 4, 5, 6] rfl)
  have J176 : ∀ (k23 : Nat → Int32 → wc_S → Option (Int32 × wc_S)) (hk23 : (∀ (t : Nat) (x4 : Int32) (σ : wc_S), k23 t x4 σ = some res → wx_Arr p l e room_1 s m #[Value.ref b] below meth c D ad cI cZ cJ cG (fun q : Nat => s.heap.size ≤ q) (lw_Z below #[Value.ref b] s) 7 (90 + 2 * t + 0) (700 + 12 * t + 0) 23 [(0, .ref b), (1, .ref (ad 0)), (2, .ref (ad 71)), (3, .ref (ad 88)), (4, .int x4)] [] σ)) (t : Nat) (x4 : Int32) (σ : wc_S), wf_law_176 L xs k23 t x4 σ = some res → t < 600 → wx_Arr p l e room_1 s m #[Value.ref b] below meth c D ad cI cZ cJ cG (fun q : Nat => s.heap.size ≤ q) (lw_Z below #[Value.ref b] s) 7 (90 + 2 * t + 0) (700 + 12 * t + 0) 176 [(0, .ref b), (1, .ref (ad 0)), (2, .ref (ad 71)), (3, .ref (ad 88)), (4, .int x4)] [] σ := by
    intro k23 hk23 t x4 σ hf htt H locs ls hP hD hS hl
    unfold wf_law_176 at hf
    refine lv_aload_n hx hb wd_K_law_176 rfl (lv_at hl 1 rfl) ?_
    refine lv_aload_n hx hb wd_K_law_177 rfl (lv_at hl 0 rfl) ?_
    refine lv_iload hx hb wd_K_law_178 (lv_at hl 4 rfl) ?_
    refine lv_iconst (v := 1) hx hb wd_K_law_180 (by decide) ?_
    refine lv_iadd hx hb wd_K_law_181 ?_
    refine lv_topi (fun v36 ev36 => ?_)
    have hf := wc_st_e ev36 hf
    obtain ⟨h37, hf⟩ := wc_gd_e hf
    refine va_sld hx hb hX hbl hbA hS (wc_in_e h37) wd_K_law_182 ?_
    refine lv_topi (fun v38 ev38 => ?_)
    have hf := wc_st_e ev38 hf
    refine lv_aload_n hx hb wd_K_law_183 rfl (lv_at hl 0 rfl) ?_
    refine lv_iload hx hb wd_K_law_184 (lv_at hl 4 rfl) ?_
    refine lv_iconst (v := 2) hx hb wd_K_law_186 (by decide) ?_
    refine lv_iadd hx hb wd_K_law_187 ?_
    refine lv_topi (fun v39 ev39 => ?_)
    have hf := wc_st_e ev39 hf
    obtain ⟨h40, hf⟩ := wc_gd_e hf
    refine va_sld hx hb hX hbl hbA hS (wc_in_e h40) wd_K_law_188 ?_
    refine lv_topi (fun v41 ev41 => ?_)
    have hf := wc_st_e ev41 hf
    refine lv_aload_n hx hb wd_K_law_189 rfl (lv_at hl 0 rfl) ?_
    refine lv_iload hx hb wd_K_law_190 (lv_at hl 4 rfl) ?_
    refine lv_iconst (v := 3) hx hb wd_K_law_192 (by decide) ?_
    refine lv_iadd hx hb wd_K_law_193 ?_
    refine lv_topi (fun v42 ev42 => ?_)
    have hf := wc_st_e ev42 hf
    obtain ⟨h43, hf⟩ := wc_gd_e hf
    refine va_sld hx hb hX hbl hbA hS (wc_in_e h43) wd_K_law_194 ?_
    refine lv_topi (fun v44 ev44 => ?_)
    have hf := wc_st_e ev44 hf
    refine lv_aload_n hx hb wd_K_law_195 rfl (lv_at hl 0 rfl) ?_
    refine lv_iload hx hb wd_K_law_196 (lv_at hl 4 rfl) ?_
    refine lv_iconst (v := 4) hx hb wd_K_law_198 (by decide) ?_
    refine lv_iadd hx hb wd_K_law_199 ?_
    refine lv_topi (fun v45 ev45 => ?_)
    have hf := wc_st_e ev45 hf
    obtain ⟨h46, hf⟩ := wc_gd_e hf
    refine va_sld hx hb hX hbl hbA hS (wc_in_e h46) wd_K_law_200 ?_
    refine lv_topi (fun v47 ev47 => ?_)
    have hf := wc_st_e ev47 hf
    refine lv_aload_n hx hb wd_K_law_201 rfl (lv_at hl 3 rfl) ?_
    obtain ⟨r49, σ48, hq, hf⟩ := wc_b2_e hf
    refine wx_callik (wz_runSW (As := [.ref (ad 0), .int v38, .int v41, .int v44, .int v47, .ref (ad 88)]) (rest := []) ⟨hx, hb, hml, hown, hts⟩ (wm_K_table l D ad cI cZ cJ cG htr _ v38 v41 v44 v47 σ _ hq) wt_374 wt_373 wt_0 wt_372 wh_K_table rfl rfl ⟨Nat.le_of_ble_eq_true rfl, Nat.le_of_ble_eq_true rfl⟩ (wx_preS hK hP hD hS hA hC) rfl rfl hl.1 rfl (lv_room (Nat.le_of_ble_eq_true rfl)) wd_K_law_202 ⟨by show _ ≤ 661080; omega, by show _ ≤ 7112863; omega⟩) hD hS hA (fun H locs hP hD hS => ?_)
    refine W.widen (k := 90 + 2 * t + 1) (n := 700 + 12 * t + 6) (by omega) (by omega) ?_
    refine lv_istore (lv' := [(5, .int r49), (0, .ref b), (1, .ref (ad 0)), (2, .ref (ad 71)), (3, .ref (ad 88)), (4, .int x4)]) hx hb wd_K_law_205 hl (by decide) rfl (fun ls hl => ?_)
    refine lv_aload_n hx hb wd_K_law_207 rfl (lv_at hl 3 rfl) ?_
    refine lv_aload_n hx hb wd_K_law_208 rfl (lv_at hl 1 rfl) ?_
    refine lv_iload hx hb wd_K_law_209 (lv_at hl 5 rfl) ?_
    refine lv_iconst (v := 1) hx hb wd_K_law_211 (by decide) ?_
    refine lv_iadd hx hb wd_K_law_212 ?_
    refine lv_topi (fun v50 ev50 => ?_)
    have hf := wc_st_e ev50 hf
    obtain ⟨h51, hf⟩ := wc_gd_e hf
    refine va_sld hx hb hX hbl hbA hS (wc_in_e h51) wd_K_law_213 ?_
    refine lv_topi (fun v52 ev52 => ?_)
    have hf := wc_st_e ev52 hf
    refine lv_aload_n hx hb wd_K_law_214 rfl (lv_at hl 1 rfl) ?_
    refine lv_iload hx hb wd_K_law_215 (lv_at hl 5 rfl) ?_
    refine lv_iconst (v := 2) hx hb wd_K_law_217 (by decide) ?_
    refine lv_iadd hx hb wd_K_law_218 ?_
    refine lv_topi (fun v53 ev53 => ?_)
    have hf := wc_st_e ev53 hf
    obtain ⟨h54, hf⟩ := wc_gd_e hf
    refine va_sld hx hb hX hbl hbA hS (wc_in_e h54) wd_K_law_219 ?_
    refine lv_topi (fun v55 ev55 => ?_)
    have hf := wc_st_e ev55 hf
    refine lv_aload_n hx hb wd_K_law_220 rfl (lv_at hl 1 rfl) ?_
    refine lv_iload hx hb wd_K_law_221 (lv_at hl 5 rfl) ?_
    refine lv_iconst (v := 3) hx hb wd_K_law_223 (by decide) ?_
    refine lv_iadd hx hb wd_K_law_224 ?_
    refine lv_topi (fun v56 ev56 => ?_)
    have hf := wc_st_e ev56 hf
    obtain ⟨h57, hf⟩ := wc_gd_e hf
    refine va_sld hx hb hX hbl hbA hS (wc_in_e h57) wd_K_law_225 ?_
    refine lv_topi (fun v58 ev58 => ?_)
    have hf := wc_st_e ev58 hf
    refine lv_aload_n hx hb wd_K_law_226 rfl (lv_at hl 1 rfl) ?_
    refine lv_iload hx hb wd_K_law_227 (lv_at hl 5 rfl) ?_
    refine lv_iconst (v := 4) hx hb wd_K_law_229 (by decide) ?_
    refine lv_iadd hx hb wd_K_law_230 ?_
    refine lv_topi (fun v59 ev59 => ?_)
    have hf := wc_st_e ev59 hf
    obtain ⟨h60, hf⟩ := wc_gd_e hf
    refine va_sld hx hb hX hbl hbA hS (wc_in_e h60) wd_K_law_231 ?_
    refine lv_topi (fun v61 ev61 => ?_)
    have hf := wc_st_e ev61 hf
    obtain ⟨r63, σ62, hq, hf⟩ := wc_b2_e hf
    refine wx_calli (va_runV (As := [.int v52, .int v55, .int v58, .int v61]) (rest := []) ⟨hx, hb, hml, hown, hts⟩ (wm_M_table l D ad cI cZ cJ cG _ v52 v55 v58 v61 σ48 _ hq) (wx_cwV 4 hts wt_740 wt_738 wt_739 wt_7 wt_737 wh_M_table rfl rfl ⟨Nat.le_of_ble_eq_true rfl, Nat.le_of_ble_eq_true rfl⟩) (wx_preV hK hP hD hS hA hC (by decide) rfl rfl) rfl rfl hl.1 rfl (lv_room (Nat.le_of_ble_eq_true rfl)) wd_K_law_232 ⟨by show _ ≤ 661080; omega, by show _ ≤ 7112863; omega⟩) hD hS hA (fun H locs hP hD hS => ?_)
    refine lv_istore (lv' := [(6, .int r63), (5, .int r49), (0, .ref b), (1, .ref (ad 0)), (2, .ref (ad 71)), (3, .ref (ad 88)), (4, .int x4)]) hx hb wd_K_law_235 hl (by decide) rfl (fun ls hl => ?_)
    refine lv_goto (tgt := 704) hx hb wd_K_law_237 (by decide) ?_
    refine W.widen (k := 90 + 2 * t + 2) (n := 700 + 12 * t + 12) (by omega) (by omega) ?_
    exact J704 k23 hk23 t x4 σ62 hf htt _ _ _ hP hD hS (lv_sub hl [2, 3, 4, 5, 6] rfl)
  have J240 : ∀ (k23 : Nat → Int32 → wc_S → Option (Int32 × wc_S)) (hk23 : (∀ (t : Nat) (x4 : Int32) (σ : wc_S), k23 t x4 σ = some res → wx_Arr p l e room_1 s m #[Value.ref b] below meth c D ad cI cZ cJ cG (fun q : Nat => s.heap.size ≤ q) (lw_Z below #[Value.ref b] s) 7 (90 + 2 * t + 0) (700 + 12 * t + 0) 23 [(0, .ref b), (1, .ref (ad 0)), (2, .ref (ad 71)), (3, .ref (ad 88)), (4, .int x4)] [] σ)) (t : Nat) (x4 : Int32) (σ : wc_S), wf_law_240 L xs k23 t x4 σ = some res → t < 600 → wx_Arr p l e room_1 s m #[Value.ref b] below meth c D ad cI cZ cJ cG (fun q : Nat => s.heap.size ≤ q) (lw_Z below #[Value.ref b] s) 7 (90 + 2 * t + 0) (700 + 12 * t + 0) 240 [(0, .ref b), (1, .ref (ad 0)), (2, .ref (ad 71)), (3, .ref (ad 88)), (4, .int x4)] [] σ := by
    intro k23 hk23 t x4 σ hf htt H locs ls hP hD hS hl
    unfold wf_law_240 at hf
    refine lv_aload_n hx hb wd_K_law_240 rfl (lv_at hl 1 rfl) ?_
    refine lv_aload_n hx hb wd_K_law_241 rfl (lv_at hl 0 rfl) ?_
    refine lv_iload hx hb wd_K_law_242 (lv_at hl 4 rfl) ?_
    refine lv_iconst (v := 1) hx hb wd_K_law_244 (by decide) ?_
    refine lv_iadd hx hb wd_K_law_245 ?_
    refine lv_topi (fun v64 ev64 => ?_)
    have hf := wc_st_e ev64 hf
    obtain ⟨h65, hf⟩ := wc_gd_e hf
    refine va_sld hx hb hX hbl hbA hS (wc_in_e h65) wd_K_law_246 ?_
    refine lv_topi (fun v66 ev66 => ?_)
    have hf := wc_st_e ev66 hf
    refine lv_aload_n hx hb wd_K_law_247 rfl (lv_at hl 0 rfl) ?_
    refine lv_iload hx hb wd_K_law_248 (lv_at hl 4 rfl) ?_
    refine lv_iconst (v := 2) hx hb wd_K_law_250 (by decide) ?_
    refine lv_iadd hx hb wd_K_law_251 ?_
    refine lv_topi (fun v67 ev67 => ?_)
    have hf := wc_st_e ev67 hf
    obtain ⟨h68, hf⟩ := wc_gd_e hf
    refine va_sld hx hb hX hbl hbA hS (wc_in_e h68) wd_K_law_252 ?_
    refine lv_topi (fun v69 ev69 => ?_)
    have hf := wc_st_e ev69 hf
    refine lv_aload_n hx hb wd_K_law_253 rfl (lv_at hl 0 rfl) ?_
    refine lv_iload hx hb wd_K_law_254 (lv_at hl 4 rfl) ?_
    refine lv_iconst (v := 3) hx hb wd_K_law_256 (by decide) ?_
    refine lv_iadd hx hb wd_K_law_257 ?_
    refine lv_topi (fun v70 ev70 => ?_)
    have hf := wc_st_e ev70 hf
    obtain ⟨h71, hf⟩ := wc_gd_e hf
    refine va_sld hx hb hX hbl hbA hS (wc_in_e h71) wd_K_law_258 ?_
    refine lv_topi (fun v72 ev72 => ?_)
    have hf := wc_st_e ev72 hf
    refine lv_aload_n hx hb wd_K_law_259 rfl (lv_at hl 3 rfl) ?_
    obtain ⟨r74, σ73, hq, hf⟩ := wc_b2_e hf
    refine wx_callik (wz_runSW (As := [.ref (ad 0), .int v66, .int v69, .int v72, .ref (ad 88)]) (rest := []) ⟨hx, hb, hml, hown, hts⟩ (wm_K_group l D ad cI cZ cJ cG htr _ v66 v69 v72 σ _ hq) wt_405 wt_404 wt_0 wt_403 wh_K_group rfl rfl ⟨Nat.le_of_ble_eq_true rfl, Nat.le_of_ble_eq_true rfl⟩ (wx_preS hK hP hD hS hA hC) rfl rfl hl.1 rfl (lv_room (Nat.le_of_ble_eq_true rfl)) wd_K_law_260 ⟨by show _ ≤ 661080; omega, by show _ ≤ 7112863; omega⟩) hD hS hA (fun H locs hP hD hS => ?_)
    refine W.widen (k := 90 + 2 * t + 1) (n := 700 + 12 * t + 6) (by omega) (by omega) ?_
    refine lv_istore (lv' := [(5, .int r74), (0, .ref b), (1, .ref (ad 0)), (2, .ref (ad 71)), (3, .ref (ad 88)), (4, .int x4)]) hx hb wd_K_law_263 hl (by decide) rfl (fun ls hl => ?_)
    refine lv_aload_n hx hb wd_K_law_265 rfl (lv_at hl 3 rfl) ?_
    refine lv_aload_n hx hb wd_K_law_266 rfl (lv_at hl 1 rfl) ?_
    refine lv_iload hx hb wd_K_law_267 (lv_at hl 5 rfl) ?_
    refine lv_iconst (v := 1) hx hb wd_K_law_269 (by decide) ?_
    refine lv_iadd hx hb wd_K_law_270 ?_
    refine lv_topi (fun v75 ev75 => ?_)
    have hf := wc_st_e ev75 hf
    obtain ⟨h76, hf⟩ := wc_gd_e hf
    refine va_sld hx hb hX hbl hbA hS (wc_in_e h76) wd_K_law_271 ?_
    refine lv_topi (fun v77 ev77 => ?_)
    have hf := wc_st_e ev77 hf
    refine lv_aload_n hx hb wd_K_law_272 rfl (lv_at hl 1 rfl) ?_
    refine lv_iload hx hb wd_K_law_273 (lv_at hl 5 rfl) ?_
    refine lv_iconst (v := 2) hx hb wd_K_law_275 (by decide) ?_
    refine lv_iadd hx hb wd_K_law_276 ?_
    refine lv_topi (fun v78 ev78 => ?_)
    have hf := wc_st_e ev78 hf
    obtain ⟨h79, hf⟩ := wc_gd_e hf
    refine va_sld hx hb hX hbl hbA hS (wc_in_e h79) wd_K_law_277 ?_
    refine lv_topi (fun v80 ev80 => ?_)
    have hf := wc_st_e ev80 hf
    refine lv_aload_n hx hb wd_K_law_278 rfl (lv_at hl 1 rfl) ?_
    refine lv_iload hx hb wd_K_law_279 (lv_at hl 5 rfl) ?_
    refine lv_iconst (v := 3) hx hb wd_K_law_281 (by decide) ?_
    refine lv_iadd hx hb wd_K_law_282 ?_
    refine lv_topi (fun v81 ev81 => ?_)
    have hf := wc_st_e ev81 hf
    obtain ⟨h82, hf⟩ := wc_gd_e hf
    refine va_sld hx hb hX hbl hbA hS (wc_in_e h82) wd_K_law_283 ?_
    refine lv_topi (fun v83 ev83 => ?_)
    have hf := wc_st_e ev83 hf
    obtain ⟨r85, σ84, hq, hf⟩ := wc_b2_e hf
    refine wx_calli (va_runV (As := [.int v77, .int v80, .int v83]) (rest := []) ⟨hx, hb, hml, hown, hts⟩ (wm_M_group l D ad cI cZ cJ cG _ v77 v80 v83 σ73 _ hq) (wx_cwV 3 hts wt_744 wt_742 wt_743 wt_7 wt_741 wh_M_group rfl rfl ⟨Nat.le_of_ble_eq_true rfl, Nat.le_of_ble_eq_true rfl⟩) (wx_preV hK hP hD hS hA hC (by decide) rfl rfl) rfl rfl hl.1 rfl (lv_room (Nat.le_of_ble_eq_true rfl)) wd_K_law_284 ⟨by show _ ≤ 661080; omega, by show _ ≤ 7112863; omega⟩) hD hS hA (fun H locs hP hD hS => ?_)
    refine lv_istore (lv' := [(6, .int r85), (5, .int r74), (0, .ref b), (1, .ref (ad 0)), (2, .ref (ad 71)), (3, .ref (ad 88)), (4, .int x4)]) hx hb wd_K_law_287 hl (by decide) rfl (fun ls hl => ?_)
    refine lv_goto (tgt := 704) hx hb wd_K_law_289 (by decide) ?_
    refine W.widen (k := 90 + 2 * t + 2) (n := 700 + 12 * t + 12) (by omega) (by omega) ?_
    exact J704 k23 hk23 t x4 σ84 hf htt _ _ _ hP hD hS (lv_sub hl [2, 3, 4, 5, 6] rfl)
  have J292 : ∀ (k23 : Nat → Int32 → wc_S → Option (Int32 × wc_S)) (hk23 : (∀ (t : Nat) (x4 : Int32) (σ : wc_S), k23 t x4 σ = some res → wx_Arr p l e room_1 s m #[Value.ref b] below meth c D ad cI cZ cJ cG (fun q : Nat => s.heap.size ≤ q) (lw_Z below #[Value.ref b] s) 7 (90 + 2 * t + 0) (700 + 12 * t + 0) 23 [(0, .ref b), (1, .ref (ad 0)), (2, .ref (ad 71)), (3, .ref (ad 88)), (4, .int x4)] [] σ)) (t : Nat) (x4 : Int32) (σ : wc_S), wf_law_292 L xs k23 t x4 σ = some res → t < 600 → wx_Arr p l e room_1 s m #[Value.ref b] below meth c D ad cI cZ cJ cG (fun q : Nat => s.heap.size ≤ q) (lw_Z below #[Value.ref b] s) 7 (90 + 2 * t + 0) (700 + 12 * t + 0) 292 [(0, .ref b), (1, .ref (ad 0)), (2, .ref (ad 71)), (3, .ref (ad 88)), (4, .int x4)] [] σ := by
    intro k23 hk23 t x4 σ hf htt H locs ls hP hD hS hl
    unfold wf_law_292 at hf
    refine lv_aload_n hx hb wd_K_law_292 rfl (lv_at hl 1 rfl) ?_
    refine lv_aload_n hx hb wd_K_law_293 rfl (lv_at hl 0 rfl) ?_
    refine lv_iload hx hb wd_K_law_294 (lv_at hl 4 rfl) ?_
    refine lv_iconst (v := 1) hx hb wd_K_law_296 (by decide) ?_
    refine lv_iadd hx hb wd_K_law_297 ?_
    refine lv_topi (fun v86 ev86 => ?_)
    have hf := wc_st_e ev86 hf
    obtain ⟨h87, hf⟩ := wc_gd_e hf
    refine va_sld hx hb hX hbl hbA hS (wc_in_e h87) wd_K_law_298 ?_
    refine lv_topi (fun v88 ev88 => ?_)
    have hf := wc_st_e ev88 hf
    refine lv_aload_n hx hb wd_K_law_299 rfl (lv_at hl 0 rfl) ?_
    refine lv_iload hx hb wd_K_law_300 (lv_at hl 4 rfl) ?_
    refine lv_iconst (v := 2) hx hb wd_K_law_302 (by decide) ?_
    refine lv_iadd hx hb wd_K_law_303 ?_
    refine lv_topi (fun v89 ev89 => ?_)
    have hf := wc_st_e ev89 hf
    obtain ⟨h90, hf⟩ := wc_gd_e hf
    refine va_sld hx hb hX hbl hbA hS (wc_in_e h90) wd_K_law_304 ?_
    refine lv_topi (fun v91 ev91 => ?_)
    have hf := wc_st_e ev91 hf
    obtain ⟨r93, σ92, hq, hf⟩ := wc_b2_e hf
    refine wx_callik (wz_runSW (As := [.ref (ad 0), .int v88, .int v91]) (rest := []) ⟨hx, hb, hml, hown, hts⟩ (wm_K_urgent l D ad cI cZ cJ cG htr _ v88 v91 σ _ hq) wt_418 wt_417 wt_0 wt_416 wh_K_urgent rfl rfl ⟨Nat.le_of_ble_eq_true rfl, Nat.le_of_ble_eq_true rfl⟩ (wx_preS hK hP hD hS hA hC) rfl rfl hl.1 rfl (lv_room (Nat.le_of_ble_eq_true rfl)) wd_K_law_305 ⟨by show _ ≤ 661080; omega, by show _ ≤ 7112863; omega⟩) hD hS hA (fun H locs hP hD hS => ?_)
    refine W.widen (k := 90 + 2 * t + 1) (n := 700 + 12 * t + 6) (by omega) (by omega) ?_
    refine lv_istore (lv' := [(5, .int r93), (0, .ref b), (1, .ref (ad 0)), (2, .ref (ad 71)), (3, .ref (ad 88)), (4, .int x4)]) hx hb wd_K_law_308 hl (by decide) rfl (fun ls hl => ?_)
    refine lv_aload_n hx hb wd_K_law_310 rfl (lv_at hl 3 rfl) ?_
    refine lv_aload_n hx hb wd_K_law_311 rfl (lv_at hl 1 rfl) ?_
    refine lv_iload hx hb wd_K_law_312 (lv_at hl 5 rfl) ?_
    refine lv_iconst (v := 1) hx hb wd_K_law_314 (by decide) ?_
    refine lv_iadd hx hb wd_K_law_315 ?_
    refine lv_topi (fun v94 ev94 => ?_)
    have hf := wc_st_e ev94 hf
    obtain ⟨h95, hf⟩ := wc_gd_e hf
    refine va_sld hx hb hX hbl hbA hS (wc_in_e h95) wd_K_law_316 ?_
    refine lv_topi (fun v96 ev96 => ?_)
    have hf := wc_st_e ev96 hf
    refine lv_aload_n hx hb wd_K_law_317 rfl (lv_at hl 1 rfl) ?_
    refine lv_iload hx hb wd_K_law_318 (lv_at hl 5 rfl) ?_
    refine lv_iconst (v := 2) hx hb wd_K_law_320 (by decide) ?_
    refine lv_iadd hx hb wd_K_law_321 ?_
    refine lv_topi (fun v97 ev97 => ?_)
    have hf := wc_st_e ev97 hf
    obtain ⟨h98, hf⟩ := wc_gd_e hf
    refine va_sld hx hb hX hbl hbA hS (wc_in_e h98) wd_K_law_322 ?_
    refine lv_topi (fun v99 ev99 => ?_)
    have hf := wc_st_e ev99 hf
    obtain ⟨σ100, hq, hf⟩ := wc_b1_e hf
    refine wx_callv (va_runV (As := [.int v96, .int v99]) (rest := []) ⟨hx, hb, hml, hown, hts⟩ (wm_M_urgent l D ad cI cZ cJ cG _ v96 v99 σ92 _ hq) (wx_cwV 2 hts wt_748 wt_746 wt_747 wt_7 wt_745 wh_M_urgent rfl rfl ⟨Nat.le_of_ble_eq_true rfl, Nat.le_of_ble_eq_true rfl⟩) (wx_preV hK hP hD hS hA hC (by decide) rfl rfl) rfl rfl hl.1 rfl (lv_room (Nat.le_of_ble_eq_true rfl)) wd_K_law_323 ⟨by show _ ≤ 661080; omega, by show _ ≤ 7112863; omega⟩) hD hS hA (fun H locs hP hD hS => ?_)
    refine lv_goto (tgt := 704) hx hb wd_K_law_326 (by decide) ?_
    refine W.widen (k := 90 + 2 * t + 2) (n := 700 + 12 * t + 12) (by omega) (by omega) ?_
    exact J704 k23 hk23 t x4 σ100 hf htt _ _ _ hP hD hS (lv_sub hl [1, 2, 3, 4, 5] rfl)
  have J329 : ∀ (k23 : Nat → Int32 → wc_S → Option (Int32 × wc_S)) (hk23 : (∀ (t : Nat) (x4 : Int32) (σ : wc_S), k23 t x4 σ = some res → wx_Arr p l e room_1 s m #[Value.ref b] below meth c D ad cI cZ cJ cG (fun q : Nat => s.heap.size ≤ q) (lw_Z below #[Value.ref b] s) 7 (90 + 2 * t + 0) (700 + 12 * t + 0) 23 [(0, .ref b), (1, .ref (ad 0)), (2, .ref (ad 71)), (3, .ref (ad 88)), (4, .int x4)] [] σ)) (t : Nat) (x4 : Int32) (σ : wc_S), wf_law_329 L xs k23 t x4 σ = some res → t < 600 → wx_Arr p l e room_1 s m #[Value.ref b] below meth c D ad cI cZ cJ cG (fun q : Nat => s.heap.size ≤ q) (lw_Z below #[Value.ref b] s) 7 (90 + 2 * t + 0) (700 + 12 * t + 0) 329 [(0, .ref b), (1, .ref (ad 0)), (2, .ref (ad 71)), (3, .ref (ad 88)), (4, .int x4)] [] σ := by
    intro k23 hk23 t x4 σ hf htt H locs ls hP hD hS hl
    unfold wf_law_329 at hf
    refine lv_aload_n hx hb wd_K_law_329 rfl (lv_at hl 1 rfl) ?_
    refine lv_aload_n hx hb wd_K_law_330 rfl (lv_at hl 0 rfl) ?_
    refine lv_iload hx hb wd_K_law_331 (lv_at hl 4 rfl) ?_
    refine lv_iconst (v := 1) hx hb wd_K_law_333 (by decide) ?_
    refine lv_iadd hx hb wd_K_law_334 ?_
    refine lv_topi (fun v101 ev101 => ?_)
    have hf := wc_st_e ev101 hf
    obtain ⟨h102, hf⟩ := wc_gd_e hf
    refine va_sld hx hb hX hbl hbA hS (wc_in_e h102) wd_K_law_335 ?_
    refine lv_topi (fun v103 ev103 => ?_)
    have hf := wc_st_e ev103 hf
    refine lv_aload_n hx hb wd_K_law_336 rfl (lv_at hl 0 rfl) ?_
    refine lv_iload hx hb wd_K_law_337 (lv_at hl 4 rfl) ?_
    refine lv_iconst (v := 2) hx hb wd_K_law_339 (by decide) ?_
    refine lv_iadd hx hb wd_K_law_340 ?_
    refine lv_topi (fun v104 ev104 => ?_)
    have hf := wc_st_e ev104 hf
    obtain ⟨h105, hf⟩ := wc_gd_e hf
    refine va_sld hx hb hX hbl hbA hS (wc_in_e h105) wd_K_law_341 ?_
    refine lv_topi (fun v106 ev106 => ?_)
    have hf := wc_st_e ev106 hf
    obtain ⟨r108, σ107, hq, hf⟩ := wc_b2_e hf
    refine wx_callik (wz_runSW (As := [.ref (ad 0), .int v103, .int v106]) (rest := []) ⟨hx, hb, hml, hown, hts⟩ (wm_K_old l D ad cI cZ cJ cG htr _ v103 v106 σ _ hq) wt_431 wt_430 wt_0 wt_429 wh_K_old rfl rfl ⟨Nat.le_of_ble_eq_true rfl, Nat.le_of_ble_eq_true rfl⟩ (wx_preS hK hP hD hS hA hC) rfl rfl hl.1 rfl (lv_room (Nat.le_of_ble_eq_true rfl)) wd_K_law_342 ⟨by show _ ≤ 661080; omega, by show _ ≤ 7112863; omega⟩) hD hS hA (fun H locs hP hD hS => ?_)
    refine W.widen (k := 90 + 2 * t + 1) (n := 700 + 12 * t + 6) (by omega) (by omega) ?_
    refine lv_istore (lv' := [(5, .int r108), (0, .ref b), (1, .ref (ad 0)), (2, .ref (ad 71)), (3, .ref (ad 88)), (4, .int x4)]) hx hb wd_K_law_345 hl (by decide) rfl (fun ls hl => ?_)
    refine lv_aload_n hx hb wd_K_law_347 rfl (lv_at hl 3 rfl) ?_
    refine lv_aload_n hx hb wd_K_law_348 rfl (lv_at hl 1 rfl) ?_
    refine lv_iload hx hb wd_K_law_349 (lv_at hl 5 rfl) ?_
    refine lv_iconst (v := 1) hx hb wd_K_law_351 (by decide) ?_
    refine lv_iadd hx hb wd_K_law_352 ?_
    refine lv_topi (fun v109 ev109 => ?_)
    have hf := wc_st_e ev109 hf
    obtain ⟨h110, hf⟩ := wc_gd_e hf
    refine va_sld hx hb hX hbl hbA hS (wc_in_e h110) wd_K_law_353 ?_
    refine lv_topi (fun v111 ev111 => ?_)
    have hf := wc_st_e ev111 hf
    refine lv_aload_n hx hb wd_K_law_354 rfl (lv_at hl 1 rfl) ?_
    refine lv_iload hx hb wd_K_law_355 (lv_at hl 5 rfl) ?_
    refine lv_iconst (v := 2) hx hb wd_K_law_357 (by decide) ?_
    refine lv_iadd hx hb wd_K_law_358 ?_
    refine lv_topi (fun v112 ev112 => ?_)
    have hf := wc_st_e ev112 hf
    obtain ⟨h113, hf⟩ := wc_gd_e hf
    refine va_sld hx hb hX hbl hbA hS (wc_in_e h113) wd_K_law_359 ?_
    refine lv_topi (fun v114 ev114 => ?_)
    have hf := wc_st_e ev114 hf
    obtain ⟨σ115, hq, hf⟩ := wc_b1_e hf
    refine wx_callv (va_runV (As := [.int v111, .int v114]) (rest := []) ⟨hx, hb, hml, hown, hts⟩ (wm_M_old l D ad cI cZ cJ cG _ v111 v114 σ107 _ hq) (wx_cwV 2 hts wt_756 wt_754 wt_755 wt_7 wt_753 wh_M_old rfl rfl ⟨Nat.le_of_ble_eq_true rfl, Nat.le_of_ble_eq_true rfl⟩) (wx_preV hK hP hD hS hA hC (by decide) rfl rfl) rfl rfl hl.1 rfl (lv_room (Nat.le_of_ble_eq_true rfl)) wd_K_law_360 ⟨by show _ ≤ 661080; omega, by show _ ≤ 7112863; omega⟩) hD hS hA (fun H locs hP hD hS => ?_)
    refine lv_aload_n hx hb wd_K_law_363 rfl (lv_at hl 3 rfl) ?_
    obtain ⟨r117, σ116, hq, hf⟩ := wc_b2_e hf
    refine wx_calli (va_runV (As := []) (rest := []) ⟨hx, hb, hml, hown, hts⟩ (wm_M_thrown l D ad cI cZ cJ cG _ σ115 _ hq) (wx_cwV 0 hts wt_721 wt_719 wt_720 wt_7 wt_718 wh_M_thrown rfl rfl ⟨Nat.le_of_ble_eq_true rfl, Nat.le_of_ble_eq_true rfl⟩) (wx_preV hK hP hD hS hA hC (by decide) rfl rfl) rfl rfl hl.1 rfl (lv_room (Nat.le_of_ble_eq_true rfl)) wd_K_law_364 ⟨by show _ ≤ 661080; omega, by show _ ≤ 7112863; omega⟩) hD hS hA (fun H locs hP hD hS => ?_)
    refine lv_iload hx hb wd_K_law_367 (lv_at hl 0 rfl) ?_
    refine lv_icmp_eq (tgt := 374) hx hb wd_K_law_369 (by decide) (fun c118 => ?_) (fun c118 => ?_)
    · have hf := wc_t c118 hf
      refine lv_goto (tgt := 704) hx hb wd_K_law_374 (by decide) ?_
      refine W.widen (k := 90 + 2 * t + 2) (n := 700 + 12 * t + 12) (by omega) (by omega) ?_
      exact J704 k23 hk23 t x4 σ116 hf htt _ _ _ hP hD hS (lv_sub hl [1, 2, 3, 4, 5] rfl)
    · have hf := wc_f c118 hf
      refine lv_iconst (v := 0) hx hb wd_K_law_372 (by decide) ?_
      exact absurd (show (0 : Int32) = 1 from (congrArg Prod.fst (Option.some.inj hf)).trans hres) (by decide)
  have J377 : ∀ (k23 : Nat → Int32 → wc_S → Option (Int32 × wc_S)) (hk23 : (∀ (t : Nat) (x4 : Int32) (σ : wc_S), k23 t x4 σ = some res → wx_Arr p l e room_1 s m #[Value.ref b] below meth c D ad cI cZ cJ cG (fun q : Nat => s.heap.size ≤ q) (lw_Z below #[Value.ref b] s) 7 (90 + 2 * t + 0) (700 + 12 * t + 0) 23 [(0, .ref b), (1, .ref (ad 0)), (2, .ref (ad 71)), (3, .ref (ad 88)), (4, .int x4)] [] σ)) (t : Nat) (x4 : Int32) (σ : wc_S), wf_law_377 L xs k23 t x4 σ = some res → t < 600 → wx_Arr p l e room_1 s m #[Value.ref b] below meth c D ad cI cZ cJ cG (fun q : Nat => s.heap.size ≤ q) (lw_Z below #[Value.ref b] s) 7 (90 + 2 * t + 0) (700 + 12 * t + 0) 377 [(0, .ref b), (1, .ref (ad 0)), (2, .ref (ad 71)), (3, .ref (ad 88)), (4, .int x4)] [] σ := by
    intro k23 hk23 t x4 σ hf htt H locs ls hP hD hS hl
    unfold wf_law_377 at hf
    refine lv_aload_n hx hb wd_K_law_377 rfl (lv_at hl 1 rfl) ?_
    refine lv_aload_n hx hb wd_K_law_378 rfl (lv_at hl 0 rfl) ?_
    refine lv_iload hx hb wd_K_law_379 (lv_at hl 4 rfl) ?_
    refine lv_iconst (v := 1) hx hb wd_K_law_381 (by decide) ?_
    refine lv_iadd hx hb wd_K_law_382 ?_
    refine lv_topi (fun v119 ev119 => ?_)
    have hf := wc_st_e ev119 hf
    obtain ⟨h120, hf⟩ := wc_gd_e hf
    refine va_sld hx hb hX hbl hbA hS (wc_in_e h120) wd_K_law_383 ?_
    refine lv_topi (fun v121 ev121 => ?_)
    have hf := wc_st_e ev121 hf
    refine lv_aload_n hx hb wd_K_law_384 rfl (lv_at hl 0 rfl) ?_
    refine lv_iload hx hb wd_K_law_385 (lv_at hl 4 rfl) ?_
    refine lv_iconst (v := 2) hx hb wd_K_law_387 (by decide) ?_
    refine lv_iadd hx hb wd_K_law_388 ?_
    refine lv_topi (fun v122 ev122 => ?_)
    have hf := wc_st_e ev122 hf
    obtain ⟨h123, hf⟩ := wc_gd_e hf
    refine va_sld hx hb hX hbl hbA hS (wc_in_e h123) wd_K_law_389 ?_
    refine lv_topi (fun v124 ev124 => ?_)
    have hf := wc_st_e ev124 hf
    refine lv_aload_n hx hb wd_K_law_390 rfl (lv_at hl 0 rfl) ?_
    refine lv_iload hx hb wd_K_law_391 (lv_at hl 4 rfl) ?_
    refine lv_iconst (v := 3) hx hb wd_K_law_393 (by decide) ?_
    refine lv_iadd hx hb wd_K_law_394 ?_
    refine lv_topi (fun v125 ev125 => ?_)
    have hf := wc_st_e ev125 hf
    obtain ⟨h126, hf⟩ := wc_gd_e hf
    refine va_sld hx hb hX hbl hbA hS (wc_in_e h126) wd_K_law_395 ?_
    refine lv_topi (fun v127 ev127 => ?_)
    have hf := wc_st_e ev127 hf
    refine lv_aload_n hx hb wd_K_law_396 rfl (lv_at hl 0 rfl) ?_
    refine lv_iload hx hb wd_K_law_397 (lv_at hl 4 rfl) ?_
    refine lv_iconst (v := 4) hx hb wd_K_law_399 (by decide) ?_
    refine lv_iadd hx hb wd_K_law_400 ?_
    refine lv_topi (fun v128 ev128 => ?_)
    have hf := wc_st_e ev128 hf
    obtain ⟨h129, hf⟩ := wc_gd_e hf
    refine va_sld hx hb hX hbl hbA hS (wc_in_e h129) wd_K_law_401 ?_
    refine lv_topi (fun v130 ev130 => ?_)
    have hf := wc_st_e ev130 hf
    obtain ⟨r132, σ131, hq, hf⟩ := wc_b2_e hf
    refine wx_callik (wz_runSW (As := [.ref (ad 0), .int v121, .int v124, .int v127, .int v130]) (rest := []) ⟨hx, hb, hml, hown, hts⟩ (wm_K_rules l D ad cI cZ cJ cG htr _ v121 v124 v127 v130 σ _ hq) wt_439 wt_438 wt_0 wt_437 wh_K_rules rfl rfl ⟨Nat.le_of_ble_eq_true rfl, Nat.le_of_ble_eq_true rfl⟩ (wx_preS hK hP hD hS hA hC) rfl rfl hl.1 rfl (lv_room (Nat.le_of_ble_eq_true rfl)) wd_K_law_402 ⟨by show _ ≤ 661080; omega, by show _ ≤ 7112863; omega⟩) hD hS hA (fun H locs hP hD hS => ?_)
    refine W.widen (k := 90 + 2 * t + 1) (n := 700 + 12 * t + 6) (by omega) (by omega) ?_
    refine lv_istore (lv' := [(5, .int r132), (0, .ref b), (1, .ref (ad 0)), (2, .ref (ad 71)), (3, .ref (ad 88)), (4, .int x4)]) hx hb wd_K_law_405 hl (by decide) rfl (fun ls hl => ?_)
    refine lv_aload_n hx hb wd_K_law_407 rfl (lv_at hl 3 rfl) ?_
    refine lv_aload_n hx hb wd_K_law_408 rfl (lv_at hl 1 rfl) ?_
    refine lv_iload hx hb wd_K_law_409 (lv_at hl 5 rfl) ?_
    refine lv_iconst (v := 1) hx hb wd_K_law_411 (by decide) ?_
    refine lv_iadd hx hb wd_K_law_412 ?_
    refine lv_topi (fun v133 ev133 => ?_)
    have hf := wc_st_e ev133 hf
    obtain ⟨h134, hf⟩ := wc_gd_e hf
    refine va_sld hx hb hX hbl hbA hS (wc_in_e h134) wd_K_law_413 ?_
    refine lv_topi (fun v135 ev135 => ?_)
    have hf := wc_st_e ev135 hf
    refine lv_aload_n hx hb wd_K_law_414 rfl (lv_at hl 1 rfl) ?_
    refine lv_iload hx hb wd_K_law_415 (lv_at hl 5 rfl) ?_
    refine lv_iconst (v := 2) hx hb wd_K_law_417 (by decide) ?_
    refine lv_iadd hx hb wd_K_law_418 ?_
    refine lv_topi (fun v136 ev136 => ?_)
    have hf := wc_st_e ev136 hf
    obtain ⟨h137, hf⟩ := wc_gd_e hf
    refine va_sld hx hb hX hbl hbA hS (wc_in_e h137) wd_K_law_419 ?_
    refine lv_topi (fun v138 ev138 => ?_)
    have hf := wc_st_e ev138 hf
    refine lv_aload_n hx hb wd_K_law_420 rfl (lv_at hl 1 rfl) ?_
    refine lv_iload hx hb wd_K_law_421 (lv_at hl 5 rfl) ?_
    refine lv_iconst (v := 3) hx hb wd_K_law_423 (by decide) ?_
    refine lv_iadd hx hb wd_K_law_424 ?_
    refine lv_topi (fun v139 ev139 => ?_)
    have hf := wc_st_e ev139 hf
    obtain ⟨h140, hf⟩ := wc_gd_e hf
    refine va_sld hx hb hX hbl hbA hS (wc_in_e h140) wd_K_law_425 ?_
    refine lv_topi (fun v141 ev141 => ?_)
    have hf := wc_st_e ev141 hf
    refine lv_aload_n hx hb wd_K_law_426 rfl (lv_at hl 1 rfl) ?_
    refine lv_iload hx hb wd_K_law_427 (lv_at hl 5 rfl) ?_
    refine lv_iconst (v := 4) hx hb wd_K_law_429 (by decide) ?_
    refine lv_iadd hx hb wd_K_law_430 ?_
    refine lv_topi (fun v142 ev142 => ?_)
    have hf := wc_st_e ev142 hf
    obtain ⟨h143, hf⟩ := wc_gd_e hf
    refine va_sld hx hb hX hbl hbA hS (wc_in_e h143) wd_K_law_431 ?_
    refine lv_topi (fun v144 ev144 => ?_)
    have hf := wc_st_e ev144 hf
    obtain ⟨σ145, hq, hf⟩ := wc_b1_e hf
    refine wx_callv (va_runV (As := [.int v135, .int v138, .int v141, .int v144]) (rest := []) ⟨hx, hb, hml, hown, hts⟩ (wm_M_rules l D ad cI cZ cJ cG _ v135 v138 v141 v144 σ131 _ hq) (wx_cwV 4 hts wt_760 wt_758 wt_759 wt_7 wt_757 wh_M_rules rfl rfl ⟨Nat.le_of_ble_eq_true rfl, Nat.le_of_ble_eq_true rfl⟩) (wx_preV hK hP hD hS hA hC (by decide) rfl rfl) rfl rfl hl.1 rfl (lv_room (Nat.le_of_ble_eq_true rfl)) wd_K_law_432 ⟨by show _ ≤ 661080; omega, by show _ ≤ 7112863; omega⟩) hD hS hA (fun H locs hP hD hS => ?_)
    refine lv_goto (tgt := 704) hx hb wd_K_law_435 (by decide) ?_
    refine W.widen (k := 90 + 2 * t + 2) (n := 700 + 12 * t + 12) (by omega) (by omega) ?_
    exact J704 k23 hk23 t x4 σ145 hf htt _ _ _ hP hD hS (lv_sub hl [1, 2, 3, 4, 5] rfl)
  have J438 : ∀ (k23 : Nat → Int32 → wc_S → Option (Int32 × wc_S)) (hk23 : (∀ (t : Nat) (x4 : Int32) (σ : wc_S), k23 t x4 σ = some res → wx_Arr p l e room_1 s m #[Value.ref b] below meth c D ad cI cZ cJ cG (fun q : Nat => s.heap.size ≤ q) (lw_Z below #[Value.ref b] s) 7 (90 + 2 * t + 0) (700 + 12 * t + 0) 23 [(0, .ref b), (1, .ref (ad 0)), (2, .ref (ad 71)), (3, .ref (ad 88)), (4, .int x4)] [] σ)) (t : Nat) (x4 : Int32) (σ : wc_S), wf_law_438 L xs k23 t x4 σ = some res → t < 600 → wx_Arr p l e room_1 s m #[Value.ref b] below meth c D ad cI cZ cJ cG (fun q : Nat => s.heap.size ≤ q) (lw_Z below #[Value.ref b] s) 7 (90 + 2 * t + 0) (700 + 12 * t + 0) 438 [(0, .ref b), (1, .ref (ad 0)), (2, .ref (ad 71)), (3, .ref (ad 88)), (4, .int x4)] [] σ := by
    intro k23 hk23 t x4 σ hf htt H locs ls hP hD hS hl
    unfold wf_law_438 at hf
    refine lv_aload_n hx hb wd_K_law_438 rfl (lv_at hl 1 rfl) ?_
    refine lv_aload_n hx hb wd_K_law_439 rfl (lv_at hl 0 rfl) ?_
    refine lv_iload hx hb wd_K_law_440 (lv_at hl 4 rfl) ?_
    refine lv_iconst (v := 1) hx hb wd_K_law_442 (by decide) ?_
    refine lv_iadd hx hb wd_K_law_443 ?_
    refine lv_topi (fun v146 ev146 => ?_)
    have hf := wc_st_e ev146 hf
    obtain ⟨h147, hf⟩ := wc_gd_e hf
    refine va_sld hx hb hX hbl hbA hS (wc_in_e h147) wd_K_law_444 ?_
    refine lv_topi (fun v148 ev148 => ?_)
    have hf := wc_st_e ev148 hf
    refine lv_aload_n hx hb wd_K_law_445 rfl (lv_at hl 3 rfl) ?_
    obtain ⟨r150, σ149, hq, hf⟩ := wc_b2_e hf
    refine wx_callik (wz_runSW (As := [.ref (ad 0), .int v148, .ref (ad 88)]) (rest := []) ⟨hx, hb, hml, hown, hts⟩ (wm_K_run l D ad cI cZ cJ cG htr _ v148 σ _ hq) wt_447 wt_446 wt_0 wt_445 wh_K_run rfl rfl ⟨Nat.le_of_ble_eq_true rfl, Nat.le_of_ble_eq_true rfl⟩ (wx_preS hK hP hD hS hA hC) rfl rfl hl.1 rfl (lv_room (Nat.le_of_ble_eq_true rfl)) wd_K_law_446 ⟨by show _ ≤ 661080; omega, by show _ ≤ 7112863; omega⟩) hD hS hA (fun H locs hP hD hS => ?_)
    refine W.widen (k := 90 + 2 * t + 1) (n := 700 + 12 * t + 6) (by omega) (by omega) ?_
    refine lv_istore (lv' := [(5, .int r150), (0, .ref b), (1, .ref (ad 0)), (2, .ref (ad 71)), (3, .ref (ad 88)), (4, .int x4)]) hx hb wd_K_law_449 hl (by decide) rfl (fun ls hl => ?_)
    refine lv_aload_n hx hb wd_K_law_451 rfl (lv_at hl 3 rfl) ?_
    refine lv_aload_n hx hb wd_K_law_452 rfl (lv_at hl 1 rfl) ?_
    refine lv_iload hx hb wd_K_law_453 (lv_at hl 5 rfl) ?_
    refine lv_iconst (v := 1) hx hb wd_K_law_455 (by decide) ?_
    refine lv_iadd hx hb wd_K_law_456 ?_
    refine lv_topi (fun v151 ev151 => ?_)
    have hf := wc_st_e ev151 hf
    obtain ⟨h152, hf⟩ := wc_gd_e hf
    refine va_sld hx hb hX hbl hbA hS (wc_in_e h152) wd_K_law_457 ?_
    refine lv_topi (fun v153 ev153 => ?_)
    have hf := wc_st_e ev153 hf
    obtain ⟨r155, σ154, hq, hf⟩ := wc_b2_e hf
    refine wx_calli (va_runV (As := [.int v153]) (rest := []) ⟨hx, hb, hml, hown, hts⟩ (wm_M_run l D ad cI cZ cJ cG _ v153 σ149 _ hq) (wx_cwV 1 hts wt_764 wt_762 wt_763 wt_7 wt_761 wh_M_run rfl rfl ⟨Nat.le_of_ble_eq_true rfl, Nat.le_of_ble_eq_true rfl⟩) (wx_preV hK hP hD hS hA hC (by decide) rfl rfl) rfl rfl hl.1 rfl (lv_room (Nat.le_of_ble_eq_true rfl)) wd_K_law_458 ⟨by show _ ≤ 661080; omega, by show _ ≤ 7112863; omega⟩) hD hS hA (fun H locs hP hD hS => ?_)
    refine lv_istore (lv' := [(6, .int r155), (5, .int r150), (0, .ref b), (1, .ref (ad 0)), (2, .ref (ad 71)), (3, .ref (ad 88)), (4, .int x4)]) hx hb wd_K_law_461 hl (by decide) rfl (fun ls hl => ?_)
    refine lv_goto (tgt := 704) hx hb wd_K_law_463 (by decide) ?_
    refine W.widen (k := 90 + 2 * t + 2) (n := 700 + 12 * t + 12) (by omega) (by omega) ?_
    exact J704 k23 hk23 t x4 σ154 hf htt _ _ _ hP hD hS (lv_sub hl [2, 3, 4, 5, 6] rfl)
  have J466 : ∀ (k23 : Nat → Int32 → wc_S → Option (Int32 × wc_S)) (hk23 : (∀ (t : Nat) (x4 : Int32) (σ : wc_S), k23 t x4 σ = some res → wx_Arr p l e room_1 s m #[Value.ref b] below meth c D ad cI cZ cJ cG (fun q : Nat => s.heap.size ≤ q) (lw_Z below #[Value.ref b] s) 7 (90 + 2 * t + 0) (700 + 12 * t + 0) 23 [(0, .ref b), (1, .ref (ad 0)), (2, .ref (ad 71)), (3, .ref (ad 88)), (4, .int x4)] [] σ)) (t : Nat) (x4 : Int32) (σ : wc_S), wf_law_466 L xs k23 t x4 σ = some res → t < 600 → wx_Arr p l e room_1 s m #[Value.ref b] below meth c D ad cI cZ cJ cG (fun q : Nat => s.heap.size ≤ q) (lw_Z below #[Value.ref b] s) 7 (90 + 2 * t + 0) (700 + 12 * t + 0) 466 [(0, .ref b), (1, .ref (ad 0)), (2, .ref (ad 71)), (3, .ref (ad 88)), (4, .int x4)] [] σ := by
    intro k23 hk23 t x4 σ hf htt H locs ls hP hD hS hl
    unfold wf_law_466 at hf
    refine lv_aload_n hx hb wd_K_law_466 rfl (lv_at hl 1 rfl) ?_
    refine lv_aload_n hx hb wd_K_law_467 rfl (lv_at hl 3 rfl) ?_
    obtain ⟨r157, σ156, hq, hf⟩ := wc_b2_e hf
    refine wx_callik (wz_runSW (As := [.ref (ad 0), .ref (ad 88)]) (rest := []) ⟨hx, hb, hml, hown, hts⟩ (wm_K_proved l D ad cI cZ cJ cG htr _ σ _ hq) wt_523 wt_522 wt_0 wt_521 wh_K_proved rfl rfl ⟨Nat.le_of_ble_eq_true rfl, Nat.le_of_ble_eq_true rfl⟩ (wx_preS hK hP hD hS hA hC) rfl rfl hl.1 rfl (lv_room (Nat.le_of_ble_eq_true rfl)) wd_K_law_468 ⟨by show _ ≤ 661080; omega, by show _ ≤ 7112863; omega⟩) hD hS hA (fun H locs hP hD hS => ?_)
    refine W.widen (k := 90 + 2 * t + 1) (n := 700 + 12 * t + 6) (by omega) (by omega) ?_
    refine lv_istore (lv' := [(5, .int r157), (0, .ref b), (1, .ref (ad 0)), (2, .ref (ad 71)), (3, .ref (ad 88)), (4, .int x4)]) hx hb wd_K_law_471 hl (by decide) rfl (fun ls hl => ?_)
    refine lv_aload_n hx hb wd_K_law_473 rfl (lv_at hl 3 rfl) ?_
    obtain ⟨r159, σ158, hq, hf⟩ := wc_b2_e hf
    refine wx_calli (va_runV (As := []) (rest := []) ⟨hx, hb, hml, hown, hts⟩ (wm_M_proved l D ad cI cZ cJ cG _ σ156 _ hq) (wx_cwV 0 hts wt_793 wt_791 wt_792 wt_7 wt_790 wh_M_proved rfl rfl ⟨Nat.le_of_ble_eq_true rfl, Nat.le_of_ble_eq_true rfl⟩) (wx_preV hK hP hD hS hA hC (by decide) rfl rfl) rfl rfl hl.1 rfl (lv_room (Nat.le_of_ble_eq_true rfl)) wd_K_law_474 ⟨by show _ ≤ 661080; omega, by show _ ≤ 7112863; omega⟩) hD hS hA (fun H locs hP hD hS => ?_)
    refine lv_istore (lv' := [(6, .int r159), (5, .int r157), (0, .ref b), (1, .ref (ad 0)), (2, .ref (ad 71)), (3, .ref (ad 88)), (4, .int x4)]) hx hb wd_K_law_477 hl (by decide) rfl (fun ls hl => ?_)
    refine lv_goto (tgt := 704) hx hb wd_K_law_479 (by decide) ?_
    refine W.widen (k := 90 + 2 * t + 2) (n := 700 + 12 * t + 12) (by omega) (by omega) ?_
    exact J704 k23 hk23 t x4 σ158 hf htt _ _ _ hP hD hS (lv_sub hl [2, 3, 4, 5, 6] rfl)
  have J482 : ∀ (k23 : Nat → Int32 → wc_S → Option (Int32 × wc_S)) (hk23 : (∀ (t : Nat) (x4 : Int32) (σ : wc_S), k23 t x4 σ = some res → wx_Arr p l e room_1 s m #[Value.ref b] below meth c D ad cI cZ cJ cG (fun q : Nat => s.heap.size ≤ q) (lw_Z below #[Value.ref b] s) 7 (90 + 2 * t + 0) (700 + 12 * t + 0) 23 [(0, .ref b), (1, .ref (ad 0)), (2, .ref (ad 71)), (3, .ref (ad 88)), (4, .int x4)] [] σ)) (t : Nat) (x4 : Int32) (σ : wc_S), wf_law_482 L xs k23 t x4 σ = some res → t < 600 → wx_Arr p l e room_1 s m #[Value.ref b] below meth c D ad cI cZ cJ cG (fun q : Nat => s.heap.size ≤ q) (lw_Z below #[Value.ref b] s) 7 (90 + 2 * t + 0) (700 + 12 * t + 0) 482 [(0, .ref b), (1, .ref (ad 0)), (2, .ref (ad 71)), (3, .ref (ad 88)), (4, .int x4)] [] σ := by
    intro k23 hk23 t x4 σ hf htt H locs ls hP hD hS hl
    unfold wf_law_482 at hf
    refine lv_aload_n hx hb wd_K_law_482 rfl (lv_at hl 1 rfl) ?_
    refine lv_aload_n hx hb wd_K_law_483 rfl (lv_at hl 0 rfl) ?_
    refine lv_iload hx hb wd_K_law_484 (lv_at hl 4 rfl) ?_
    refine lv_iconst (v := 1) hx hb wd_K_law_486 (by decide) ?_
    refine lv_iadd hx hb wd_K_law_487 ?_
    refine lv_topi (fun v160 ev160 => ?_)
    have hf := wc_st_e ev160 hf
    obtain ⟨h161, hf⟩ := wc_gd_e hf
    refine va_sld hx hb hX hbl hbA hS (wc_in_e h161) wd_K_law_488 ?_
    refine lv_topi (fun v162 ev162 => ?_)
    have hf := wc_st_e ev162 hf
    refine lv_aload_n hx hb wd_K_law_489 rfl (lv_at hl 3 rfl) ?_
    obtain ⟨r164, σ163, hq, hf⟩ := wc_b2_e hf
    refine wx_callik (wz_runSW (As := [.ref (ad 0), .int v162, .ref (ad 88)]) (rest := []) ⟨hx, hb, hml, hown, hts⟩ (wm_K_order l D ad cI cZ cJ cG htr _ v162 σ _ hq) wt_547 wt_546 wt_0 wt_545 wh_K_order rfl rfl ⟨Nat.le_of_ble_eq_true rfl, Nat.le_of_ble_eq_true rfl⟩ (wx_preS hK hP hD hS hA hC) rfl rfl hl.1 rfl (lv_room (Nat.le_of_ble_eq_true rfl)) wd_K_law_490 ⟨by show _ ≤ 661080; omega, by show _ ≤ 7112863; omega⟩) hD hS hA (fun H locs hP hD hS => ?_)
    refine W.widen (k := 90 + 2 * t + 2) (n := 700 + 12 * t + 12) (by omega) (by omega) ?_
    refine lv_istore (lv' := [(5, .int r164), (0, .ref b), (1, .ref (ad 0)), (2, .ref (ad 71)), (3, .ref (ad 88)), (4, .int x4)]) hx hb wd_K_law_493 hl (by decide) rfl (fun ls hl => ?_)
    refine lv_aload_n hx hb wd_K_law_495 rfl (lv_at hl 3 rfl) ?_
    refine lv_aload_n hx hb wd_K_law_496 rfl (lv_at hl 1 rfl) ?_
    refine lv_iload hx hb wd_K_law_497 (lv_at hl 5 rfl) ?_
    refine lv_iconst (v := 1) hx hb wd_K_law_499 (by decide) ?_
    refine lv_iadd hx hb wd_K_law_500 ?_
    refine lv_topi (fun v165 ev165 => ?_)
    have hf := wc_st_e ev165 hf
    obtain ⟨h166, hf⟩ := wc_gd_e hf
    refine va_sld hx hb hX hbl hbA hS (wc_in_e h166) wd_K_law_501 ?_
    refine lv_topi (fun v167 ev167 => ?_)
    have hf := wc_st_e ev167 hf
    obtain ⟨r169, σ168, hq, hf⟩ := wc_b2_e hf
    refine wx_calli (va_runV (As := [.int v167]) (rest := []) ⟨hx, hb, hml, hown, hts⟩ (wm_M_order l D ad cI cZ cJ cG _ v167 σ163 _ hq) (wx_cwV 1 hts wt_797 wt_795 wt_796 wt_7 wt_794 wh_M_order rfl rfl ⟨Nat.le_of_ble_eq_true rfl, Nat.le_of_ble_eq_true rfl⟩) (wx_preV hK hP hD hS hA hC (by decide) rfl rfl) rfl rfl hl.1 rfl (lv_room (Nat.le_of_ble_eq_true rfl)) wd_K_law_502 ⟨by show _ ≤ 661080; omega, by show _ ≤ 7112863; omega⟩) hD hS hA (fun H locs hP hD hS => ?_)
    refine lv_istore (lv' := [(6, .int r169), (5, .int r164), (0, .ref b), (1, .ref (ad 0)), (2, .ref (ad 71)), (3, .ref (ad 88)), (4, .int x4)]) hx hb wd_K_law_505 hl (by decide) rfl (fun ls hl => ?_)
    refine lv_goto (tgt := 704) hx hb wd_K_law_507 (by decide) ?_
    refine W.widen (k := 90 + 2 * t + 2) (n := 700 + 12 * t + 12) (by omega) (by omega) ?_
    exact J704 k23 hk23 t x4 σ168 hf htt _ _ _ hP hD hS (lv_sub hl [2, 3, 4, 5, 6] rfl)
  have J510 : ∀ (k23 : Nat → Int32 → wc_S → Option (Int32 × wc_S)) (hk23 : (∀ (t : Nat) (x4 : Int32) (σ : wc_S), k23 t x4 σ = some res → wx_Arr p l e room_1 s m #[Value.ref b] below meth c D ad cI cZ cJ cG (fun q : Nat => s.heap.size ≤ q) (lw_Z below #[Value.ref b] s) 7 (90 + 2 * t + 0) (700 + 12 * t + 0) 23 [(0, .ref b), (1, .ref (ad 0)), (2, .ref (ad 71)), (3, .ref (ad 88)), (4, .int x4)] [] σ)) (t : Nat) (x4 : Int32) (σ : wc_S), wf_law_510 L xs k23 t x4 σ = some res → t < 600 → wx_Arr p l e room_1 s m #[Value.ref b] below meth c D ad cI cZ cJ cG (fun q : Nat => s.heap.size ≤ q) (lw_Z below #[Value.ref b] s) 7 (90 + 2 * t + 0) (700 + 12 * t + 0) 510 [(0, .ref b), (1, .ref (ad 0)), (2, .ref (ad 71)), (3, .ref (ad 88)), (4, .int x4)] [] σ := by
    intro k23 hk23 t x4 σ hf htt H locs ls hP hD hS hl
    unfold wf_law_510 at hf
    refine lv_aload_n hx hb wd_K_law_510 rfl (lv_at hl 1 rfl) ?_
    refine lv_aload_n hx hb wd_K_law_511 rfl (lv_at hl 0 rfl) ?_
    refine lv_iload hx hb wd_K_law_512 (lv_at hl 4 rfl) ?_
    refine lv_iconst (v := 1) hx hb wd_K_law_514 (by decide) ?_
    refine lv_iadd hx hb wd_K_law_515 ?_
    refine lv_topi (fun v170 ev170 => ?_)
    have hf := wc_st_e ev170 hf
    obtain ⟨h171, hf⟩ := wc_gd_e hf
    refine va_sld hx hb hX hbl hbA hS (wc_in_e h171) wd_K_law_516 ?_
    refine lv_topi (fun v172 ev172 => ?_)
    have hf := wc_st_e ev172 hf
    refine lv_aload_n hx hb wd_K_law_517 rfl (lv_at hl 3 rfl) ?_
    obtain ⟨r174, σ173, hq, hf⟩ := wc_b2_e hf
    refine wx_callik (wz_runSW (As := [.ref (ad 0), .int v172, .ref (ad 88)]) (rest := []) ⟨hx, hb, hml, hown, hts⟩ (wm_K_told l D ad cI cZ cJ cG htr _ v172 σ _ hq) wt_564 wt_563 wt_0 wt_562 wh_K_told rfl rfl ⟨Nat.le_of_ble_eq_true rfl, Nat.le_of_ble_eq_true rfl⟩ (wx_preS hK hP hD hS hA hC) rfl rfl hl.1 rfl (lv_room (Nat.le_of_ble_eq_true rfl)) wd_K_law_518 ⟨by show _ ≤ 661080; omega, by show _ ≤ 7112863; omega⟩) hD hS hA (fun H locs hP hD hS => ?_)
    refine W.widen (k := 90 + 2 * t + 2) (n := 700 + 12 * t + 12) (by omega) (by omega) ?_
    refine lv_istore (lv' := [(5, .int r174), (0, .ref b), (1, .ref (ad 0)), (2, .ref (ad 71)), (3, .ref (ad 88)), (4, .int x4)]) hx hb wd_K_law_521 hl (by decide) rfl (fun ls hl => ?_)
    refine lv_aload_n hx hb wd_K_law_523 rfl (lv_at hl 3 rfl) ?_
    refine lv_aload_n hx hb wd_K_law_524 rfl (lv_at hl 1 rfl) ?_
    refine lv_iload hx hb wd_K_law_525 (lv_at hl 5 rfl) ?_
    refine lv_iconst (v := 1) hx hb wd_K_law_527 (by decide) ?_
    refine lv_iadd hx hb wd_K_law_528 ?_
    refine lv_topi (fun v175 ev175 => ?_)
    have hf := wc_st_e ev175 hf
    obtain ⟨h176, hf⟩ := wc_gd_e hf
    refine va_sld hx hb hX hbl hbA hS (wc_in_e h176) wd_K_law_529 ?_
    refine lv_topi (fun v177 ev177 => ?_)
    have hf := wc_st_e ev177 hf
    obtain ⟨r179, σ178, hq, hf⟩ := wc_b2_e hf
    refine wx_calli (va_runV (As := [.int v177]) (rest := []) ⟨hx, hb, hml, hown, hts⟩ (wm_M_told l D ad cI cZ cJ cG _ v177 σ173 _ hq) (wx_cwV 1 hts wt_801 wt_799 wt_800 wt_7 wt_798 wh_M_told rfl rfl ⟨Nat.le_of_ble_eq_true rfl, Nat.le_of_ble_eq_true rfl⟩) (wx_preV hK hP hD hS hA hC (by decide) rfl rfl) rfl rfl hl.1 rfl (lv_room (Nat.le_of_ble_eq_true rfl)) wd_K_law_530 ⟨by show _ ≤ 661080; omega, by show _ ≤ 7112863; omega⟩) hD hS hA (fun H locs hP hD hS => ?_)
    refine lv_istore (lv' := [(6, .int r179), (5, .int r174), (0, .ref b), (1, .ref (ad 0)), (2, .ref (ad 71)), (3, .ref (ad 88)), (4, .int x4)]) hx hb wd_K_law_533 hl (by decide) rfl (fun ls hl => ?_)
    refine lv_goto (tgt := 704) hx hb wd_K_law_535 (by decide) ?_
    refine W.widen (k := 90 + 2 * t + 2) (n := 700 + 12 * t + 12) (by omega) (by omega) ?_
    exact J704 k23 hk23 t x4 σ178 hf htt _ _ _ hP hD hS (lv_sub hl [2, 3, 4, 5, 6] rfl)
  have J538 : ∀ (k23 : Nat → Int32 → wc_S → Option (Int32 × wc_S)) (hk23 : (∀ (t : Nat) (x4 : Int32) (σ : wc_S), k23 t x4 σ = some res → wx_Arr p l e room_1 s m #[Value.ref b] below meth c D ad cI cZ cJ cG (fun q : Nat => s.heap.size ≤ q) (lw_Z below #[Value.ref b] s) 7 (90 + 2 * t + 0) (700 + 12 * t + 0) 23 [(0, .ref b), (1, .ref (ad 0)), (2, .ref (ad 71)), (3, .ref (ad 88)), (4, .int x4)] [] σ)) (t : Nat) (x4 : Int32) (σ : wc_S), wf_law_538 L xs k23 t x4 σ = some res → t < 600 → wx_Arr p l e room_1 s m #[Value.ref b] below meth c D ad cI cZ cJ cG (fun q : Nat => s.heap.size ≤ q) (lw_Z below #[Value.ref b] s) 7 (90 + 2 * t + 0) (700 + 12 * t + 0) 538 [(0, .ref b), (1, .ref (ad 0)), (2, .ref (ad 71)), (3, .ref (ad 88)), (4, .int x4)] [] σ := by
    intro k23 hk23 t x4 σ hf htt H locs ls hP hD hS hl
    unfold wf_law_538 at hf
    refine lv_aload_n hx hb wd_K_law_538 rfl (lv_at hl 1 rfl) ?_
    refine lv_aload_n hx hb wd_K_law_539 rfl (lv_at hl 0 rfl) ?_
    refine lv_iload hx hb wd_K_law_540 (lv_at hl 4 rfl) ?_
    refine lv_iconst (v := 1) hx hb wd_K_law_542 (by decide) ?_
    refine lv_iadd hx hb wd_K_law_543 ?_
    refine lv_topi (fun v180 ev180 => ?_)
    have hf := wc_st_e ev180 hf
    obtain ⟨h181, hf⟩ := wc_gd_e hf
    refine va_sld hx hb hX hbl hbA hS (wc_in_e h181) wd_K_law_544 ?_
    refine lv_topi (fun v182 ev182 => ?_)
    have hf := wc_st_e ev182 hf
    refine lv_aload_n hx hb wd_K_law_545 rfl (lv_at hl 3 rfl) ?_
    obtain ⟨r184, σ183, hq, hf⟩ := wc_b2_e hf
    refine wx_callik (wz_runSW (As := [.ref (ad 0), .int v182, .ref (ad 88)]) (rest := []) ⟨hx, hb, hml, hown, hts⟩ (wm_K_change l D ad cI cZ cJ cG htr _ v182 σ _ hq) wt_581 wt_580 wt_0 wt_579 wh_K_change rfl rfl ⟨Nat.le_of_ble_eq_true rfl, Nat.le_of_ble_eq_true rfl⟩ (wx_preS hK hP hD hS hA hC) rfl rfl hl.1 rfl (lv_room (Nat.le_of_ble_eq_true rfl)) wd_K_law_546 ⟨by show _ ≤ 661080; omega, by show _ ≤ 7112863; omega⟩) hD hS hA (fun H locs hP hD hS => ?_)
    refine W.widen (k := 90 + 2 * t + 2) (n := 700 + 12 * t + 12) (by omega) (by omega) ?_
    refine lv_istore (lv' := [(5, .int r184), (0, .ref b), (1, .ref (ad 0)), (2, .ref (ad 71)), (3, .ref (ad 88)), (4, .int x4)]) hx hb wd_K_law_549 hl (by decide) rfl (fun ls hl => ?_)
    refine lv_aload_n hx hb wd_K_law_551 rfl (lv_at hl 3 rfl) ?_
    refine lv_aload_n hx hb wd_K_law_552 rfl (lv_at hl 1 rfl) ?_
    refine lv_iload hx hb wd_K_law_553 (lv_at hl 5 rfl) ?_
    refine lv_iconst (v := 1) hx hb wd_K_law_555 (by decide) ?_
    refine lv_iadd hx hb wd_K_law_556 ?_
    refine lv_topi (fun v185 ev185 => ?_)
    have hf := wc_st_e ev185 hf
    obtain ⟨h186, hf⟩ := wc_gd_e hf
    refine va_sld hx hb hX hbl hbA hS (wc_in_e h186) wd_K_law_557 ?_
    refine lv_topi (fun v187 ev187 => ?_)
    have hf := wc_st_e ev187 hf
    obtain ⟨r189, σ188, hq, hf⟩ := wc_b2_e hf
    refine wx_calli (va_runV (As := [.int v187]) (rest := []) ⟨hx, hb, hml, hown, hts⟩ (wm_M_change l D ad cI cZ cJ cG _ v187 σ183 _ hq) (wx_cwV 1 hts wt_805 wt_803 wt_804 wt_7 wt_802 wh_M_change rfl rfl ⟨Nat.le_of_ble_eq_true rfl, Nat.le_of_ble_eq_true rfl⟩) (wx_preV hK hP hD hS hA hC (by decide) rfl rfl) rfl rfl hl.1 rfl (lv_room (Nat.le_of_ble_eq_true rfl)) wd_K_law_558 ⟨by show _ ≤ 661080; omega, by show _ ≤ 7112863; omega⟩) hD hS hA (fun H locs hP hD hS => ?_)
    refine lv_istore (lv' := [(6, .int r189), (5, .int r184), (0, .ref b), (1, .ref (ad 0)), (2, .ref (ad 71)), (3, .ref (ad 88)), (4, .int x4)]) hx hb wd_K_law_561 hl (by decide) rfl (fun ls hl => ?_)
    refine lv_goto (tgt := 704) hx hb wd_K_law_563 (by decide) ?_
    refine W.widen (k := 90 + 2 * t + 2) (n := 700 + 12 * t + 12) (by omega) (by omega) ?_
    exact J704 k23 hk23 t x4 σ188 hf htt _ _ _ hP hD hS (lv_sub hl [2, 3, 4, 5, 6] rfl)
  have J566 : ∀ (k23 : Nat → Int32 → wc_S → Option (Int32 × wc_S)) (hk23 : (∀ (t : Nat) (x4 : Int32) (σ : wc_S), k23 t x4 σ = some res → wx_Arr p l e room_1 s m #[Value.ref b] below meth c D ad cI cZ cJ cG (fun q : Nat => s.heap.size ≤ q) (lw_Z below #[Value.ref b] s) 7 (90 + 2 * t + 0) (700 + 12 * t + 0) 23 [(0, .ref b), (1, .ref (ad 0)), (2, .ref (ad 71)), (3, .ref (ad 88)), (4, .int x4)] [] σ)) (t : Nat) (x4 : Int32) (σ : wc_S), wf_law_566 L xs k23 t x4 σ = some res → t < 600 → wx_Arr p l e room_1 s m #[Value.ref b] below meth c D ad cI cZ cJ cG (fun q : Nat => s.heap.size ≤ q) (lw_Z below #[Value.ref b] s) 7 (90 + 2 * t + 0) (700 + 12 * t + 0) 566 [(0, .ref b), (1, .ref (ad 0)), (2, .ref (ad 71)), (3, .ref (ad 88)), (4, .int x4)] [] σ := by
    intro k23 hk23 t x4 σ hf htt H locs ls hP hD hS hl
    unfold wf_law_566 at hf
    refine lv_aload_n hx hb wd_K_law_566 rfl (lv_at hl 1 rfl) ?_
    refine lv_aload_n hx hb wd_K_law_567 rfl (lv_at hl 0 rfl) ?_
    refine lv_iload hx hb wd_K_law_568 (lv_at hl 4 rfl) ?_
    refine lv_iconst (v := 1) hx hb wd_K_law_570 (by decide) ?_
    refine lv_iadd hx hb wd_K_law_571 ?_
    refine lv_topi (fun v190 ev190 => ?_)
    have hf := wc_st_e ev190 hf
    obtain ⟨h191, hf⟩ := wc_gd_e hf
    refine va_sld hx hb hX hbl hbA hS (wc_in_e h191) wd_K_law_572 ?_
    refine lv_topi (fun v192 ev192 => ?_)
    have hf := wc_st_e ev192 hf
    refine lv_aload_n hx hb wd_K_law_573 rfl (lv_at hl 0 rfl) ?_
    refine lv_iload hx hb wd_K_law_574 (lv_at hl 4 rfl) ?_
    refine lv_iconst (v := 2) hx hb wd_K_law_576 (by decide) ?_
    refine lv_iadd hx hb wd_K_law_577 ?_
    refine lv_topi (fun v193 ev193 => ?_)
    have hf := wc_st_e ev193 hf
    obtain ⟨h194, hf⟩ := wc_gd_e hf
    refine va_sld hx hb hX hbl hbA hS (wc_in_e h194) wd_K_law_578 ?_
    refine lv_topi (fun v195 ev195 => ?_)
    have hf := wc_st_e ev195 hf
    refine lv_aload_n hx hb wd_K_law_579 rfl (lv_at hl 3 rfl) ?_
    obtain ⟨r197, σ196, hq, hf⟩ := wc_b2_e hf
    refine wx_callik (wz_runSW (As := [.ref (ad 0), .int v192, .int v195, .ref (ad 88)]) (rest := []) ⟨hx, hb, hml, hown, hts⟩ (wm_K_jump l D ad cI cZ cJ cG htr _ v192 v195 σ _ hq) wt_588 wt_587 wt_0 wt_586 wh_K_jump rfl rfl ⟨Nat.le_of_ble_eq_true rfl, Nat.le_of_ble_eq_true rfl⟩ (wx_preS hK hP hD hS hA hC) rfl rfl hl.1 rfl (lv_room (Nat.le_of_ble_eq_true rfl)) wd_K_law_580 ⟨by show _ ≤ 661080; omega, by show _ ≤ 7112863; omega⟩) hD hS hA (fun H locs hP hD hS => ?_)
    refine W.widen (k := 90 + 2 * t + 1) (n := 700 + 12 * t + 6) (by omega) (by omega) ?_
    refine lv_istore (lv' := [(5, .int r197), (0, .ref b), (1, .ref (ad 0)), (2, .ref (ad 71)), (3, .ref (ad 88)), (4, .int x4)]) hx hb wd_K_law_583 hl (by decide) rfl (fun ls hl => ?_)
    refine lv_aload_n hx hb wd_K_law_585 rfl (lv_at hl 3 rfl) ?_
    refine lv_aload_n hx hb wd_K_law_586 rfl (lv_at hl 1 rfl) ?_
    refine lv_iload hx hb wd_K_law_587 (lv_at hl 5 rfl) ?_
    refine lv_iconst (v := 1) hx hb wd_K_law_589 (by decide) ?_
    refine lv_iadd hx hb wd_K_law_590 ?_
    refine lv_topi (fun v198 ev198 => ?_)
    have hf := wc_st_e ev198 hf
    obtain ⟨h199, hf⟩ := wc_gd_e hf
    refine va_sld hx hb hX hbl hbA hS (wc_in_e h199) wd_K_law_591 ?_
    refine lv_topi (fun v200 ev200 => ?_)
    have hf := wc_st_e ev200 hf
    refine lv_aload_n hx hb wd_K_law_592 rfl (lv_at hl 1 rfl) ?_
    refine lv_iload hx hb wd_K_law_593 (lv_at hl 5 rfl) ?_
    refine lv_iconst (v := 2) hx hb wd_K_law_595 (by decide) ?_
    refine lv_iadd hx hb wd_K_law_596 ?_
    refine lv_topi (fun v201 ev201 => ?_)
    have hf := wc_st_e ev201 hf
    obtain ⟨h202, hf⟩ := wc_gd_e hf
    refine va_sld hx hb hX hbl hbA hS (wc_in_e h202) wd_K_law_597 ?_
    refine lv_topi (fun v203 ev203 => ?_)
    have hf := wc_st_e ev203 hf
    obtain ⟨r205, σ204, hq, hf⟩ := wc_b2_e hf
    refine wx_calli (va_runV (As := [.int v200, .int v203]) (rest := []) ⟨hx, hb, hml, hown, hts⟩ (wm_M_jump l D ad cI cZ cJ cG _ v200 v203 σ196 _ hq) (wx_cwV 2 hts wt_809 wt_807 wt_808 wt_7 wt_806 wh_M_jump rfl rfl ⟨Nat.le_of_ble_eq_true rfl, Nat.le_of_ble_eq_true rfl⟩) (wx_preV hK hP hD hS hA hC (by decide) rfl rfl) rfl rfl hl.1 rfl (lv_room (Nat.le_of_ble_eq_true rfl)) wd_K_law_598 ⟨by show _ ≤ 661080; omega, by show _ ≤ 7112863; omega⟩) hD hS hA (fun H locs hP hD hS => ?_)
    refine lv_istore (lv' := [(6, .int r205), (5, .int r197), (0, .ref b), (1, .ref (ad 0)), (2, .ref (ad 71)), (3, .ref (ad 88)), (4, .int x4)]) hx hb wd_K_law_601 hl (by decide) rfl (fun ls hl => ?_)
    refine lv_goto (tgt := 704) hx hb wd_K_law_603 (by decide) ?_
    refine W.widen (k := 90 + 2 * t + 2) (n := 700 + 12 * t + 12) (by omega) (by omega) ?_
    exact J704 k23 hk23 t x4 σ204 hf htt _ _ _ hP hD hS (lv_sub hl [2, 3, 4, 5, 6] rfl)
  have J606 : ∀ (k23 : Nat → Int32 → wc_S → Option (Int32 × wc_S)) (hk23 : (∀ (t : Nat) (x4 : Int32) (σ : wc_S), k23 t x4 σ = some res → wx_Arr p l e room_1 s m #[Value.ref b] below meth c D ad cI cZ cJ cG (fun q : Nat => s.heap.size ≤ q) (lw_Z below #[Value.ref b] s) 7 (90 + 2 * t + 0) (700 + 12 * t + 0) 23 [(0, .ref b), (1, .ref (ad 0)), (2, .ref (ad 71)), (3, .ref (ad 88)), (4, .int x4)] [] σ)) (t : Nat) (x4 : Int32) (σ : wc_S), wf_law_606 L xs k23 t x4 σ = some res → t < 600 → wx_Arr p l e room_1 s m #[Value.ref b] below meth c D ad cI cZ cJ cG (fun q : Nat => s.heap.size ≤ q) (lw_Z below #[Value.ref b] s) 7 (90 + 2 * t + 0) (700 + 12 * t + 0) 606 [(0, .ref b), (1, .ref (ad 0)), (2, .ref (ad 71)), (3, .ref (ad 88)), (4, .int x4)] [] σ := by
    intro k23 hk23 t x4 σ hf htt H locs ls hP hD hS hl
    unfold wf_law_606 at hf
    refine lv_aload_n hx hb wd_K_law_606 rfl (lv_at hl 1 rfl) ?_
    obtain ⟨r207, σ206, hq, hf⟩ := wc_b2_e hf
    refine wx_calli (va_runV (As := []) (rest := []) ⟨hx, hb, hml, hown, hts⟩ (wm_W_bound l D ad cI cZ cJ cG _ σ _ hq) (wx_cwV 0 hts wt_244 wt_242 wt_243 wt_1 wt_241 wh_W_bound rfl rfl ⟨Nat.le_of_ble_eq_true rfl, Nat.le_of_ble_eq_true rfl⟩) (wx_preV hK hP hD hS hA hC (by decide) rfl rfl) rfl rfl hl.1 rfl (lv_room (Nat.le_of_ble_eq_true rfl)) wd_K_law_607 ⟨by show _ ≤ 661080; omega, by show _ ≤ 7112863; omega⟩) hD hS hA (fun H locs hP hD hS => ?_)
    refine lv_pop hx hb wd_K_law_610 rfl ?_
    refine lv_aload_n hx hb wd_K_law_611 rfl (lv_at hl 2 rfl) ?_
    obtain ⟨r209, σ208, hq, hf⟩ := wc_b2_e hf
    refine wx_calli (va_runV (As := []) (rest := []) ⟨hx, hb, hml, hown, hts⟩ (wm_M_bound l D ad cI cZ cJ cG _ σ206 _ hq) (wx_cwV 0 hts wt_813 wt_811 wt_812 wt_7 wt_810 wh_M_bound rfl rfl ⟨Nat.le_of_ble_eq_true rfl, Nat.le_of_ble_eq_true rfl⟩) (wx_preV hK hP hD hS hA hC (by decide) rfl rfl) rfl rfl hl.1 rfl (lv_room (Nat.le_of_ble_eq_true rfl)) wd_K_law_612 ⟨by show _ ≤ 661080; omega, by show _ ≤ 7112863; omega⟩) hD hS hA (fun H locs hP hD hS => ?_)
    refine lv_pop hx hb wd_K_law_615 rfl ?_
    refine lv_goto (tgt := 704) hx hb wd_K_law_616 (by decide) ?_
    refine W.widen (k := 90 + 2 * t + 2) (n := 700 + 12 * t + 12) (by omega) (by omega) ?_
    exact J704 k23 hk23 t x4 σ208 hf htt _ _ _ hP hD hS (lv_sub hl [0, 1, 2, 3, 4] rfl)
  have J619 : ∀ (k23 : Nat → Int32 → wc_S → Option (Int32 × wc_S)) (hk23 : (∀ (t : Nat) (x4 : Int32) (σ : wc_S), k23 t x4 σ = some res → wx_Arr p l e room_1 s m #[Value.ref b] below meth c D ad cI cZ cJ cG (fun q : Nat => s.heap.size ≤ q) (lw_Z below #[Value.ref b] s) 7 (90 + 2 * t + 0) (700 + 12 * t + 0) 23 [(0, .ref b), (1, .ref (ad 0)), (2, .ref (ad 71)), (3, .ref (ad 88)), (4, .int x4)] [] σ)) (t : Nat) (x4 : Int32) (σ : wc_S), wf_law_619 L xs k23 t x4 σ = some res → t < 600 → wx_Arr p l e room_1 s m #[Value.ref b] below meth c D ad cI cZ cJ cG (fun q : Nat => s.heap.size ≤ q) (lw_Z below #[Value.ref b] s) 7 (90 + 2 * t + 0) (700 + 12 * t + 0) 619 [(0, .ref b), (1, .ref (ad 0)), (2, .ref (ad 71)), (3, .ref (ad 88)), (4, .int x4)] [] σ := by
    intro k23 hk23 t x4 σ hf htt H locs ls hP hD hS hl
    unfold wf_law_619 at hf
    refine lv_aload_n hx hb wd_K_law_619 rfl (lv_at hl 1 rfl) ?_
    refine lv_aload_n hx hb wd_K_law_620 rfl (lv_at hl 0 rfl) ?_
    refine lv_iload hx hb wd_K_law_621 (lv_at hl 4 rfl) ?_
    refine lv_iconst (v := 1) hx hb wd_K_law_623 (by decide) ?_
    refine lv_iadd hx hb wd_K_law_624 ?_
    refine lv_topi (fun v210 ev210 => ?_)
    have hf := wc_st_e ev210 hf
    obtain ⟨h211, hf⟩ := wc_gd_e hf
    refine va_sld hx hb hX hbl hbA hS (wc_in_e h211) wd_K_law_625 ?_
    refine lv_topi (fun v212 ev212 => ?_)
    have hf := wc_st_e ev212 hf
    refine lv_i2l hx hb wd_K_law_626 rfl ?_
    refine lv_topl (fun v213 ev213 => ?_)
    have hf := wc_st_e ev213 hf
    refine lv_bipush (v := 32) hx hb wd_K_law_627 (by decide) ?_
    refine lv_lshl hx hb wd_K_law_629 rfl ?_
    refine lv_topl (fun v214 ev214 => ?_)
    have hf := wc_st_e ev214 hf
    refine lv_aload_n hx hb wd_K_law_630 rfl (lv_at hl 0 rfl) ?_
    refine lv_iload hx hb wd_K_law_631 (lv_at hl 4 rfl) ?_
    refine lv_iconst (v := 2) hx hb wd_K_law_633 (by decide) ?_
    refine lv_iadd hx hb wd_K_law_634 ?_
    refine lv_topi (fun v215 ev215 => ?_)
    have hf := wc_st_e ev215 hf
    obtain ⟨h216, hf⟩ := wc_gd_e hf
    refine va_sld hx hb hX hbl hbA hS (wc_in_e h216) wd_K_law_635 ?_
    refine lv_topi (fun v217 ev217 => ?_)
    have hf := wc_st_e ev217 hf
    refine lv_i2l hx hb wd_K_law_636 rfl ?_
    refine lv_topl (fun v218 ev218 => ?_)
    have hf := wc_st_e ev218 hf
    refine lv_ldc2 (v := 4294967295) hx hb hown (wx_hw hts wt_835) wd_K_law_637 ?_
    refine lv_land hx hb wd_K_law_640 ?_
    refine lv_topl (fun v219 ev219 => ?_)
    have hf := wc_st_e ev219 hf
    refine lv_lor hx hb wd_K_law_641 ?_
    refine lv_topl (fun v220 ev220 => ?_)
    have hf := wc_st_e ev220 hf
    obtain ⟨r222, σ221, hq, hf⟩ := wc_b2_e hf
    refine wx_callik (wz_runSW (As := [.ref (ad 0), .long v220]) (rest := []) ⟨hx, hb, hml, hown, hts⟩ (wm_K_tell l D ad cI cZ cJ cG htr _ v220 σ _ hq) wt_596 wt_595 wt_0 wt_594 wh_K_tell rfl rfl ⟨Nat.le_of_ble_eq_true rfl, Nat.le_of_ble_eq_true rfl⟩ (wx_preS hK hP hD hS hA hC) rfl rfl hl.1 rfl (lv_room (Nat.le_of_ble_eq_true rfl)) wd_K_law_642 ⟨by show _ ≤ 661080; omega, by show _ ≤ 7112863; omega⟩) hD hS hA (fun H locs hP hD hS => ?_)
    refine W.widen (k := 90 + 2 * t + 1) (n := 700 + 12 * t + 6) (by omega) (by omega) ?_
    refine lv_istore (lv' := [(5, .int r222), (0, .ref b), (1, .ref (ad 0)), (2, .ref (ad 71)), (3, .ref (ad 88)), (4, .int x4)]) hx hb wd_K_law_645 hl (by decide) rfl (fun ls hl => ?_)
    refine lv_aload_n hx hb wd_K_law_647 rfl (lv_at hl 3 rfl) ?_
    refine lv_aload_n hx hb wd_K_law_648 rfl (lv_at hl 1 rfl) ?_
    refine lv_iload hx hb wd_K_law_649 (lv_at hl 5 rfl) ?_
    refine lv_iconst (v := 1) hx hb wd_K_law_651 (by decide) ?_
    refine lv_iadd hx hb wd_K_law_652 ?_
    refine lv_topi (fun v223 ev223 => ?_)
    have hf := wc_st_e ev223 hf
    obtain ⟨h224, hf⟩ := wc_gd_e hf
    refine va_sld hx hb hX hbl hbA hS (wc_in_e h224) wd_K_law_653 ?_
    refine lv_topi (fun v225 ev225 => ?_)
    have hf := wc_st_e ev225 hf
    refine lv_i2l hx hb wd_K_law_654 rfl ?_
    refine lv_topl (fun v226 ev226 => ?_)
    have hf := wc_st_e ev226 hf
    refine lv_bipush (v := 32) hx hb wd_K_law_655 (by decide) ?_
    refine lv_lshl hx hb wd_K_law_657 rfl ?_
    refine lv_topl (fun v227 ev227 => ?_)
    have hf := wc_st_e ev227 hf
    refine lv_aload_n hx hb wd_K_law_658 rfl (lv_at hl 1 rfl) ?_
    refine lv_iload hx hb wd_K_law_659 (lv_at hl 5 rfl) ?_
    refine lv_iconst (v := 2) hx hb wd_K_law_661 (by decide) ?_
    refine lv_iadd hx hb wd_K_law_662 ?_
    refine lv_topi (fun v228 ev228 => ?_)
    have hf := wc_st_e ev228 hf
    obtain ⟨h229, hf⟩ := wc_gd_e hf
    refine va_sld hx hb hX hbl hbA hS (wc_in_e h229) wd_K_law_663 ?_
    refine lv_topi (fun v230 ev230 => ?_)
    have hf := wc_st_e ev230 hf
    refine lv_i2l hx hb wd_K_law_664 rfl ?_
    refine lv_topl (fun v231 ev231 => ?_)
    have hf := wc_st_e ev231 hf
    refine lv_ldc2 (v := 4294967295) hx hb hown (wx_hw hts wt_835) wd_K_law_665 ?_
    refine lv_land hx hb wd_K_law_668 ?_
    refine lv_topl (fun v232 ev232 => ?_)
    have hf := wc_st_e ev232 hf
    refine lv_lor hx hb wd_K_law_669 ?_
    refine lv_topl (fun v233 ev233 => ?_)
    have hf := wc_st_e ev233 hf
    obtain ⟨σ234, hq, hf⟩ := wc_b1_e hf
    refine wx_callv (va_runV (As := [.long v233]) (rest := []) ⟨hx, hb, hml, hown, hts⟩ (wm_M_tell l D ad cI cZ cJ cG _ v233 σ221 _ hq) (wx_cwV 1 hts wt_817 wt_815 wt_816 wt_7 wt_814 wh_M_tell rfl rfl ⟨Nat.le_of_ble_eq_true rfl, Nat.le_of_ble_eq_true rfl⟩) (wx_preV hK hP hD hS hA hC (by decide) rfl rfl) rfl rfl hl.1 rfl (lv_room (Nat.le_of_ble_eq_true rfl)) wd_K_law_670 ⟨by show _ ≤ 661080; omega, by show _ ≤ 7112863; omega⟩) hD hS hA (fun H locs hP hD hS => ?_)
    refine lv_goto (tgt := 704) hx hb wd_K_law_673 (by decide) ?_
    refine W.widen (k := 90 + 2 * t + 2) (n := 700 + 12 * t + 12) (by omega) (by omega) ?_
    exact J704 k23 hk23 t x4 σ234 hf htt _ _ _ hP hD hS (lv_sub hl [1, 2, 3, 4, 5] rfl)
  have J676 : ∀ (k23 : Nat → Int32 → wc_S → Option (Int32 × wc_S)) (hk23 : (∀ (t : Nat) (x4 : Int32) (σ : wc_S), k23 t x4 σ = some res → wx_Arr p l e room_1 s m #[Value.ref b] below meth c D ad cI cZ cJ cG (fun q : Nat => s.heap.size ≤ q) (lw_Z below #[Value.ref b] s) 7 (90 + 2 * t + 0) (700 + 12 * t + 0) 23 [(0, .ref b), (1, .ref (ad 0)), (2, .ref (ad 71)), (3, .ref (ad 88)), (4, .int x4)] [] σ)) (t : Nat) (x4 : Int32) (σ : wc_S), wf_law_676 L xs k23 t x4 σ = some res → t < 600 → wx_Arr p l e room_1 s m #[Value.ref b] below meth c D ad cI cZ cJ cG (fun q : Nat => s.heap.size ≤ q) (lw_Z below #[Value.ref b] s) 7 (90 + 2 * t + 0) (700 + 12 * t + 0) 676 [(0, .ref b), (1, .ref (ad 0)), (2, .ref (ad 71)), (3, .ref (ad 88)), (4, .int x4)] [] σ := by
    intro k23 hk23 t x4 σ hf htt H locs ls hP hD hS hl
    unfold wf_law_676 at hf
    refine lv_aload_n hx hb wd_K_law_676 rfl (lv_at hl 1 rfl) ?_
    refine lv_aload_n hx hb wd_K_law_677 rfl (lv_at hl 0 rfl) ?_
    refine lv_iload hx hb wd_K_law_678 (lv_at hl 4 rfl) ?_
    refine lv_iconst (v := 1) hx hb wd_K_law_680 (by decide) ?_
    refine lv_iadd hx hb wd_K_law_681 ?_
    refine lv_topi (fun v235 ev235 => ?_)
    have hf := wc_st_e ev235 hf
    obtain ⟨h236, hf⟩ := wc_gd_e hf
    refine va_sld hx hb hX hbl hbA hS (wc_in_e h236) wd_K_law_682 ?_
    refine lv_topi (fun v237 ev237 => ?_)
    have hf := wc_st_e ev237 hf
    refine lv_aload_n hx hb wd_K_law_683 rfl (lv_at hl 3 rfl) ?_
    obtain ⟨r239, σ238, hq, hf⟩ := wc_b2_e hf
    refine wx_callik (wz_runSW (As := [.ref (ad 0), .int v237, .ref (ad 88)]) (rest := []) ⟨hx, hb, hml, hown, hts⟩ (wm_K_improve l D ad cI cZ cJ cG htr _ v237 σ _ hq) wt_609 wt_608 wt_0 wt_607 wh_K_improve rfl rfl ⟨Nat.le_of_ble_eq_true rfl, Nat.le_of_ble_eq_true rfl⟩ (wx_preS hK hP hD hS hA hC) rfl rfl hl.1 rfl (lv_room (Nat.le_of_ble_eq_true rfl)) wd_K_law_684 ⟨by show _ ≤ 661080; omega, by show _ ≤ 7112863; omega⟩) hD hS hA (fun H locs hP hD hS => ?_)
    refine W.widen (k := 90 + 2 * t + 2) (n := 700 + 12 * t + 12) (by omega) (by omega) ?_
    refine lv_istore (lv' := [(5, .int r239), (0, .ref b), (1, .ref (ad 0)), (2, .ref (ad 71)), (3, .ref (ad 88)), (4, .int x4)]) hx hb wd_K_law_687 hl (by decide) rfl (fun ls hl => ?_)
    refine lv_aload_n hx hb wd_K_law_689 rfl (lv_at hl 3 rfl) ?_
    refine lv_aload_n hx hb wd_K_law_690 rfl (lv_at hl 1 rfl) ?_
    refine lv_iload hx hb wd_K_law_691 (lv_at hl 5 rfl) ?_
    refine lv_iconst (v := 1) hx hb wd_K_law_693 (by decide) ?_
    refine lv_iadd hx hb wd_K_law_694 ?_
    refine lv_topi (fun v240 ev240 => ?_)
    have hf := wc_st_e ev240 hf
    obtain ⟨h241, hf⟩ := wc_gd_e hf
    refine va_sld hx hb hX hbl hbA hS (wc_in_e h241) wd_K_law_695 ?_
    refine lv_topi (fun v242 ev242 => ?_)
    have hf := wc_st_e ev242 hf
    obtain ⟨r244, σ243, hq, hf⟩ := wc_b2_e hf
    refine wx_calli (va_runV (As := [.int v242]) (rest := []) ⟨hx, hb, hml, hown, hts⟩ (wm_M_improve l D ad cI cZ cJ cG _ v242 σ238 _ hq) (wx_cwV 1 hts wt_826 wt_824 wt_825 wt_7 wt_823 wh_M_improve rfl rfl ⟨Nat.le_of_ble_eq_true rfl, Nat.le_of_ble_eq_true rfl⟩) (wx_preV hK hP hD hS hA hC (by decide) rfl rfl) rfl rfl hl.1 rfl (lv_room (Nat.le_of_ble_eq_true rfl)) wd_K_law_696 ⟨by show _ ≤ 661080; omega, by show _ ≤ 7112863; omega⟩) hD hS hA (fun H locs hP hD hS => ?_)
    refine lv_istore (lv' := [(6, .int r244), (5, .int r239), (0, .ref b), (1, .ref (ad 0)), (2, .ref (ad 71)), (3, .ref (ad 88)), (4, .int x4)]) hx hb wd_K_law_699 hl (by decide) rfl (fun ls hl => ?_)
    refine lv_goto (tgt := 704) hx hb wd_K_law_701 (by decide) ?_
    refine W.widen (k := 90 + 2 * t + 2) (n := 700 + 12 * t + 12) (by omega) (by omega) ?_
    exact J704 k23 hk23 t x4 σ243 hf htt _ _ _ hP hD hS (lv_sub hl [2, 3, 4, 5, 6] rfl)
  have J23 : ∀ (n : Nat) (t : Nat) (x4 : Int32) (σ : wc_S), wf_law_23 L xs n t x4 σ = some res → wx_Arr p l e room_1 s m #[Value.ref b] below meth c D ad cI cZ cJ cG (fun q : Nat => s.heap.size ≤ q) (lw_Z below #[Value.ref b] s) 7 (90 + 2 * t + 0) (700 + 12 * t + 0) 23 [(0, .ref b), (1, .ref (ad 0)), (2, .ref (ad 71)), (3, .ref (ad 88)), (4, .int x4)] [] σ := by
    intro  n
    induction n with
    | zero => intro t x4 σ hf; exact absurd hf (by intro h9; cases h9)
    | succ n hk23 =>
      intro t x4 σ hf H locs ls hP hD hS hl
      have hf : wf_law_23_b L xs (wf_law_23 L xs n) t x4 σ = some res := hf
      unfold wf_law_23_b at hf
      obtain ⟨htt, hf⟩ := wc_gd_e hf
      have htt : t < 600 := of_decide_eq_true htt
      refine lv_iload hx hb wd_K_law_23 (lv_at hl 4 rfl) ?_
      refine lv_aload_n hx hb wd_K_law_25 rfl (lv_at hl 0 rfl) ?_
      refine va_slen hx hb hX hbl hbA hS wd_K_law_26 ?_
      refine lv_topi (fun v1 ev1 => ?_)
      have hf := wc_st_e ev1 hf
      refine lv_iconst (v := 5) hx hb wd_K_law_27 (by decide) ?_
      refine lv_isub hx hb wd_K_law_28 ?_
      refine lv_topi (fun v2 ev2 => ?_)
      have hf := wc_st_e ev2 hf
      refine lv_icmp_gt (tgt := 710) hx hb wd_K_law_29 (by decide) (fun c3 => ?_) (fun c3 => ?_)
      · have hf := wc_t c3 hf
        refine lv_iconst (v := 1) hx hb wd_K_law_710 (by decide) ?_
        refine va_forget (fun q hq => hS.2.2 q hq) ?_
        refine W.widen (k := 661080) (n := 7112863) (by omega) (by omega) ?_
        exact lw_ret hx hb hr hlocks wd_K_law_711
      · have hf := wc_f c3 hf
        refine lv_aload_n hx hb wd_K_law_32 rfl (lv_at hl 0 rfl) ?_
        refine lv_iload hx hb wd_K_law_33 (lv_at hl 4 rfl) ?_
        obtain ⟨h4, hf⟩ := wc_gd_e hf
        refine va_sld hx hb hX hbl hbA hS (wc_in_e h4) wd_K_law_35 ?_
        refine lv_topi (fun v5 ev5 => ?_)
        have hf := wc_st_e ev5 hf
        refine lv_bipush (v := 15) hx hb wd_K_law_36 (by decide) ?_
        refine lv_iand hx hb wd_K_law_38 ?_
        refine lv_topi (fun v6 ev6 => ?_)
        have hf := wc_st_e ev6 hf
        by_cases sw0 : v6 = 0
        · have hf := wc_t sw0 hf
          have hv : v6.toInt = 0 := by rw [sw0]; rfl
          refine lv_tableIn (tgt := 112) hx hb wd_K_law_39 (by rw [hv]; decide) (by rw [hv]; decide) (by rw [hv]; rfl) (by decide) ?_
          exact J112 (wf_law_23 L xs n) hk23 t x4 σ hf htt _ _ _ hP hD hS (lv_sub hl [0, 1, 2, 3, 4] rfl)
        · have hf := wc_f sw0 hf
          by_cases sw1 : v6 = 1
          · have hf := wc_t sw1 hf
            have hv : v6.toInt = 1 := by rw [sw1]; rfl
            refine lv_tableIn (tgt := 176) hx hb wd_K_law_39 (by rw [hv]; decide) (by rw [hv]; decide) (by rw [hv]; rfl) (by decide) ?_
            exact J176 (wf_law_23 L xs n) hk23 t x4 σ hf htt _ _ _ hP hD hS (lv_sub hl [0, 1, 2, 3, 4] rfl)
          · have hf := wc_f sw1 hf
            by_cases sw2 : v6 = 2
            · have hf := wc_t sw2 hf
              have hv : v6.toInt = 2 := by rw [sw2]; rfl
              refine lv_tableIn (tgt := 240) hx hb wd_K_law_39 (by rw [hv]; decide) (by rw [hv]; decide) (by rw [hv]; rfl) (by decide) ?_
              exact J240 (wf_law_23 L xs n) hk23 t x4 σ hf htt _ _ _ hP hD hS (lv_sub hl [0, 1, 2, 3, 4] rfl)
            · have hf := wc_f sw2 hf
              by_cases sw3 : v6 = 3
              · have hf := wc_t sw3 hf
                have hv : v6.toInt = 3 := by rw [sw3]; rfl
                refine lv_tableIn (tgt := 292) hx hb wd_K_law_39 (by rw [hv]; decide) (by rw [hv]; decide) (by rw [hv]; rfl) (by decide) ?_
                exact J292 (wf_law_23 L xs n) hk23 t x4 σ hf htt _ _ _ hP hD hS (lv_sub hl [0, 1, 2, 3, 4] rfl)
              · have hf := wc_f sw3 hf
                by_cases sw4 : v6 = 4
                · have hf := wc_t sw4 hf
                  have hv : v6.toInt = 4 := by rw [sw4]; rfl
                  refine lv_tableIn (tgt := 329) hx hb wd_K_law_39 (by rw [hv]; decide) (by rw [hv]; decide) (by rw [hv]; rfl) (by decide) ?_
                  exact J329 (wf_law_23 L xs n) hk23 t x4 σ hf htt _ _ _ hP hD hS (lv_sub hl [0, 1, 2, 3, 4] rfl)
                · have hf := wc_f sw4 hf
                  by_cases sw5 : v6 = 5
                  · have hf := wc_t sw5 hf
                    have hv : v6.toInt = 5 := by rw [sw5]; rfl
                    refine lv_tableIn (tgt := 377) hx hb wd_K_law_39 (by rw [hv]; decide) (by rw [hv]; decide) (by rw [hv]; rfl) (by decide) ?_
                    exact J377 (wf_law_23 L xs n) hk23 t x4 σ hf htt _ _ _ hP hD hS (lv_sub hl [0, 1, 2, 3, 4] rfl)
                  · have hf := wc_f sw5 hf
                    by_cases sw6 : v6 = 6
                    · have hf := wc_t sw6 hf
                      have hv : v6.toInt = 6 := by rw [sw6]; rfl
                      refine lv_tableIn (tgt := 438) hx hb wd_K_law_39 (by rw [hv]; decide) (by rw [hv]; decide) (by rw [hv]; rfl) (by decide) ?_
                      exact J438 (wf_law_23 L xs n) hk23 t x4 σ hf htt _ _ _ hP hD hS (lv_sub hl [0, 1, 2, 3, 4] rfl)
                    · have hf := wc_f sw6 hf
                      by_cases sw7 : v6 = 7
                      · have hf := wc_t sw7 hf
                        have hv : v6.toInt = 7 := by rw [sw7]; rfl
                        refine lv_tableIn (tgt := 466) hx hb wd_K_law_39 (by rw [hv]; decide) (by rw [hv]; decide) (by rw [hv]; rfl) (by decide) ?_
                        exact J466 (wf_law_23 L xs n) hk23 t x4 σ hf htt _ _ _ hP hD hS (lv_sub hl [0, 1, 2, 3, 4] rfl)
                      · have hf := wc_f sw7 hf
                        by_cases sw8 : v6 = 8
                        · have hf := wc_t sw8 hf
                          have hv : v6.toInt = 8 := by rw [sw8]; rfl
                          refine lv_tableIn (tgt := 482) hx hb wd_K_law_39 (by rw [hv]; decide) (by rw [hv]; decide) (by rw [hv]; rfl) (by decide) ?_
                          exact J482 (wf_law_23 L xs n) hk23 t x4 σ hf htt _ _ _ hP hD hS (lv_sub hl [0, 1, 2, 3, 4] rfl)
                        · have hf := wc_f sw8 hf
                          by_cases sw9 : v6 = 9
                          · have hf := wc_t sw9 hf
                            have hv : v6.toInt = 9 := by rw [sw9]; rfl
                            refine lv_tableIn (tgt := 510) hx hb wd_K_law_39 (by rw [hv]; decide) (by rw [hv]; decide) (by rw [hv]; rfl) (by decide) ?_
                            exact J510 (wf_law_23 L xs n) hk23 t x4 σ hf htt _ _ _ hP hD hS (lv_sub hl [0, 1, 2, 3, 4] rfl)
                          · have hf := wc_f sw9 hf
                            by_cases sw10 : v6 = 10
                            · have hf := wc_t sw10 hf
                              have hv : v6.toInt = 10 := by rw [sw10]; rfl
                              refine lv_tableIn (tgt := 538) hx hb wd_K_law_39 (by rw [hv]; decide) (by rw [hv]; decide) (by rw [hv]; rfl) (by decide) ?_
                              exact J538 (wf_law_23 L xs n) hk23 t x4 σ hf htt _ _ _ hP hD hS (lv_sub hl [0, 1, 2, 3, 4] rfl)
                            · have hf := wc_f sw10 hf
                              by_cases sw11 : v6 = 11
                              · have hf := wc_t sw11 hf
                                have hv : v6.toInt = 11 := by rw [sw11]; rfl
                                refine lv_tableIn (tgt := 566) hx hb wd_K_law_39 (by rw [hv]; decide) (by rw [hv]; decide) (by rw [hv]; rfl) (by decide) ?_
                                exact J566 (wf_law_23 L xs n) hk23 t x4 σ hf htt _ _ _ hP hD hS (lv_sub hl [0, 1, 2, 3, 4] rfl)
                              · have hf := wc_f sw11 hf
                                by_cases sw12 : v6 = 12
                                · have hf := wc_t sw12 hf
                                  have hv : v6.toInt = 12 := by rw [sw12]; rfl
                                  refine lv_tableIn (tgt := 606) hx hb wd_K_law_39 (by rw [hv]; decide) (by rw [hv]; decide) (by rw [hv]; rfl) (by decide) ?_
                                  exact J606 (wf_law_23 L xs n) hk23 t x4 σ hf htt _ _ _ hP hD hS (lv_sub hl [0, 1, 2, 3, 4] rfl)
                                · have hf := wc_f sw12 hf
                                  by_cases sw13 : v6 = 13
                                  · have hf := wc_t sw13 hf
                                    have hv : v6.toInt = 13 := by rw [sw13]; rfl
                                    refine lv_tableIn (tgt := 619) hx hb wd_K_law_39 (by rw [hv]; decide) (by rw [hv]; decide) (by rw [hv]; rfl) (by decide) ?_
                                    exact J619 (wf_law_23 L xs n) hk23 t x4 σ hf htt _ _ _ hP hD hS (lv_sub hl [0, 1, 2, 3, 4] rfl)
                                  · have hf := wc_f sw13 hf
                                    by_cases sw14 : v6 = 14
                                    · have hf := wc_t sw14 hf
                                      have hv : v6.toInt = 14 := by rw [sw14]; rfl
                                      refine lv_tableIn (tgt := 676) hx hb wd_K_law_39 (by rw [hv]; decide) (by rw [hv]; decide) (by rw [hv]; rfl) (by decide) ?_
                                      exact J676 (wf_law_23 L xs n) hk23 t x4 σ hf htt _ _ _ hP hD hS (lv_sub hl [0, 1, 2, 3, 4] rfl)
                                    · have hf := wc_f sw14 hf
                                      have w0 : v6.toInt ≠ 0 := fun h => sw0 (Int32.toInt_inj.mp (h.trans rfl))
                                      have w1 : v6.toInt ≠ 1 := fun h => sw1 (Int32.toInt_inj.mp (h.trans rfl))
                                      have w2 : v6.toInt ≠ 2 := fun h => sw2 (Int32.toInt_inj.mp (h.trans rfl))
                                      have w3 : v6.toInt ≠ 3 := fun h => sw3 (Int32.toInt_inj.mp (h.trans rfl))
                                      have w4 : v6.toInt ≠ 4 := fun h => sw4 (Int32.toInt_inj.mp (h.trans rfl))
                                      have w5 : v6.toInt ≠ 5 := fun h => sw5 (Int32.toInt_inj.mp (h.trans rfl))
                                      have w6 : v6.toInt ≠ 6 := fun h => sw6 (Int32.toInt_inj.mp (h.trans rfl))
                                      have w7 : v6.toInt ≠ 7 := fun h => sw7 (Int32.toInt_inj.mp (h.trans rfl))
                                      have w8 : v6.toInt ≠ 8 := fun h => sw8 (Int32.toInt_inj.mp (h.trans rfl))
                                      have w9 : v6.toInt ≠ 9 := fun h => sw9 (Int32.toInt_inj.mp (h.trans rfl))
                                      have w10 : v6.toInt ≠ 10 := fun h => sw10 (Int32.toInt_inj.mp (h.trans rfl))
                                      have w11 : v6.toInt ≠ 11 := fun h => sw11 (Int32.toInt_inj.mp (h.trans rfl))
                                      have w12 : v6.toInt ≠ 12 := fun h => sw12 (Int32.toInt_inj.mp (h.trans rfl))
                                      have w13 : v6.toInt ≠ 13 := fun h => sw13 (Int32.toInt_inj.mp (h.trans rfl))
                                      have w14 : v6.toInt ≠ 14 := fun h => sw14 (Int32.toInt_inj.mp (h.trans rfl))
                                      refine lv_tableOut (tgt := 704) hx hb wd_K_law_39 (by omega) (by decide) ?_
                                      refine W.widen (k := 90 + 2 * t + 2) (n := 700 + 12 * t + 12) (by omega) (by omega) ?_
                                      exact J704 (wf_law_23 L xs n) hk23 t x4 σ hf htt _ _ _ hP hD hS (lv_sub hl [0, 1, 2, 3, 4] rfl)
  exact J23
/-! words that rows use -/
theorem wt_17 : (.classLink "WidthCampaignsLaw" 8 "WidthCampaigns" : Cond) ∈ wx_all := wx_mem 61 (by decide +kernel) (by decide +kernel)
theorem wt_18 : (.instantiable "WidthCampaigns" 7 : Cond) ∈ wx_all := wx_mem 62 (by decide +kernel) (by decide +kernel)
theorem wt_19 : (.methodLink "WidthCampaignsLaw" 68 ⟨"WidthCampaigns", "<init>", "()V"⟩ : Cond) ∈ wx_all := wx_mem 63 (by decide +kernel) (by decide +kernel)
theorem wt_20 : (.instanceMethod ⟨"WidthCampaigns", "<init>", "()V"⟩ : Cond) ∈ wx_all := wx_mem 64 (by decide +kernel) (by decide +kernel)
theorem wt_21 : (.code ⟨"WidthCampaigns", "<init>", "()V"⟩ prog_1_method_1_code 1 (Option.none : Option Jvm.ClassFile.FieldType) : Cond) ∈ wx_all := wx_mem 65 (by decide +kernel) (by decide +kernel)
theorem wt_624 : (.classLink "WidthCampaignsLaw" 69 "WidthCampaignsModel" : Cond) ∈ wx_all := wx_mem 668 (by decide +kernel) (by decide +kernel)
theorem wt_625 : (.instantiable "WidthCampaignsModel" 29 : Cond) ∈ wx_all := wx_mem 669 (by decide +kernel) (by decide +kernel)
theorem wt_626 : (.methodLink "WidthCampaignsLaw" 71 ⟨"WidthCampaignsModel", "<init>", "()V"⟩ : Cond) ∈ wx_all := wx_mem 670 (by decide +kernel) (by decide +kernel)
theorem wt_627 : (.instanceMethod ⟨"WidthCampaignsModel", "<init>", "()V"⟩ : Cond) ∈ wx_all := wx_mem 671 (by decide +kernel) (by decide +kernel)
theorem wt_628 : (.code ⟨"WidthCampaignsModel", "<init>", "()V"⟩ prog_8_method_1_code 1 (Option.none : Option Jvm.ClassFile.FieldType) : Cond) ∈ wx_all := wx_mem 672 (by decide +kernel) (by decide +kernel)
theorem wt_836 : (.arrayClass Jvm.ClassFile.FieldType.long : Cond) ∈ wx_all := wx_mem 880 (by decide +kernel) (by decide +kernel)

theorem wd_K_law_0 : decode code 0 = .ok (.new 8, 3) := by decide +kernel
theorem wd_K_law_3 : decode code 3 = .ok (.dup, 1) := by decide +kernel
theorem wd_K_law_4 : decode code 4 = .ok (.invokespecial 68, 3) := by decide +kernel
theorem wd_K_law_7 : decode code 7 = .ok (.astore_n 1, 1) := by decide +kernel
theorem wd_K_law_8 : decode code 8 = .ok (.new 69, 3) := by decide +kernel
theorem wd_K_law_11 : decode code 11 = .ok (.dup, 1) := by decide +kernel
theorem wd_K_law_12 : decode code 12 = .ok (.invokespecial 71, 3) := by decide +kernel
theorem wd_K_law_15 : decode code 15 = .ok (.astore_n 2, 1) := by decide +kernel
theorem wd_K_law_16 : decode code 16 = .ok (.iconst 1, 1) := by decide +kernel
theorem wd_K_law_17 : decode code 17 = .ok (.newarray .long, 2) := by decide +kernel
theorem wd_K_law_19 : decode code 19 = .ok (.astore_n 3, 1) := by decide +kernel
theorem wd_K_law_20 : decode code 20 = .ok (.iconst 0, 1) := by decide +kernel
theorem wd_K_law_21 : decode code 21 = .ok (.istore 4, 2) := by decide +kernel
/-! what the Statement gives at the law's start -/
def wl_kind : Cond → Bool
  | .fieldLinkNest _ _ _ _ _ _ => true
  | .methodLinkNest _ _ _ _ => true
  | .castable _ _ => true
  | .declares _ => true
  | .laysStatic _ _ _ => true
  | _ => false
theorem wl_lays {s T : State} {C n d : String} {a : Array Value} (hl : (Cond.laysStatic C n d).before a s = true) (hal : s.vm.Alike T.vm) (hq : ∀ q : Nat, q < s.heap.size → T.heap[q]? = s.heap[q]?) (a' : Array Value) : (Cond.laysStatic C n d).before a' T = true := by
  obtain ⟨c, k, i, f, x, cell, h1, h2, h3, h4, h5, h6, h7, h8, h9⟩ := Cond.laysStatic_spec hl
  obtain ⟨k', hi', he⟩ := State.fieldFound?_setVm hal h2
  exact Cond.laysStatic_of (s := T) (by rw [hal.findClass]; exact h1) hi' h3 (by rw [he]; exact h4) (by rw [hq x (Array.getElem?_eq_some_iff.mp h5).1]; exact h5) h6 h7 h8 (by rw [he]; exact h9)
theorem wl_isRef {s T : State} {C n d : String} {a : Array Value} (hl : (Cond.laysStatic C n d).before a s = true) (hini : (Cond.initialized C).before a s = true) (h : (Cond.isRef (.static C n d)).before a s = true) (hal : s.vm.Alike T.vm) (hq : ∀ q : Nat, q < s.heap.size → T.heap[q]? = s.heap[q]?) (a' : Array Value) : (Cond.isRef (.static C n d)).before a' T = true := by
  have hz := (va_Zq.moved hal (va_Zqof (A := fun q => s.heap.size ≤ q) hl hini h (fun x hx => Nat.not_le.mpr hx))).kept (H1 := T.heap) (fun x hx _ => hq x hx)
  have key : ∀ v : Value, v.isRef = true → va_Z C n d v (fun q => s.heap.size ≤ q) T T.heap → (Cond.isRef (.static C n d)).before a' T = true := by
    intro v hv hZ
    obtain ⟨cf, kf, fi, f, x, cell, g1, g2, g3, g4, g5, g6, g7, -⟩ := hZ
    have he : (Term.static C n d).eval a' T none [] T = some v := by simp [Term.eval, State.fieldNamed?, g1, g2, g4, g5, g6, g7]
    simp only [Cond.before, Cond.holds, Cond.value, he]
    cases v <;> simp_all [Value.isRef]
  rcases hz with hz | ⟨t, hz⟩
  · exact key _ rfl hz
  · exact key _ rfl hz
theorem wl_bad {s T : State} {w : Cond} {a : Array Value} (hk : wl_kind w = true) (h : w.before a s = true) (hW : s.WarmedH T.vm) (hq : ∀ q : Nat, q < s.heap.size → T.heap[q]? = s.heap[q]?) (a' : Array Value) : w.before a' T = true := by
  cases w <;> first
    | exact va_Nw.use rfl (va_Nw.warmF hW (va_Nw.of rfl h))
    | exact va_Nw.use rfl (va_Nw.warmM hW (va_Nw.of rfl h))
    | exact va_Nw.use rfl (va_Nw.warmC hW (va_Nw.of rfl h))
    | exact va_Nw.use rfl (va_Nw.warmD hW (va_Nw.of rfl h))
    | exact wl_lays h hW.alike hq a'
    | (exact absurd hk (by intro h9; cases h9))
theorem wl_kinds : ∀ w ∈ wx_bad, (wl_kind w = true ∧ w ∈ lw_tbl) ∨ (w = .isRef (.static "java/lang/Throwable" "UNASSIGNED_STACK" "[Ljava/lang/StackTraceElement;") ∨ w = .isRef (.static "java/lang/Throwable" "SUPPRESSED_SENTINEL" "Ljava/util/List;")) := by decide +kernel
theorem wl_strs : ∀ q ∈ wx_strs, Cond.stringRef "WidthCampaigns" q.1 q.2 ∈ lw_tbl := by decide +kernel
theorem wl_nots : ∀ q ∈ wx_nots, Cond.not (.castable q.1 q.2) ∈ flatC (Jvm.Cond.and given_1 narrow_1) := by decide +kernel
theorem wl_refs : Cond.isRef (.static "java/lang/Throwable" "UNASSIGNED_STACK" "[Ljava/lang/StackTraceElement;") ∈ flatC (Jvm.Cond.and given_1 narrow_1) ∧ Cond.isRef (.static "java/lang/Throwable" "SUPPRESSED_SENTINEL" "Ljava/util/List;") ∈ flatC (Jvm.Cond.and given_1 narrow_1) := by decide +kernel
theorem wl_stat : Cond.laysStatic "java/lang/Throwable" "UNASSIGNED_STACK" "[Ljava/lang/StackTraceElement;" ∈ lw_tbl ∧ Cond.laysStatic "java/lang/Throwable" "SUPPRESSED_SENTINEL" "Ljava/util/List;" ∈ lw_tbl ∧ Cond.initialized "java/lang/Throwable" ∈ lw_tbl ∧ Cond.instantiable "WidthCampaigns" 7 ∈ lw_tbl := by decide +kernel
theorem wl_C {a : Array Value} {s : State} (hts : ∀ w ∈ lw_tbl, w.before a s = true) (hgv : (Jvm.Cond.and given_1 narrow_1).before a s = true) : wx_C (fun q => s.heap.size ≤ q) s s.heap := by
  intro T hW hz hq0
  have hq : ∀ q : Nat, q < s.heap.size → T.heap[q]? = s.heap[q]? := fun q h => hq0 q h (Nat.not_le.mpr h)
  have hfl := flat_of_before _ hgv
  refine ⟨fun w hw a' => ?_, fun q hq1 => ?_, fun q hq1 => va_Nc.moved hW.alike (va_Nc.of (hfl _ (wl_nots q hq1)))⟩
  · rcases wl_kinds w hw with ⟨h1, h2⟩ | rfl | rfl
    · exact wl_bad h1 (hts w h2) hW hq a'
    · exact wl_isRef (hts _ wl_stat.1) (hts _ wl_stat.2.2.1) (hfl _ wl_refs.1) hW.alike hq a'
    · exact wl_isRef (hts _ wl_stat.2.1) (hts _ wl_stat.2.2.1) (hfl _ wl_refs.2) hW.alike hq a'
  · obtain ⟨cur, kC, hfc, -⟩ := Cond.instantiable_spec (hts _ wl_stat.2.2.2)
    have h := hts _ (wl_strs q hq1)
    obtain ⟨k, cf, i, sa, -, -, -, -, -, hev⟩ := Cond.stringRef_spec hfc h
    exact ⟨sa, vk_R.warm hW (vk_R.of h hev)⟩
/-- an array class by its word -/
theorem wl_arr {a : Array Value} {s : State} {ty : FieldType} (h : (Cond.arrayClass ty).before a s = true) : ∃ c : ClassId, ArrOfT s c ty ∧ s.vm.findClass ("[" ++ ty.toString) = some c := by
  obtain ⟨c, k, comp, h1, h2, h3⟩ := Cond.arrayClass_spec h
  exact ⟨c, fun n z => ⟨fun k h => (by cases h), k, h2, comp, h3⟩, h1⟩
theorem wl_grid {a : Array Value} {s : State} (h : (Cond.arrayOver (.array .int)).before a s = true) : ∃ c : ClassId, ArrOfT s c (.array .int) ∧ s.vm.findClass ("[" ++ (FieldType.array .int).toString) = some c := by
  obtain ⟨comp, c, k, -, -, h2, h3, h1⟩ := arrayOverA_spec h
  exact ⟨c, fun n z => ⟨fun k h => (by cases h), k, h2, comp, h3⟩, h1⟩
theorem wl_words : Cond.arrayClass .int ∈ lw_tbl ∧ Cond.arrayClass .boolean ∈ lw_tbl ∧ Cond.arrayClass .long ∈ lw_tbl ∧ Cond.arrayOver (.array .int) ∈ lw_tbl := by decide +kernel
theorem wl_inst : Cond.instantiable "WidthCampaigns" 7 ∈ lw_tbl ∧ Cond.instantiable "WidthCampaigns$Plant" 15 ∈ lw_tbl ∧ Cond.instantiable "WidthCampaigns$JumpTable" 4 ∈ lw_tbl ∧ Cond.instantiable "WidthCampaigns$WidthGroups" 4 ∈ lw_tbl ∧ Cond.instantiable "WidthCampaigns$Line" 10 ∈ lw_tbl ∧ Cond.instantiable "WidthCampaigns$Search" 7 ∈ lw_tbl ∧ Cond.instantiable "WidthCampaignsModel" 29 ∈ lw_tbl := by decide +kernel
theorem wl_K {a : Array Value} {s : State} (hts : ∀ w ∈ lw_tbl, w.before a s = true) : ∃ (D : va_G) (cI cZ cJ cG : ClassId), va_K D wx_cl (wx_ty cI cZ cJ cG) s := by
  obtain ⟨h0, h1, h2, h3, h4, h5, h6⟩ := wl_inst
  obtain ⟨c0, i0, k0⟩ := u_known (C := "WidthCampaigns") (T := wx_TW) (N := 7) (n := 7) hts wj_W (hts _ h0)
  obtain ⟨c1, i1, k1⟩ := u_known (C := "WidthCampaigns$Plant") (T := wx_TP) (N := 15) (n := 15) hts wj_P (hts _ h1)
  obtain ⟨c2, i2, k2⟩ := u_known (C := "WidthCampaigns$JumpTable") (T := wx_TJ) (N := 4) (n := 4) hts wj_J (hts _ h2)
  obtain ⟨c3, i3, k3⟩ := u_known (C := "WidthCampaigns$WidthGroups") (T := wx_TG) (N := 4) (n := 4) hts wj_G (hts _ h3)
  obtain ⟨c4, i4, k4⟩ := u_known (C := "WidthCampaigns$Line") (T := wx_TL) (N := 10) (n := 10) hts wj_L (hts _ h4)
  obtain ⟨c5, i5, k5⟩ := u_known (C := "WidthCampaigns$Search") (T := wx_TS) (N := 7) (n := 7) hts wj_S (hts _ h5)
  obtain ⟨c6, i6, k6⟩ := u_known (C := "WidthCampaignsModel") (T := wx_TM) (N := 29) (n := 29) hts wj_M (hts _ h6)
  obtain ⟨w1, w2, w3, w4⟩ := wl_words
  obtain ⟨cI, a1, b1⟩ := wl_arr (hts _ w1)
  obtain ⟨cZ, a2, b2⟩ := wl_arr (hts _ w2)
  obtain ⟨cJ, a3, b3⟩ := wl_arr (hts _ w3)
  obtain ⟨cG, a4, b4⟩ := wl_grid (hts _ w4)
  refine ⟨(fun k => [c0, c1, c2, c3, c4, c5, c6].getD k 0, fun k => [i0, i1, i2, i3, i4, i5, i6].getD k i0), cI, cZ, cJ, cG, fun k q hq => ?_, fun k q hq => ?_⟩
  · match k, hq with
    | 0, hq => cases hq; exact k0
    | 1, hq => cases hq; exact k1
    | 2, hq => cases hq; exact k2
    | 3, hq => cases hq; exact k3
    | 4, hq => cases hq; exact k4
    | 5, hq => cases hq; exact k5
    | 6, hq => cases hq; exact k6
    | k + 7, hq => simp [wx_cl] at hq
  · match k, hq with
    | 0, hq => cases hq; exact ⟨a1, b1⟩
    | 1, hq => cases hq; exact ⟨a2, b2⟩
    | 2, hq => cases hq; exact ⟨a3, b3⟩
    | 3, hq => cases hq; exact ⟨a4, b4⟩
    | k + 4, hq => simp [wx_ty] at hq
/-- the state of a new object of the class, of a new reference, of out -/
def wc_0 : wc_S := fun k i => if k = 1 then (if i = 11 then 2 else if i = 12 then 1000 else if i = 13 then 100 else 0) else if k = 71 then (if i = 16 then 2 else if i = 17 then 1000 else if i = 18 then 100 else 0) else 0
set_option maxHeartbeats 16000000 in
set_option maxRecDepth 100000 in
theorem whole_start0 {p : Program} {e : Env} {s : State} {m : MethodId} {below : List Frame} {meth : Method} {c : Code} (l : Launch) (htr : l.stackTraces = false) {b L : Nat} {xs : Nat → Int32} (C0 : lw_At p s m meth c b L xs) (hrun : ∃ res : Int32 × wc_S, wf_law_23 L xs 600 0 0 wc_0 = some res ∧ res.1 = 1) : W p l e room_1 s m #[Value.ref b] below meth c s.heap [] 0 0 (lw_Z below #[Value.ref b] s) (entryFrame m ([Value.ref b] : List Value).toArray 7) := by
  obtain ⟨hx, hb, hr, hml, hown, hts0, hX, hbl, hlocks, hgv⟩ := id C0
  have hown : s.vm.findClass "WidthCampaignsLaw" = some m.cls := hown
  have hA : ∀ q : Nat, s.heap.size ≤ q → (fun q : Nat => s.heap.size ≤ q) q := fun _ h => h
  have hts : ∀ w ∈ (.initialized "WidthCampaignsLaw" : Cond) :: wx_all, w.before #[Value.ref b] s = true := wl_hts hts0 wt_0
  have hC := wl_C hts0 hgv
  have hO : (Cond.arrayOver (.array .int)).before #[] s = true := hts0 _ wl_words.2.2.2
  obtain ⟨D, cI, cZ, cJ, cG, hK⟩ := wl_K hts0
  have hS : va_S (fun q : Nat => s.heap.size ≤ q) s.heap s.heap [] := va_S.rf
  have hP : va_P D wx_cl [] s.heap := fun k q h => by simp at h
  have hD : va_D (fun q : Nat => s.heap.size ≤ q) [] := ⟨fun i j p q h => by simp at h, fun k q h => by simp at h⟩
  have hl := lv_entry ([.ref b]) (n := 7) (Nat.le_of_ble_eq_true rfl)
  rw [lg_entry_eq]
  generalize (lg_sl ([.ref b]) ++ List.replicate (7 - (lg_sl ([.ref b])).length) Slot.unset).toArray = ls at hl ⊢
  have hl : lv_has ls 7 [(0, .ref b)] := hl
  refine va_new (ci := 0) (fs := [.null, .null, .null, .null, .null, .int 0, .int 0]) (C := "WidthCampaigns") (T := wx_TW) (N := 7) hx hb hts (fun w h => List.mem_cons_of_mem _ (wi_W w h)) wx_tW wx_toW hown (wx_hw hts wt_17) (wx_hw hts wt_18) (wx_hw hts wt_1) hK hP hD hS hA rfl (fun j hj => by rcases (show j = 0 ∨ j = 1 ∨ j = 2 ∨ j = 3 ∨ j = 4 ∨ j = 5 ∨ j = 6 by omega) with rfl | rfl | rfl | rfl | rfl | rfl | rfl <;> rfl) (Nat.le_of_ble_eq_true rfl) (Nat.le_of_ble_eq_true rfl) wd_K_law_0 (fun qW H hP hD hS => ?_)
  have hP : va_P D wx_cl [(qW, .inr (0, [.null, .null, .null, .null, .null, .int 0, .int 0]))] H := hP
  have hD : va_D (fun q : Nat => s.heap.size ≤ q) [(qW, .inr (0, [.null, .null, .null, .null, .null, .int 0, .int 0]))] := hD
  refine W.widen (k := 1) (n := 7) (by omega) (by omega) ?_
  refine lv_dup hx hb wd_K_law_3 rfl ?_
  have hPc := hP.sub (ws' := [(qW, .inr (0, [.null, .null, .null, .null, .null, .int 0, .int 0]))]) [0] rfl
  have hDc := hD.sub (ws' := [(qW, .inr (0, [.null, .null, .null, .null, .null, .int 0, .int 0]))]) [0] (by decide) rfl
  have hFc := va_free (wc := [(qW, .inr (0, [.null, .null, .null, .null, .null, .int 0, .int 0]))]) hD hS hA [0] rfl
  refine va_callv (va_runI (As := []) (rest := [.ref qW]) ⟨hx, hb, hml, hown, hts⟩ (wm_W_init l D cI cZ cJ cG H.size qW) (wn_cwI 0 hts wt_21 wt_20 wt_1 wt_19 wh_W_init rfl rfl ⟨(Nat.le_of_ble_eq_true rfl), (Nat.le_of_ble_eq_true rfl)⟩) (wn_preS hK hPc hDc hS hFc hC hO) rfl rfl hl.1 rfl (lv_room (Nat.le_of_ble_eq_true rfl)) wd_K_law_4 ⟨(Nat.le_of_ble_eq_true rfl), (Nat.le_of_ble_eq_true rfl)⟩) hS (fun q _ h => hFc q h) hFc (fun uW t H1 locs ht hvm hw hB hz1 hk1 hS => ?_)
  obtain ⟨hP1, hD1⟩ := hB
  rw [ht] at hP1
  obtain ⟨hP, hD⟩ := va_join (wr := []) (w1 := [(qW, .inr (0, [.ref (uW 1), .ref (uW 30), .ref (uW 49), .ref (uW 68), .ref (uW 70), .int 0, .int 0])), ((uW 1), .inr (1, [.ref (uW 2), .ref (uW 3), .ref (uW 4), .ref (uW 5), .ref (uW 6), .ref (uW 7), .ref (uW 8), .ref (uW 18), .ref (uW 22), .ref (uW 26), .int 0, .int 2, .int 1000, .int 100, .int 0])), ((uW 2), .inl (cI, 9, .inl (fun _ => 0))), ((uW 3), .inl (cI, 9, .inl (fun _ => 0))), ((uW 4), .inl (cI, 9, .inl (fun _ => 0))), ((uW 5), .inl (cI, 9, .inl (fun _ => 0))), ((uW 6), .inl (cI, 9, .inl (fun _ => 0))), ((uW 7), .inl (cI, 9, .inl (fun _ => 0))), ((uW 8), .inl (cG, 9, .inr (.inr (.inr (.inr (fun i => if i < 9 then some (uW (9 + i)) else none)))))), ((uW 9), .inl (cI, 9, .inl (fun _ => 0))), ((uW 10), .inl (cI, 9, .inl (fun _ => 0))), ((uW 11), .inl (cI, 9, .inl (fun _ => 0))), ((uW 12), .inl (cI, 9, .inl (fun _ => 0))), ((uW 13), .inl (cI, 9, .inl (fun _ => 0))), ((uW 14), .inl (cI, 9, .inl (fun _ => 0))), ((uW 15), .inl (cI, 9, .inl (fun _ => 0))), ((uW 16), .inl (cI, 9, .inl (fun _ => 0))), ((uW 17), .inl (cI, 9, .inl (fun _ => 0))), ((uW 18), .inr (2, [.ref (uW 19), .ref (uW 20), .ref (uW 21), .int 0])), ((uW 19), .inl (cI, 8, .inl (fun _ => 0))), ((uW 20), .inl (cI, 8, .inl (fun _ => 0))), ((uW 21), .inl (cI, 8, .inl (fun _ => 0))), ((uW 22), .inr (2, [.ref (uW 23), .ref (uW 24), .ref (uW 25), .int 0])), ((uW 23), .inl (cI, 8, .inl (fun _ => 0))), ((uW 24), .inl (cI, 8, .inl (fun _ => 0))), ((uW 25), .inl (cI, 8, .inl (fun _ => 0))), ((uW 26), .inr (3, [.ref (uW 27), .ref (uW 28), .ref (uW 29), .int 0])), ((uW 27), .inl (cI, 4, .inl (fun _ => 0))), ((uW 28), .inl (cI, 4, .inl (fun _ => 0))), ((uW 29), .inl (cI, 4, .inl (fun _ => 0))), ((uW 30), .inr (4, [.ref (uW 1), .ref (uW 31), .ref (uW 32), .ref (uW 33), .ref (uW 34), .ref (uW 35), .ref (uW 36), .ref (uW 37), .ref (uW 38), .int 0])), ((uW 31), .inl (cI, 9, .inl (fun _ => 0))), ((uW 32), .inl (cZ, 9, .inl (fun _ => 0))), ((uW 33), .inl (cZ, 9, .inl (fun _ => 0))), ((uW 34), .inl (cI, 10, .inl (fun _ => 0))), ((uW 35), .inl (cI, 10, .inl (fun _ => 0))), ((uW 36), .inl (cI, 10, .inl (fun _ => 0))), ((uW 37), .inl (cI, 10, .inl (fun _ => 0))), ((uW 38), .inl (cG, 10, .inr (.inr (.inr (.inr (fun i => if i < 10 then some (uW (39 + i)) else none)))))), ((uW 39), .inl (cI, 4, .inl (fun _ => 0))), ((uW 40), .inl (cI, 4, .inl (fun _ => 0))), ((uW 41), .inl (cI, 4, .inl (fun _ => 0))), ((uW 42), .inl (cI, 4, .inl (fun _ => 0))), ((uW 43), .inl (cI, 4, .inl (fun _ => 0))), ((uW 44), .inl (cI, 4, .inl (fun _ => 0))), ((uW 45), .inl (cI, 4, .inl (fun _ => 0))), ((uW 46), .inl (cI, 4, .inl (fun _ => 0))), ((uW 47), .inl (cI, 4, .inl (fun _ => 0))), ((uW 48), .inl (cI, 4, .inl (fun _ => 0))), ((uW 49), .inr (4, [.ref (uW 1), .ref (uW 50), .ref (uW 51), .ref (uW 52), .ref (uW 53), .ref (uW 54), .ref (uW 55), .ref (uW 56), .ref (uW 57), .int 0])), ((uW 50), .inl (cI, 9, .inl (fun _ => 0))), ((uW 51), .inl (cZ, 9, .inl (fun _ => 0))), ((uW 52), .inl (cZ, 9, .inl (fun _ => 0))), ((uW 53), .inl (cI, 10, .inl (fun _ => 0))), ((uW 54), .inl (cI, 10, .inl (fun _ => 0))), ((uW 55), .inl (cI, 10, .inl (fun _ => 0))), ((uW 56), .inl (cI, 10, .inl (fun _ => 0))), ((uW 57), .inl (cG, 10, .inr (.inr (.inr (.inr (fun i => if i < 10 then some (uW (58 + i)) else none)))))), ((uW 58), .inl (cI, 4, .inl (fun _ => 0))), ((uW 59), .inl (cI, 4, .inl (fun _ => 0))), ((uW 60), .inl (cI, 4, .inl (fun _ => 0))), ((uW 61), .inl (cI, 4, .inl (fun _ => 0))), ((uW 62), .inl (cI, 4, .inl (fun _ => 0))), ((uW 63), .inl (cI, 4, .inl (fun _ => 0))), ((uW 64), .inl (cI, 4, .inl (fun _ => 0))), ((uW 65), .inl (cI, 4, .inl (fun _ => 0))), ((uW 66), .inl (cI, 4, .inl (fun _ => 0))), ((uW 67), .inl (cI, 4, .inl (fun _ => 0))), ((uW 68), .inr (5, [.ref (uW 1), .ref (uW 30), .ref (uW 69), .int 0, .int 0, .int 0, .int 0])), ((uW 69), .inl (cI, 9, .inl (fun _ => 0))), ((uW 70), .inl (cI, 9, .inl (fun _ => 0)))]) hP hD [0] [] rfl rfl (by decide) (by decide) hk1 hFc hP1 hD1
  generalize H1 = H at hP hS ⊢
  have hP : va_P D wx_cl [(qW, .inr (0, [.ref (uW 1), .ref (uW 30), .ref (uW 49), .ref (uW 68), .ref (uW 70), .int 0, .int 0])), ((uW 1), .inr (1, [.ref (uW 2), .ref (uW 3), .ref (uW 4), .ref (uW 5), .ref (uW 6), .ref (uW 7), .ref (uW 8), .ref (uW 18), .ref (uW 22), .ref (uW 26), .int 0, .int 2, .int 1000, .int 100, .int 0])), ((uW 2), .inl (cI, 9, .inl (fun _ => 0))), ((uW 3), .inl (cI, 9, .inl (fun _ => 0))), ((uW 4), .inl (cI, 9, .inl (fun _ => 0))), ((uW 5), .inl (cI, 9, .inl (fun _ => 0))), ((uW 6), .inl (cI, 9, .inl (fun _ => 0))), ((uW 7), .inl (cI, 9, .inl (fun _ => 0))), ((uW 8), .inl (cG, 9, .inr (.inr (.inr (.inr (fun i => if i < 9 then some (uW (9 + i)) else none)))))), ((uW 9), .inl (cI, 9, .inl (fun _ => 0))), ((uW 10), .inl (cI, 9, .inl (fun _ => 0))), ((uW 11), .inl (cI, 9, .inl (fun _ => 0))), ((uW 12), .inl (cI, 9, .inl (fun _ => 0))), ((uW 13), .inl (cI, 9, .inl (fun _ => 0))), ((uW 14), .inl (cI, 9, .inl (fun _ => 0))), ((uW 15), .inl (cI, 9, .inl (fun _ => 0))), ((uW 16), .inl (cI, 9, .inl (fun _ => 0))), ((uW 17), .inl (cI, 9, .inl (fun _ => 0))), ((uW 18), .inr (2, [.ref (uW 19), .ref (uW 20), .ref (uW 21), .int 0])), ((uW 19), .inl (cI, 8, .inl (fun _ => 0))), ((uW 20), .inl (cI, 8, .inl (fun _ => 0))), ((uW 21), .inl (cI, 8, .inl (fun _ => 0))), ((uW 22), .inr (2, [.ref (uW 23), .ref (uW 24), .ref (uW 25), .int 0])), ((uW 23), .inl (cI, 8, .inl (fun _ => 0))), ((uW 24), .inl (cI, 8, .inl (fun _ => 0))), ((uW 25), .inl (cI, 8, .inl (fun _ => 0))), ((uW 26), .inr (3, [.ref (uW 27), .ref (uW 28), .ref (uW 29), .int 0])), ((uW 27), .inl (cI, 4, .inl (fun _ => 0))), ((uW 28), .inl (cI, 4, .inl (fun _ => 0))), ((uW 29), .inl (cI, 4, .inl (fun _ => 0))), ((uW 30), .inr (4, [.ref (uW 1), .ref (uW 31), .ref (uW 32), .ref (uW 33), .ref (uW 34), .ref (uW 35), .ref (uW 36), .ref (uW 37), .ref (uW 38), .int 0])), ((uW 31), .inl (cI, 9, .inl (fun _ => 0))), ((uW 32), .inl (cZ, 9, .inl (fun _ => 0))), ((uW 33), .inl (cZ, 9, .inl (fun _ => 0))), ((uW 34), .inl (cI, 10, .inl (fun _ => 0))), ((uW 35), .inl (cI, 10, .inl (fun _ => 0))), ((uW 36), .inl (cI, 10, .inl (fun _ => 0))), ((uW 37), .inl (cI, 10, .inl (fun _ => 0))), ((uW 38), .inl (cG, 10, .inr (.inr (.inr (.inr (fun i => if i < 10 then some (uW (39 + i)) else none)))))), ((uW 39), .inl (cI, 4, .inl (fun _ => 0))), ((uW 40), .inl (cI, 4, .inl (fun _ => 0))), ((uW 41), .inl (cI, 4, .inl (fun _ => 0))), ((uW 42), .inl (cI, 4, .inl (fun _ => 0))), ((uW 43), .inl (cI, 4, .inl (fun _ => 0))), ((uW 44), .inl (cI, 4, .inl (fun _ => 0))), ((uW 45), .inl (cI, 4, .inl (fun _ => 0))), ((uW 46), .inl (cI, 4, .inl (fun _ => 0))), ((uW 47), .inl (cI, 4, .inl (fun _ => 0))), ((uW 48), .inl (cI, 4, .inl (fun _ => 0))), ((uW 49), .inr (4, [.ref (uW 1), .ref (uW 50), .ref (uW 51), .ref (uW 52), .ref (uW 53), .ref (uW 54), .ref (uW 55), .ref (uW 56), .ref (uW 57), .int 0])), ((uW 50), .inl (cI, 9, .inl (fun _ => 0))), ((uW 51), .inl (cZ, 9, .inl (fun _ => 0))), ((uW 52), .inl (cZ, 9, .inl (fun _ => 0))), ((uW 53), .inl (cI, 10, .inl (fun _ => 0))), ((uW 54), .inl (cI, 10, .inl (fun _ => 0))), ((uW 55), .inl (cI, 10, .inl (fun _ => 0))), ((uW 56), .inl (cI, 10, .inl (fun _ => 0))), ((uW 57), .inl (cG, 10, .inr (.inr (.inr (.inr (fun i => if i < 10 then some (uW (58 + i)) else none)))))), ((uW 58), .inl (cI, 4, .inl (fun _ => 0))), ((uW 59), .inl (cI, 4, .inl (fun _ => 0))), ((uW 60), .inl (cI, 4, .inl (fun _ => 0))), ((uW 61), .inl (cI, 4, .inl (fun _ => 0))), ((uW 62), .inl (cI, 4, .inl (fun _ => 0))), ((uW 63), .inl (cI, 4, .inl (fun _ => 0))), ((uW 64), .inl (cI, 4, .inl (fun _ => 0))), ((uW 65), .inl (cI, 4, .inl (fun _ => 0))), ((uW 66), .inl (cI, 4, .inl (fun _ => 0))), ((uW 67), .inl (cI, 4, .inl (fun _ => 0))), ((uW 68), .inr (5, [.ref (uW 1), .ref (uW 30), .ref (uW 69), .int 0, .int 0, .int 0, .int 0])), ((uW 69), .inl (cI, 9, .inl (fun _ => 0))), ((uW 70), .inl (cI, 9, .inl (fun _ => 0)))] H := hP
  have hD : va_D (fun q : Nat => s.heap.size ≤ q) [(qW, .inr (0, [.ref (uW 1), .ref (uW 30), .ref (uW 49), .ref (uW 68), .ref (uW 70), .int 0, .int 0])), ((uW 1), .inr (1, [.ref (uW 2), .ref (uW 3), .ref (uW 4), .ref (uW 5), .ref (uW 6), .ref (uW 7), .ref (uW 8), .ref (uW 18), .ref (uW 22), .ref (uW 26), .int 0, .int 2, .int 1000, .int 100, .int 0])), ((uW 2), .inl (cI, 9, .inl (fun _ => 0))), ((uW 3), .inl (cI, 9, .inl (fun _ => 0))), ((uW 4), .inl (cI, 9, .inl (fun _ => 0))), ((uW 5), .inl (cI, 9, .inl (fun _ => 0))), ((uW 6), .inl (cI, 9, .inl (fun _ => 0))), ((uW 7), .inl (cI, 9, .inl (fun _ => 0))), ((uW 8), .inl (cG, 9, .inr (.inr (.inr (.inr (fun i => if i < 9 then some (uW (9 + i)) else none)))))), ((uW 9), .inl (cI, 9, .inl (fun _ => 0))), ((uW 10), .inl (cI, 9, .inl (fun _ => 0))), ((uW 11), .inl (cI, 9, .inl (fun _ => 0))), ((uW 12), .inl (cI, 9, .inl (fun _ => 0))), ((uW 13), .inl (cI, 9, .inl (fun _ => 0))), ((uW 14), .inl (cI, 9, .inl (fun _ => 0))), ((uW 15), .inl (cI, 9, .inl (fun _ => 0))), ((uW 16), .inl (cI, 9, .inl (fun _ => 0))), ((uW 17), .inl (cI, 9, .inl (fun _ => 0))), ((uW 18), .inr (2, [.ref (uW 19), .ref (uW 20), .ref (uW 21), .int 0])), ((uW 19), .inl (cI, 8, .inl (fun _ => 0))), ((uW 20), .inl (cI, 8, .inl (fun _ => 0))), ((uW 21), .inl (cI, 8, .inl (fun _ => 0))), ((uW 22), .inr (2, [.ref (uW 23), .ref (uW 24), .ref (uW 25), .int 0])), ((uW 23), .inl (cI, 8, .inl (fun _ => 0))), ((uW 24), .inl (cI, 8, .inl (fun _ => 0))), ((uW 25), .inl (cI, 8, .inl (fun _ => 0))), ((uW 26), .inr (3, [.ref (uW 27), .ref (uW 28), .ref (uW 29), .int 0])), ((uW 27), .inl (cI, 4, .inl (fun _ => 0))), ((uW 28), .inl (cI, 4, .inl (fun _ => 0))), ((uW 29), .inl (cI, 4, .inl (fun _ => 0))), ((uW 30), .inr (4, [.ref (uW 1), .ref (uW 31), .ref (uW 32), .ref (uW 33), .ref (uW 34), .ref (uW 35), .ref (uW 36), .ref (uW 37), .ref (uW 38), .int 0])), ((uW 31), .inl (cI, 9, .inl (fun _ => 0))), ((uW 32), .inl (cZ, 9, .inl (fun _ => 0))), ((uW 33), .inl (cZ, 9, .inl (fun _ => 0))), ((uW 34), .inl (cI, 10, .inl (fun _ => 0))), ((uW 35), .inl (cI, 10, .inl (fun _ => 0))), ((uW 36), .inl (cI, 10, .inl (fun _ => 0))), ((uW 37), .inl (cI, 10, .inl (fun _ => 0))), ((uW 38), .inl (cG, 10, .inr (.inr (.inr (.inr (fun i => if i < 10 then some (uW (39 + i)) else none)))))), ((uW 39), .inl (cI, 4, .inl (fun _ => 0))), ((uW 40), .inl (cI, 4, .inl (fun _ => 0))), ((uW 41), .inl (cI, 4, .inl (fun _ => 0))), ((uW 42), .inl (cI, 4, .inl (fun _ => 0))), ((uW 43), .inl (cI, 4, .inl (fun _ => 0))), ((uW 44), .inl (cI, 4, .inl (fun _ => 0))), ((uW 45), .inl (cI, 4, .inl (fun _ => 0))), ((uW 46), .inl (cI, 4, .inl (fun _ => 0))), ((uW 47), .inl (cI, 4, .inl (fun _ => 0))), ((uW 48), .inl (cI, 4, .inl (fun _ => 0))), ((uW 49), .inr (4, [.ref (uW 1), .ref (uW 50), .ref (uW 51), .ref (uW 52), .ref (uW 53), .ref (uW 54), .ref (uW 55), .ref (uW 56), .ref (uW 57), .int 0])), ((uW 50), .inl (cI, 9, .inl (fun _ => 0))), ((uW 51), .inl (cZ, 9, .inl (fun _ => 0))), ((uW 52), .inl (cZ, 9, .inl (fun _ => 0))), ((uW 53), .inl (cI, 10, .inl (fun _ => 0))), ((uW 54), .inl (cI, 10, .inl (fun _ => 0))), ((uW 55), .inl (cI, 10, .inl (fun _ => 0))), ((uW 56), .inl (cI, 10, .inl (fun _ => 0))), ((uW 57), .inl (cG, 10, .inr (.inr (.inr (.inr (fun i => if i < 10 then some (uW (58 + i)) else none)))))), ((uW 58), .inl (cI, 4, .inl (fun _ => 0))), ((uW 59), .inl (cI, 4, .inl (fun _ => 0))), ((uW 60), .inl (cI, 4, .inl (fun _ => 0))), ((uW 61), .inl (cI, 4, .inl (fun _ => 0))), ((uW 62), .inl (cI, 4, .inl (fun _ => 0))), ((uW 63), .inl (cI, 4, .inl (fun _ => 0))), ((uW 64), .inl (cI, 4, .inl (fun _ => 0))), ((uW 65), .inl (cI, 4, .inl (fun _ => 0))), ((uW 66), .inl (cI, 4, .inl (fun _ => 0))), ((uW 67), .inl (cI, 4, .inl (fun _ => 0))), ((uW 68), .inr (5, [.ref (uW 1), .ref (uW 30), .ref (uW 69), .int 0, .int 0, .int 0, .int 0])), ((uW 69), .inl (cI, 9, .inl (fun _ => 0))), ((uW 70), .inl (cI, 9, .inl (fun _ => 0)))] := hD
  refine W.widen (k := 71) (n := 517) (by omega) (by omega) ?_
  refine lv_astore_n (lv' := [(1, .ref qW), (0, .ref b)]) hx hb wd_K_law_7 rfl hl (by decide) rfl (fun ls hl => ?_)
  refine va_new (ci := 6) (fs := [.int 0, .int 0, .null, .null, .null, .null, .null, .null, .null, .null, .null, .null, .int 0, .null, .null, .null, .int 0, .int 0, .int 0, .int 0, .int 0, .int 0, .int 0, .null, .null, .int 0, .int 0, .int 0, .null]) (C := "WidthCampaignsModel") (T := wx_TM) (N := 29) hx hb hts (fun w h => List.mem_cons_of_mem _ (wi_M w h)) wx_tM wx_toM hown (wx_hw hts wt_624) (wx_hw hts wt_625) (wx_hw hts wt_7) hK hP hD hS hA rfl (fun j hj => by rcases (show j = 0 ∨ j = 1 ∨ j = 2 ∨ j = 3 ∨ j = 4 ∨ j = 5 ∨ j = 6 ∨ j = 7 ∨ j = 8 ∨ j = 9 ∨ j = 10 ∨ j = 11 ∨ j = 12 ∨ j = 13 ∨ j = 14 ∨ j = 15 ∨ j = 16 ∨ j = 17 ∨ j = 18 ∨ j = 19 ∨ j = 20 ∨ j = 21 ∨ j = 22 ∨ j = 23 ∨ j = 24 ∨ j = 25 ∨ j = 26 ∨ j = 27 ∨ j = 28 by omega) with rfl | rfl | rfl | rfl | rfl | rfl | rfl | rfl | rfl | rfl | rfl | rfl | rfl | rfl | rfl | rfl | rfl | rfl | rfl | rfl | rfl | rfl | rfl | rfl | rfl | rfl | rfl | rfl | rfl <;> rfl) (Nat.le_of_ble_eq_true rfl) (Nat.le_of_ble_eq_true rfl) wd_K_law_8 (fun qM H hP hD hS => ?_)
  have hP : va_P D wx_cl [(qW, .inr (0, [.ref (uW 1), .ref (uW 30), .ref (uW 49), .ref (uW 68), .ref (uW 70), .int 0, .int 0])), ((uW 1), .inr (1, [.ref (uW 2), .ref (uW 3), .ref (uW 4), .ref (uW 5), .ref (uW 6), .ref (uW 7), .ref (uW 8), .ref (uW 18), .ref (uW 22), .ref (uW 26), .int 0, .int 2, .int 1000, .int 100, .int 0])), ((uW 2), .inl (cI, 9, .inl (fun _ => 0))), ((uW 3), .inl (cI, 9, .inl (fun _ => 0))), ((uW 4), .inl (cI, 9, .inl (fun _ => 0))), ((uW 5), .inl (cI, 9, .inl (fun _ => 0))), ((uW 6), .inl (cI, 9, .inl (fun _ => 0))), ((uW 7), .inl (cI, 9, .inl (fun _ => 0))), ((uW 8), .inl (cG, 9, .inr (.inr (.inr (.inr (fun i => if i < 9 then some (uW (9 + i)) else none)))))), ((uW 9), .inl (cI, 9, .inl (fun _ => 0))), ((uW 10), .inl (cI, 9, .inl (fun _ => 0))), ((uW 11), .inl (cI, 9, .inl (fun _ => 0))), ((uW 12), .inl (cI, 9, .inl (fun _ => 0))), ((uW 13), .inl (cI, 9, .inl (fun _ => 0))), ((uW 14), .inl (cI, 9, .inl (fun _ => 0))), ((uW 15), .inl (cI, 9, .inl (fun _ => 0))), ((uW 16), .inl (cI, 9, .inl (fun _ => 0))), ((uW 17), .inl (cI, 9, .inl (fun _ => 0))), ((uW 18), .inr (2, [.ref (uW 19), .ref (uW 20), .ref (uW 21), .int 0])), ((uW 19), .inl (cI, 8, .inl (fun _ => 0))), ((uW 20), .inl (cI, 8, .inl (fun _ => 0))), ((uW 21), .inl (cI, 8, .inl (fun _ => 0))), ((uW 22), .inr (2, [.ref (uW 23), .ref (uW 24), .ref (uW 25), .int 0])), ((uW 23), .inl (cI, 8, .inl (fun _ => 0))), ((uW 24), .inl (cI, 8, .inl (fun _ => 0))), ((uW 25), .inl (cI, 8, .inl (fun _ => 0))), ((uW 26), .inr (3, [.ref (uW 27), .ref (uW 28), .ref (uW 29), .int 0])), ((uW 27), .inl (cI, 4, .inl (fun _ => 0))), ((uW 28), .inl (cI, 4, .inl (fun _ => 0))), ((uW 29), .inl (cI, 4, .inl (fun _ => 0))), ((uW 30), .inr (4, [.ref (uW 1), .ref (uW 31), .ref (uW 32), .ref (uW 33), .ref (uW 34), .ref (uW 35), .ref (uW 36), .ref (uW 37), .ref (uW 38), .int 0])), ((uW 31), .inl (cI, 9, .inl (fun _ => 0))), ((uW 32), .inl (cZ, 9, .inl (fun _ => 0))), ((uW 33), .inl (cZ, 9, .inl (fun _ => 0))), ((uW 34), .inl (cI, 10, .inl (fun _ => 0))), ((uW 35), .inl (cI, 10, .inl (fun _ => 0))), ((uW 36), .inl (cI, 10, .inl (fun _ => 0))), ((uW 37), .inl (cI, 10, .inl (fun _ => 0))), ((uW 38), .inl (cG, 10, .inr (.inr (.inr (.inr (fun i => if i < 10 then some (uW (39 + i)) else none)))))), ((uW 39), .inl (cI, 4, .inl (fun _ => 0))), ((uW 40), .inl (cI, 4, .inl (fun _ => 0))), ((uW 41), .inl (cI, 4, .inl (fun _ => 0))), ((uW 42), .inl (cI, 4, .inl (fun _ => 0))), ((uW 43), .inl (cI, 4, .inl (fun _ => 0))), ((uW 44), .inl (cI, 4, .inl (fun _ => 0))), ((uW 45), .inl (cI, 4, .inl (fun _ => 0))), ((uW 46), .inl (cI, 4, .inl (fun _ => 0))), ((uW 47), .inl (cI, 4, .inl (fun _ => 0))), ((uW 48), .inl (cI, 4, .inl (fun _ => 0))), ((uW 49), .inr (4, [.ref (uW 1), .ref (uW 50), .ref (uW 51), .ref (uW 52), .ref (uW 53), .ref (uW 54), .ref (uW 55), .ref (uW 56), .ref (uW 57), .int 0])), ((uW 50), .inl (cI, 9, .inl (fun _ => 0))), ((uW 51), .inl (cZ, 9, .inl (fun _ => 0))), ((uW 52), .inl (cZ, 9, .inl (fun _ => 0))), ((uW 53), .inl (cI, 10, .inl (fun _ => 0))), ((uW 54), .inl (cI, 10, .inl (fun _ => 0))), ((uW 55), .inl (cI, 10, .inl (fun _ => 0))), ((uW 56), .inl (cI, 10, .inl (fun _ => 0))), ((uW 57), .inl (cG, 10, .inr (.inr (.inr (.inr (fun i => if i < 10 then some (uW (58 + i)) else none)))))), ((uW 58), .inl (cI, 4, .inl (fun _ => 0))), ((uW 59), .inl (cI, 4, .inl (fun _ => 0))), ((uW 60), .inl (cI, 4, .inl (fun _ => 0))), ((uW 61), .inl (cI, 4, .inl (fun _ => 0))), ((uW 62), .inl (cI, 4, .inl (fun _ => 0))), ((uW 63), .inl (cI, 4, .inl (fun _ => 0))), ((uW 64), .inl (cI, 4, .inl (fun _ => 0))), ((uW 65), .inl (cI, 4, .inl (fun _ => 0))), ((uW 66), .inl (cI, 4, .inl (fun _ => 0))), ((uW 67), .inl (cI, 4, .inl (fun _ => 0))), ((uW 68), .inr (5, [.ref (uW 1), .ref (uW 30), .ref (uW 69), .int 0, .int 0, .int 0, .int 0])), ((uW 69), .inl (cI, 9, .inl (fun _ => 0))), ((uW 70), .inl (cI, 9, .inl (fun _ => 0))), (qM, .inr (6, [.int 0, .int 0, .null, .null, .null, .null, .null, .null, .null, .null, .null, .null, .int 0, .null, .null, .null, .int 0, .int 0, .int 0, .int 0, .int 0, .int 0, .int 0, .null, .null, .int 0, .int 0, .int 0, .null]))] H := hP
  have hD : va_D (fun q : Nat => s.heap.size ≤ q) [(qW, .inr (0, [.ref (uW 1), .ref (uW 30), .ref (uW 49), .ref (uW 68), .ref (uW 70), .int 0, .int 0])), ((uW 1), .inr (1, [.ref (uW 2), .ref (uW 3), .ref (uW 4), .ref (uW 5), .ref (uW 6), .ref (uW 7), .ref (uW 8), .ref (uW 18), .ref (uW 22), .ref (uW 26), .int 0, .int 2, .int 1000, .int 100, .int 0])), ((uW 2), .inl (cI, 9, .inl (fun _ => 0))), ((uW 3), .inl (cI, 9, .inl (fun _ => 0))), ((uW 4), .inl (cI, 9, .inl (fun _ => 0))), ((uW 5), .inl (cI, 9, .inl (fun _ => 0))), ((uW 6), .inl (cI, 9, .inl (fun _ => 0))), ((uW 7), .inl (cI, 9, .inl (fun _ => 0))), ((uW 8), .inl (cG, 9, .inr (.inr (.inr (.inr (fun i => if i < 9 then some (uW (9 + i)) else none)))))), ((uW 9), .inl (cI, 9, .inl (fun _ => 0))), ((uW 10), .inl (cI, 9, .inl (fun _ => 0))), ((uW 11), .inl (cI, 9, .inl (fun _ => 0))), ((uW 12), .inl (cI, 9, .inl (fun _ => 0))), ((uW 13), .inl (cI, 9, .inl (fun _ => 0))), ((uW 14), .inl (cI, 9, .inl (fun _ => 0))), ((uW 15), .inl (cI, 9, .inl (fun _ => 0))), ((uW 16), .inl (cI, 9, .inl (fun _ => 0))), ((uW 17), .inl (cI, 9, .inl (fun _ => 0))), ((uW 18), .inr (2, [.ref (uW 19), .ref (uW 20), .ref (uW 21), .int 0])), ((uW 19), .inl (cI, 8, .inl (fun _ => 0))), ((uW 20), .inl (cI, 8, .inl (fun _ => 0))), ((uW 21), .inl (cI, 8, .inl (fun _ => 0))), ((uW 22), .inr (2, [.ref (uW 23), .ref (uW 24), .ref (uW 25), .int 0])), ((uW 23), .inl (cI, 8, .inl (fun _ => 0))), ((uW 24), .inl (cI, 8, .inl (fun _ => 0))), ((uW 25), .inl (cI, 8, .inl (fun _ => 0))), ((uW 26), .inr (3, [.ref (uW 27), .ref (uW 28), .ref (uW 29), .int 0])), ((uW 27), .inl (cI, 4, .inl (fun _ => 0))), ((uW 28), .inl (cI, 4, .inl (fun _ => 0))), ((uW 29), .inl (cI, 4, .inl (fun _ => 0))), ((uW 30), .inr (4, [.ref (uW 1), .ref (uW 31), .ref (uW 32), .ref (uW 33), .ref (uW 34), .ref (uW 35), .ref (uW 36), .ref (uW 37), .ref (uW 38), .int 0])), ((uW 31), .inl (cI, 9, .inl (fun _ => 0))), ((uW 32), .inl (cZ, 9, .inl (fun _ => 0))), ((uW 33), .inl (cZ, 9, .inl (fun _ => 0))), ((uW 34), .inl (cI, 10, .inl (fun _ => 0))), ((uW 35), .inl (cI, 10, .inl (fun _ => 0))), ((uW 36), .inl (cI, 10, .inl (fun _ => 0))), ((uW 37), .inl (cI, 10, .inl (fun _ => 0))), ((uW 38), .inl (cG, 10, .inr (.inr (.inr (.inr (fun i => if i < 10 then some (uW (39 + i)) else none)))))), ((uW 39), .inl (cI, 4, .inl (fun _ => 0))), ((uW 40), .inl (cI, 4, .inl (fun _ => 0))), ((uW 41), .inl (cI, 4, .inl (fun _ => 0))), ((uW 42), .inl (cI, 4, .inl (fun _ => 0))), ((uW 43), .inl (cI, 4, .inl (fun _ => 0))), ((uW 44), .inl (cI, 4, .inl (fun _ => 0))), ((uW 45), .inl (cI, 4, .inl (fun _ => 0))), ((uW 46), .inl (cI, 4, .inl (fun _ => 0))), ((uW 47), .inl (cI, 4, .inl (fun _ => 0))), ((uW 48), .inl (cI, 4, .inl (fun _ => 0))), ((uW 49), .inr (4, [.ref (uW 1), .ref (uW 50), .ref (uW 51), .ref (uW 52), .ref (uW 53), .ref (uW 54), .ref (uW 55), .ref (uW 56), .ref (uW 57), .int 0])), ((uW 50), .inl (cI, 9, .inl (fun _ => 0))), ((uW 51), .inl (cZ, 9, .inl (fun _ => 0))), ((uW 52), .inl (cZ, 9, .inl (fun _ => 0))), ((uW 53), .inl (cI, 10, .inl (fun _ => 0))), ((uW 54), .inl (cI, 10, .inl (fun _ => 0))), ((uW 55), .inl (cI, 10, .inl (fun _ => 0))), ((uW 56), .inl (cI, 10, .inl (fun _ => 0))), ((uW 57), .inl (cG, 10, .inr (.inr (.inr (.inr (fun i => if i < 10 then some (uW (58 + i)) else none)))))), ((uW 58), .inl (cI, 4, .inl (fun _ => 0))), ((uW 59), .inl (cI, 4, .inl (fun _ => 0))), ((uW 60), .inl (cI, 4, .inl (fun _ => 0))), ((uW 61), .inl (cI, 4, .inl (fun _ => 0))), ((uW 62), .inl (cI, 4, .inl (fun _ => 0))), ((uW 63), .inl (cI, 4, .inl (fun _ => 0))), ((uW 64), .inl (cI, 4, .inl (fun _ => 0))), ((uW 65), .inl (cI, 4, .inl (fun _ => 0))), ((uW 66), .inl (cI, 4, .inl (fun _ => 0))), ((uW 67), .inl (cI, 4, .inl (fun _ => 0))), ((uW 68), .inr (5, [.ref (uW 1), .ref (uW 30), .ref (uW 69), .int 0, .int 0, .int 0, .int 0])), ((uW 69), .inl (cI, 9, .inl (fun _ => 0))), ((uW 70), .inl (cI, 9, .inl (fun _ => 0))), (qM, .inr (6, [.int 0, .int 0, .null, .null, .null, .null, .null, .null, .null, .null, .null, .null, .int 0, .null, .null, .null, .int 0, .int 0, .int 0, .int 0, .int 0, .int 0, .int 0, .null, .null, .int 0, .int 0, .int 0, .null]))] := hD
  refine W.widen (k := 72) (n := 546) (by omega) (by omega) ?_
  refine lv_dup hx hb wd_K_law_11 rfl ?_
  have hPc := hP.sub (ws' := [(qM, .inr (6, [.int 0, .int 0, .null, .null, .null, .null, .null, .null, .null, .null, .null, .null, .int 0, .null, .null, .null, .int 0, .int 0, .int 0, .int 0, .int 0, .int 0, .int 0, .null, .null, .int 0, .int 0, .int 0, .null]))]) [71] rfl
  have hDc := hD.sub (ws' := [(qM, .inr (6, [.int 0, .int 0, .null, .null, .null, .null, .null, .null, .null, .null, .null, .null, .int 0, .null, .null, .null, .int 0, .int 0, .int 0, .int 0, .int 0, .int 0, .int 0, .null, .null, .int 0, .int 0, .int 0, .null]))]) [71] (by decide) rfl
  have hFc := va_free (wc := [(qM, .inr (6, [.int 0, .int 0, .null, .null, .null, .null, .null, .null, .null, .null, .null, .null, .int 0, .null, .null, .null, .int 0, .int 0, .int 0, .int 0, .int 0, .int 0, .int 0, .null, .null, .int 0, .int 0, .int 0, .null]))]) hD hS hA [71] rfl
  refine va_callv (va_runI (As := []) (rest := [.ref qM]) ⟨hx, hb, hml, hown, hts⟩ (wm_M_init l D cI cZ cJ cG H.size qM) (wn_cwI 0 hts wt_628 wt_627 wt_7 wt_626 wh_M_init rfl rfl ⟨(Nat.le_of_ble_eq_true rfl), (Nat.le_of_ble_eq_true rfl)⟩) (wn_preS hK hPc hDc hS hFc hC hO) rfl rfl hl.1 rfl (lv_room (Nat.le_of_ble_eq_true rfl)) wd_K_law_12 ⟨(Nat.le_of_ble_eq_true rfl), (Nat.le_of_ble_eq_true rfl)⟩) hS (fun q _ h => hFc q h) hFc (fun uM t H1 locs ht hvm hw hB hz1 hk1 hS => ?_)
  obtain ⟨hP1, hD1⟩ := hB
  rw [ht] at hP1
  obtain ⟨hP, hD⟩ := va_join (wr := [(qW, .inr (0, [.ref (uW 1), .ref (uW 30), .ref (uW 49), .ref (uW 68), .ref (uW 70), .int 0, .int 0])), ((uW 1), .inr (1, [.ref (uW 2), .ref (uW 3), .ref (uW 4), .ref (uW 5), .ref (uW 6), .ref (uW 7), .ref (uW 8), .ref (uW 18), .ref (uW 22), .ref (uW 26), .int 0, .int 2, .int 1000, .int 100, .int 0])), ((uW 2), .inl (cI, 9, .inl (fun _ => 0))), ((uW 3), .inl (cI, 9, .inl (fun _ => 0))), ((uW 4), .inl (cI, 9, .inl (fun _ => 0))), ((uW 5), .inl (cI, 9, .inl (fun _ => 0))), ((uW 6), .inl (cI, 9, .inl (fun _ => 0))), ((uW 7), .inl (cI, 9, .inl (fun _ => 0))), ((uW 8), .inl (cG, 9, .inr (.inr (.inr (.inr (fun i => if i < 9 then some (uW (9 + i)) else none)))))), ((uW 9), .inl (cI, 9, .inl (fun _ => 0))), ((uW 10), .inl (cI, 9, .inl (fun _ => 0))), ((uW 11), .inl (cI, 9, .inl (fun _ => 0))), ((uW 12), .inl (cI, 9, .inl (fun _ => 0))), ((uW 13), .inl (cI, 9, .inl (fun _ => 0))), ((uW 14), .inl (cI, 9, .inl (fun _ => 0))), ((uW 15), .inl (cI, 9, .inl (fun _ => 0))), ((uW 16), .inl (cI, 9, .inl (fun _ => 0))), ((uW 17), .inl (cI, 9, .inl (fun _ => 0))), ((uW 18), .inr (2, [.ref (uW 19), .ref (uW 20), .ref (uW 21), .int 0])), ((uW 19), .inl (cI, 8, .inl (fun _ => 0))), ((uW 20), .inl (cI, 8, .inl (fun _ => 0))), ((uW 21), .inl (cI, 8, .inl (fun _ => 0))), ((uW 22), .inr (2, [.ref (uW 23), .ref (uW 24), .ref (uW 25), .int 0])), ((uW 23), .inl (cI, 8, .inl (fun _ => 0))), ((uW 24), .inl (cI, 8, .inl (fun _ => 0))), ((uW 25), .inl (cI, 8, .inl (fun _ => 0))), ((uW 26), .inr (3, [.ref (uW 27), .ref (uW 28), .ref (uW 29), .int 0])), ((uW 27), .inl (cI, 4, .inl (fun _ => 0))), ((uW 28), .inl (cI, 4, .inl (fun _ => 0))), ((uW 29), .inl (cI, 4, .inl (fun _ => 0))), ((uW 30), .inr (4, [.ref (uW 1), .ref (uW 31), .ref (uW 32), .ref (uW 33), .ref (uW 34), .ref (uW 35), .ref (uW 36), .ref (uW 37), .ref (uW 38), .int 0])), ((uW 31), .inl (cI, 9, .inl (fun _ => 0))), ((uW 32), .inl (cZ, 9, .inl (fun _ => 0))), ((uW 33), .inl (cZ, 9, .inl (fun _ => 0))), ((uW 34), .inl (cI, 10, .inl (fun _ => 0))), ((uW 35), .inl (cI, 10, .inl (fun _ => 0))), ((uW 36), .inl (cI, 10, .inl (fun _ => 0))), ((uW 37), .inl (cI, 10, .inl (fun _ => 0))), ((uW 38), .inl (cG, 10, .inr (.inr (.inr (.inr (fun i => if i < 10 then some (uW (39 + i)) else none)))))), ((uW 39), .inl (cI, 4, .inl (fun _ => 0))), ((uW 40), .inl (cI, 4, .inl (fun _ => 0))), ((uW 41), .inl (cI, 4, .inl (fun _ => 0))), ((uW 42), .inl (cI, 4, .inl (fun _ => 0))), ((uW 43), .inl (cI, 4, .inl (fun _ => 0))), ((uW 44), .inl (cI, 4, .inl (fun _ => 0))), ((uW 45), .inl (cI, 4, .inl (fun _ => 0))), ((uW 46), .inl (cI, 4, .inl (fun _ => 0))), ((uW 47), .inl (cI, 4, .inl (fun _ => 0))), ((uW 48), .inl (cI, 4, .inl (fun _ => 0))), ((uW 49), .inr (4, [.ref (uW 1), .ref (uW 50), .ref (uW 51), .ref (uW 52), .ref (uW 53), .ref (uW 54), .ref (uW 55), .ref (uW 56), .ref (uW 57), .int 0])), ((uW 50), .inl (cI, 9, .inl (fun _ => 0))), ((uW 51), .inl (cZ, 9, .inl (fun _ => 0))), ((uW 52), .inl (cZ, 9, .inl (fun _ => 0))), ((uW 53), .inl (cI, 10, .inl (fun _ => 0))), ((uW 54), .inl (cI, 10, .inl (fun _ => 0))), ((uW 55), .inl (cI, 10, .inl (fun _ => 0))), ((uW 56), .inl (cI, 10, .inl (fun _ => 0))), ((uW 57), .inl (cG, 10, .inr (.inr (.inr (.inr (fun i => if i < 10 then some (uW (58 + i)) else none)))))), ((uW 58), .inl (cI, 4, .inl (fun _ => 0))), ((uW 59), .inl (cI, 4, .inl (fun _ => 0))), ((uW 60), .inl (cI, 4, .inl (fun _ => 0))), ((uW 61), .inl (cI, 4, .inl (fun _ => 0))), ((uW 62), .inl (cI, 4, .inl (fun _ => 0))), ((uW 63), .inl (cI, 4, .inl (fun _ => 0))), ((uW 64), .inl (cI, 4, .inl (fun _ => 0))), ((uW 65), .inl (cI, 4, .inl (fun _ => 0))), ((uW 66), .inl (cI, 4, .inl (fun _ => 0))), ((uW 67), .inl (cI, 4, .inl (fun _ => 0))), ((uW 68), .inr (5, [.ref (uW 1), .ref (uW 30), .ref (uW 69), .int 0, .int 0, .int 0, .int 0])), ((uW 69), .inl (cI, 9, .inl (fun _ => 0))), ((uW 70), .inl (cI, 9, .inl (fun _ => 0)))]) (w1 := [(qM, .inr (6, [.int 0, .int 0, .ref (uM 1), .ref (uM 2), .ref (uM 3), .ref (uM 4), .ref (uM 5), .ref (uM 6), .ref (uM 7), .ref (uM 8), .ref (uM 9), .ref (uM 10), .int 0, .ref (uM 11), .ref (uM 12), .ref (uM 13), .int 2, .int 1000, .int 100, .int 0, .int 0, .int 0, .int 0, .ref (uM 14), .ref (uM 15), .int 0, .int 0, .int 0, .ref (uM 16)])), ((uM 1), .inl (cI, 9, .inl (fun _ => 0))), ((uM 2), .inl (cI, 9, .inl (fun _ => 0))), ((uM 3), .inl (cI, 9, .inl (fun _ => 0))), ((uM 4), .inl (cI, 9, .inl (fun _ => 0))), ((uM 5), .inl (cI, 9, .inl (fun _ => 0))), ((uM 6), .inl (cI, 9, .inl (fun _ => 0))), ((uM 7), .inl (cI, 2, .inl (fun _ => 0))), ((uM 8), .inl (cI, 16, .inl (fun _ => 0))), ((uM 9), .inl (cI, 16, .inl (fun _ => 0))), ((uM 10), .inl (cI, 16, .inl (fun _ => 0))), ((uM 11), .inl (cI, 4, .inl (fun _ => 0))), ((uM 12), .inl (cI, 4, .inl (fun _ => 0))), ((uM 13), .inl (cI, 4, .inl (fun _ => 0))), ((uM 14), .inl (cI, 9, .inl (fun _ => 0))), ((uM 15), .inl (cI, 9, .inl (fun _ => 0))), ((uM 16), .inl (cZ, 9, .inl (fun _ => 0)))]) hP hD [71] [0, 1, 2, 3, 4, 5, 6, 7, 8, 9, 10, 11, 12, 13, 14, 15, 16, 17, 18, 19, 20, 21, 22, 23, 24, 25, 26, 27, 28, 29, 30, 31, 32, 33, 34, 35, 36, 37, 38, 39, 40, 41, 42, 43, 44, 45, 46, 47, 48, 49, 50, 51, 52, 53, 54, 55, 56, 57, 58, 59, 60, 61, 62, 63, 64, 65, 66, 67, 68, 69, 70] rfl rfl (by decide) (by decide) hk1 hFc hP1 hD1
  generalize H1 = H at hP hS ⊢
  have hP : va_P D wx_cl [(qW, .inr (0, [.ref (uW 1), .ref (uW 30), .ref (uW 49), .ref (uW 68), .ref (uW 70), .int 0, .int 0])), ((uW 1), .inr (1, [.ref (uW 2), .ref (uW 3), .ref (uW 4), .ref (uW 5), .ref (uW 6), .ref (uW 7), .ref (uW 8), .ref (uW 18), .ref (uW 22), .ref (uW 26), .int 0, .int 2, .int 1000, .int 100, .int 0])), ((uW 2), .inl (cI, 9, .inl (fun _ => 0))), ((uW 3), .inl (cI, 9, .inl (fun _ => 0))), ((uW 4), .inl (cI, 9, .inl (fun _ => 0))), ((uW 5), .inl (cI, 9, .inl (fun _ => 0))), ((uW 6), .inl (cI, 9, .inl (fun _ => 0))), ((uW 7), .inl (cI, 9, .inl (fun _ => 0))), ((uW 8), .inl (cG, 9, .inr (.inr (.inr (.inr (fun i => if i < 9 then some (uW (9 + i)) else none)))))), ((uW 9), .inl (cI, 9, .inl (fun _ => 0))), ((uW 10), .inl (cI, 9, .inl (fun _ => 0))), ((uW 11), .inl (cI, 9, .inl (fun _ => 0))), ((uW 12), .inl (cI, 9, .inl (fun _ => 0))), ((uW 13), .inl (cI, 9, .inl (fun _ => 0))), ((uW 14), .inl (cI, 9, .inl (fun _ => 0))), ((uW 15), .inl (cI, 9, .inl (fun _ => 0))), ((uW 16), .inl (cI, 9, .inl (fun _ => 0))), ((uW 17), .inl (cI, 9, .inl (fun _ => 0))), ((uW 18), .inr (2, [.ref (uW 19), .ref (uW 20), .ref (uW 21), .int 0])), ((uW 19), .inl (cI, 8, .inl (fun _ => 0))), ((uW 20), .inl (cI, 8, .inl (fun _ => 0))), ((uW 21), .inl (cI, 8, .inl (fun _ => 0))), ((uW 22), .inr (2, [.ref (uW 23), .ref (uW 24), .ref (uW 25), .int 0])), ((uW 23), .inl (cI, 8, .inl (fun _ => 0))), ((uW 24), .inl (cI, 8, .inl (fun _ => 0))), ((uW 25), .inl (cI, 8, .inl (fun _ => 0))), ((uW 26), .inr (3, [.ref (uW 27), .ref (uW 28), .ref (uW 29), .int 0])), ((uW 27), .inl (cI, 4, .inl (fun _ => 0))), ((uW 28), .inl (cI, 4, .inl (fun _ => 0))), ((uW 29), .inl (cI, 4, .inl (fun _ => 0))), ((uW 30), .inr (4, [.ref (uW 1), .ref (uW 31), .ref (uW 32), .ref (uW 33), .ref (uW 34), .ref (uW 35), .ref (uW 36), .ref (uW 37), .ref (uW 38), .int 0])), ((uW 31), .inl (cI, 9, .inl (fun _ => 0))), ((uW 32), .inl (cZ, 9, .inl (fun _ => 0))), ((uW 33), .inl (cZ, 9, .inl (fun _ => 0))), ((uW 34), .inl (cI, 10, .inl (fun _ => 0))), ((uW 35), .inl (cI, 10, .inl (fun _ => 0))), ((uW 36), .inl (cI, 10, .inl (fun _ => 0))), ((uW 37), .inl (cI, 10, .inl (fun _ => 0))), ((uW 38), .inl (cG, 10, .inr (.inr (.inr (.inr (fun i => if i < 10 then some (uW (39 + i)) else none)))))), ((uW 39), .inl (cI, 4, .inl (fun _ => 0))), ((uW 40), .inl (cI, 4, .inl (fun _ => 0))), ((uW 41), .inl (cI, 4, .inl (fun _ => 0))), ((uW 42), .inl (cI, 4, .inl (fun _ => 0))), ((uW 43), .inl (cI, 4, .inl (fun _ => 0))), ((uW 44), .inl (cI, 4, .inl (fun _ => 0))), ((uW 45), .inl (cI, 4, .inl (fun _ => 0))), ((uW 46), .inl (cI, 4, .inl (fun _ => 0))), ((uW 47), .inl (cI, 4, .inl (fun _ => 0))), ((uW 48), .inl (cI, 4, .inl (fun _ => 0))), ((uW 49), .inr (4, [.ref (uW 1), .ref (uW 50), .ref (uW 51), .ref (uW 52), .ref (uW 53), .ref (uW 54), .ref (uW 55), .ref (uW 56), .ref (uW 57), .int 0])), ((uW 50), .inl (cI, 9, .inl (fun _ => 0))), ((uW 51), .inl (cZ, 9, .inl (fun _ => 0))), ((uW 52), .inl (cZ, 9, .inl (fun _ => 0))), ((uW 53), .inl (cI, 10, .inl (fun _ => 0))), ((uW 54), .inl (cI, 10, .inl (fun _ => 0))), ((uW 55), .inl (cI, 10, .inl (fun _ => 0))), ((uW 56), .inl (cI, 10, .inl (fun _ => 0))), ((uW 57), .inl (cG, 10, .inr (.inr (.inr (.inr (fun i => if i < 10 then some (uW (58 + i)) else none)))))), ((uW 58), .inl (cI, 4, .inl (fun _ => 0))), ((uW 59), .inl (cI, 4, .inl (fun _ => 0))), ((uW 60), .inl (cI, 4, .inl (fun _ => 0))), ((uW 61), .inl (cI, 4, .inl (fun _ => 0))), ((uW 62), .inl (cI, 4, .inl (fun _ => 0))), ((uW 63), .inl (cI, 4, .inl (fun _ => 0))), ((uW 64), .inl (cI, 4, .inl (fun _ => 0))), ((uW 65), .inl (cI, 4, .inl (fun _ => 0))), ((uW 66), .inl (cI, 4, .inl (fun _ => 0))), ((uW 67), .inl (cI, 4, .inl (fun _ => 0))), ((uW 68), .inr (5, [.ref (uW 1), .ref (uW 30), .ref (uW 69), .int 0, .int 0, .int 0, .int 0])), ((uW 69), .inl (cI, 9, .inl (fun _ => 0))), ((uW 70), .inl (cI, 9, .inl (fun _ => 0))), (qM, .inr (6, [.int 0, .int 0, .ref (uM 1), .ref (uM 2), .ref (uM 3), .ref (uM 4), .ref (uM 5), .ref (uM 6), .ref (uM 7), .ref (uM 8), .ref (uM 9), .ref (uM 10), .int 0, .ref (uM 11), .ref (uM 12), .ref (uM 13), .int 2, .int 1000, .int 100, .int 0, .int 0, .int 0, .int 0, .ref (uM 14), .ref (uM 15), .int 0, .int 0, .int 0, .ref (uM 16)])), ((uM 1), .inl (cI, 9, .inl (fun _ => 0))), ((uM 2), .inl (cI, 9, .inl (fun _ => 0))), ((uM 3), .inl (cI, 9, .inl (fun _ => 0))), ((uM 4), .inl (cI, 9, .inl (fun _ => 0))), ((uM 5), .inl (cI, 9, .inl (fun _ => 0))), ((uM 6), .inl (cI, 9, .inl (fun _ => 0))), ((uM 7), .inl (cI, 2, .inl (fun _ => 0))), ((uM 8), .inl (cI, 16, .inl (fun _ => 0))), ((uM 9), .inl (cI, 16, .inl (fun _ => 0))), ((uM 10), .inl (cI, 16, .inl (fun _ => 0))), ((uM 11), .inl (cI, 4, .inl (fun _ => 0))), ((uM 12), .inl (cI, 4, .inl (fun _ => 0))), ((uM 13), .inl (cI, 4, .inl (fun _ => 0))), ((uM 14), .inl (cI, 9, .inl (fun _ => 0))), ((uM 15), .inl (cI, 9, .inl (fun _ => 0))), ((uM 16), .inl (cZ, 9, .inl (fun _ => 0)))] H := hP
  have hD : va_D (fun q : Nat => s.heap.size ≤ q) [(qW, .inr (0, [.ref (uW 1), .ref (uW 30), .ref (uW 49), .ref (uW 68), .ref (uW 70), .int 0, .int 0])), ((uW 1), .inr (1, [.ref (uW 2), .ref (uW 3), .ref (uW 4), .ref (uW 5), .ref (uW 6), .ref (uW 7), .ref (uW 8), .ref (uW 18), .ref (uW 22), .ref (uW 26), .int 0, .int 2, .int 1000, .int 100, .int 0])), ((uW 2), .inl (cI, 9, .inl (fun _ => 0))), ((uW 3), .inl (cI, 9, .inl (fun _ => 0))), ((uW 4), .inl (cI, 9, .inl (fun _ => 0))), ((uW 5), .inl (cI, 9, .inl (fun _ => 0))), ((uW 6), .inl (cI, 9, .inl (fun _ => 0))), ((uW 7), .inl (cI, 9, .inl (fun _ => 0))), ((uW 8), .inl (cG, 9, .inr (.inr (.inr (.inr (fun i => if i < 9 then some (uW (9 + i)) else none)))))), ((uW 9), .inl (cI, 9, .inl (fun _ => 0))), ((uW 10), .inl (cI, 9, .inl (fun _ => 0))), ((uW 11), .inl (cI, 9, .inl (fun _ => 0))), ((uW 12), .inl (cI, 9, .inl (fun _ => 0))), ((uW 13), .inl (cI, 9, .inl (fun _ => 0))), ((uW 14), .inl (cI, 9, .inl (fun _ => 0))), ((uW 15), .inl (cI, 9, .inl (fun _ => 0))), ((uW 16), .inl (cI, 9, .inl (fun _ => 0))), ((uW 17), .inl (cI, 9, .inl (fun _ => 0))), ((uW 18), .inr (2, [.ref (uW 19), .ref (uW 20), .ref (uW 21), .int 0])), ((uW 19), .inl (cI, 8, .inl (fun _ => 0))), ((uW 20), .inl (cI, 8, .inl (fun _ => 0))), ((uW 21), .inl (cI, 8, .inl (fun _ => 0))), ((uW 22), .inr (2, [.ref (uW 23), .ref (uW 24), .ref (uW 25), .int 0])), ((uW 23), .inl (cI, 8, .inl (fun _ => 0))), ((uW 24), .inl (cI, 8, .inl (fun _ => 0))), ((uW 25), .inl (cI, 8, .inl (fun _ => 0))), ((uW 26), .inr (3, [.ref (uW 27), .ref (uW 28), .ref (uW 29), .int 0])), ((uW 27), .inl (cI, 4, .inl (fun _ => 0))), ((uW 28), .inl (cI, 4, .inl (fun _ => 0))), ((uW 29), .inl (cI, 4, .inl (fun _ => 0))), ((uW 30), .inr (4, [.ref (uW 1), .ref (uW 31), .ref (uW 32), .ref (uW 33), .ref (uW 34), .ref (uW 35), .ref (uW 36), .ref (uW 37), .ref (uW 38), .int 0])), ((uW 31), .inl (cI, 9, .inl (fun _ => 0))), ((uW 32), .inl (cZ, 9, .inl (fun _ => 0))), ((uW 33), .inl (cZ, 9, .inl (fun _ => 0))), ((uW 34), .inl (cI, 10, .inl (fun _ => 0))), ((uW 35), .inl (cI, 10, .inl (fun _ => 0))), ((uW 36), .inl (cI, 10, .inl (fun _ => 0))), ((uW 37), .inl (cI, 10, .inl (fun _ => 0))), ((uW 38), .inl (cG, 10, .inr (.inr (.inr (.inr (fun i => if i < 10 then some (uW (39 + i)) else none)))))), ((uW 39), .inl (cI, 4, .inl (fun _ => 0))), ((uW 40), .inl (cI, 4, .inl (fun _ => 0))), ((uW 41), .inl (cI, 4, .inl (fun _ => 0))), ((uW 42), .inl (cI, 4, .inl (fun _ => 0))), ((uW 43), .inl (cI, 4, .inl (fun _ => 0))), ((uW 44), .inl (cI, 4, .inl (fun _ => 0))), ((uW 45), .inl (cI, 4, .inl (fun _ => 0))), ((uW 46), .inl (cI, 4, .inl (fun _ => 0))), ((uW 47), .inl (cI, 4, .inl (fun _ => 0))), ((uW 48), .inl (cI, 4, .inl (fun _ => 0))), ((uW 49), .inr (4, [.ref (uW 1), .ref (uW 50), .ref (uW 51), .ref (uW 52), .ref (uW 53), .ref (uW 54), .ref (uW 55), .ref (uW 56), .ref (uW 57), .int 0])), ((uW 50), .inl (cI, 9, .inl (fun _ => 0))), ((uW 51), .inl (cZ, 9, .inl (fun _ => 0))), ((uW 52), .inl (cZ, 9, .inl (fun _ => 0))), ((uW 53), .inl (cI, 10, .inl (fun _ => 0))), ((uW 54), .inl (cI, 10, .inl (fun _ => 0))), ((uW 55), .inl (cI, 10, .inl (fun _ => 0))), ((uW 56), .inl (cI, 10, .inl (fun _ => 0))), ((uW 57), .inl (cG, 10, .inr (.inr (.inr (.inr (fun i => if i < 10 then some (uW (58 + i)) else none)))))), ((uW 58), .inl (cI, 4, .inl (fun _ => 0))), ((uW 59), .inl (cI, 4, .inl (fun _ => 0))), ((uW 60), .inl (cI, 4, .inl (fun _ => 0))), ((uW 61), .inl (cI, 4, .inl (fun _ => 0))), ((uW 62), .inl (cI, 4, .inl (fun _ => 0))), ((uW 63), .inl (cI, 4, .inl (fun _ => 0))), ((uW 64), .inl (cI, 4, .inl (fun _ => 0))), ((uW 65), .inl (cI, 4, .inl (fun _ => 0))), ((uW 66), .inl (cI, 4, .inl (fun _ => 0))), ((uW 67), .inl (cI, 4, .inl (fun _ => 0))), ((uW 68), .inr (5, [.ref (uW 1), .ref (uW 30), .ref (uW 69), .int 0, .int 0, .int 0, .int 0])), ((uW 69), .inl (cI, 9, .inl (fun _ => 0))), ((uW 70), .inl (cI, 9, .inl (fun _ => 0))), (qM, .inr (6, [.int 0, .int 0, .ref (uM 1), .ref (uM 2), .ref (uM 3), .ref (uM 4), .ref (uM 5), .ref (uM 6), .ref (uM 7), .ref (uM 8), .ref (uM 9), .ref (uM 10), .int 0, .ref (uM 11), .ref (uM 12), .ref (uM 13), .int 2, .int 1000, .int 100, .int 0, .int 0, .int 0, .int 0, .ref (uM 14), .ref (uM 15), .int 0, .int 0, .int 0, .ref (uM 16)])), ((uM 1), .inl (cI, 9, .inl (fun _ => 0))), ((uM 2), .inl (cI, 9, .inl (fun _ => 0))), ((uM 3), .inl (cI, 9, .inl (fun _ => 0))), ((uM 4), .inl (cI, 9, .inl (fun _ => 0))), ((uM 5), .inl (cI, 9, .inl (fun _ => 0))), ((uM 6), .inl (cI, 9, .inl (fun _ => 0))), ((uM 7), .inl (cI, 2, .inl (fun _ => 0))), ((uM 8), .inl (cI, 16, .inl (fun _ => 0))), ((uM 9), .inl (cI, 16, .inl (fun _ => 0))), ((uM 10), .inl (cI, 16, .inl (fun _ => 0))), ((uM 11), .inl (cI, 4, .inl (fun _ => 0))), ((uM 12), .inl (cI, 4, .inl (fun _ => 0))), ((uM 13), .inl (cI, 4, .inl (fun _ => 0))), ((uM 14), .inl (cI, 9, .inl (fun _ => 0))), ((uM 15), .inl (cI, 9, .inl (fun _ => 0))), ((uM 16), .inl (cZ, 9, .inl (fun _ => 0)))] := hD
  refine W.widen (k := 88) (n := 689) (by omega) (by omega) ?_
  refine lv_astore_n (lv' := [(2, .ref qM), (1, .ref qW), (0, .ref b)]) hx hb wd_K_law_15 rfl hl (by decide) rfl (fun ls hl => ?_)
  refine lv_iconst (v := 1) hx hb wd_K_law_16 (by decide) ?_
  refine wn_newJ (N' := 1) hx hb hts wt_836 hK hP hD hS hA (by decide) rfl (Nat.le_of_ble_eq_true rfl) (Nat.le_of_ble_eq_true rfl) (Nat.le_of_ble_eq_true rfl) wd_K_law_17 (fun qo H hP hD hS => ?_)
  have hP : va_P D wx_cl [(qW, .inr (0, [.ref (uW 1), .ref (uW 30), .ref (uW 49), .ref (uW 68), .ref (uW 70), .int 0, .int 0])), ((uW 1), .inr (1, [.ref (uW 2), .ref (uW 3), .ref (uW 4), .ref (uW 5), .ref (uW 6), .ref (uW 7), .ref (uW 8), .ref (uW 18), .ref (uW 22), .ref (uW 26), .int 0, .int 2, .int 1000, .int 100, .int 0])), ((uW 2), .inl (cI, 9, .inl (fun _ => 0))), ((uW 3), .inl (cI, 9, .inl (fun _ => 0))), ((uW 4), .inl (cI, 9, .inl (fun _ => 0))), ((uW 5), .inl (cI, 9, .inl (fun _ => 0))), ((uW 6), .inl (cI, 9, .inl (fun _ => 0))), ((uW 7), .inl (cI, 9, .inl (fun _ => 0))), ((uW 8), .inl (cG, 9, .inr (.inr (.inr (.inr (fun i => if i < 9 then some (uW (9 + i)) else none)))))), ((uW 9), .inl (cI, 9, .inl (fun _ => 0))), ((uW 10), .inl (cI, 9, .inl (fun _ => 0))), ((uW 11), .inl (cI, 9, .inl (fun _ => 0))), ((uW 12), .inl (cI, 9, .inl (fun _ => 0))), ((uW 13), .inl (cI, 9, .inl (fun _ => 0))), ((uW 14), .inl (cI, 9, .inl (fun _ => 0))), ((uW 15), .inl (cI, 9, .inl (fun _ => 0))), ((uW 16), .inl (cI, 9, .inl (fun _ => 0))), ((uW 17), .inl (cI, 9, .inl (fun _ => 0))), ((uW 18), .inr (2, [.ref (uW 19), .ref (uW 20), .ref (uW 21), .int 0])), ((uW 19), .inl (cI, 8, .inl (fun _ => 0))), ((uW 20), .inl (cI, 8, .inl (fun _ => 0))), ((uW 21), .inl (cI, 8, .inl (fun _ => 0))), ((uW 22), .inr (2, [.ref (uW 23), .ref (uW 24), .ref (uW 25), .int 0])), ((uW 23), .inl (cI, 8, .inl (fun _ => 0))), ((uW 24), .inl (cI, 8, .inl (fun _ => 0))), ((uW 25), .inl (cI, 8, .inl (fun _ => 0))), ((uW 26), .inr (3, [.ref (uW 27), .ref (uW 28), .ref (uW 29), .int 0])), ((uW 27), .inl (cI, 4, .inl (fun _ => 0))), ((uW 28), .inl (cI, 4, .inl (fun _ => 0))), ((uW 29), .inl (cI, 4, .inl (fun _ => 0))), ((uW 30), .inr (4, [.ref (uW 1), .ref (uW 31), .ref (uW 32), .ref (uW 33), .ref (uW 34), .ref (uW 35), .ref (uW 36), .ref (uW 37), .ref (uW 38), .int 0])), ((uW 31), .inl (cI, 9, .inl (fun _ => 0))), ((uW 32), .inl (cZ, 9, .inl (fun _ => 0))), ((uW 33), .inl (cZ, 9, .inl (fun _ => 0))), ((uW 34), .inl (cI, 10, .inl (fun _ => 0))), ((uW 35), .inl (cI, 10, .inl (fun _ => 0))), ((uW 36), .inl (cI, 10, .inl (fun _ => 0))), ((uW 37), .inl (cI, 10, .inl (fun _ => 0))), ((uW 38), .inl (cG, 10, .inr (.inr (.inr (.inr (fun i => if i < 10 then some (uW (39 + i)) else none)))))), ((uW 39), .inl (cI, 4, .inl (fun _ => 0))), ((uW 40), .inl (cI, 4, .inl (fun _ => 0))), ((uW 41), .inl (cI, 4, .inl (fun _ => 0))), ((uW 42), .inl (cI, 4, .inl (fun _ => 0))), ((uW 43), .inl (cI, 4, .inl (fun _ => 0))), ((uW 44), .inl (cI, 4, .inl (fun _ => 0))), ((uW 45), .inl (cI, 4, .inl (fun _ => 0))), ((uW 46), .inl (cI, 4, .inl (fun _ => 0))), ((uW 47), .inl (cI, 4, .inl (fun _ => 0))), ((uW 48), .inl (cI, 4, .inl (fun _ => 0))), ((uW 49), .inr (4, [.ref (uW 1), .ref (uW 50), .ref (uW 51), .ref (uW 52), .ref (uW 53), .ref (uW 54), .ref (uW 55), .ref (uW 56), .ref (uW 57), .int 0])), ((uW 50), .inl (cI, 9, .inl (fun _ => 0))), ((uW 51), .inl (cZ, 9, .inl (fun _ => 0))), ((uW 52), .inl (cZ, 9, .inl (fun _ => 0))), ((uW 53), .inl (cI, 10, .inl (fun _ => 0))), ((uW 54), .inl (cI, 10, .inl (fun _ => 0))), ((uW 55), .inl (cI, 10, .inl (fun _ => 0))), ((uW 56), .inl (cI, 10, .inl (fun _ => 0))), ((uW 57), .inl (cG, 10, .inr (.inr (.inr (.inr (fun i => if i < 10 then some (uW (58 + i)) else none)))))), ((uW 58), .inl (cI, 4, .inl (fun _ => 0))), ((uW 59), .inl (cI, 4, .inl (fun _ => 0))), ((uW 60), .inl (cI, 4, .inl (fun _ => 0))), ((uW 61), .inl (cI, 4, .inl (fun _ => 0))), ((uW 62), .inl (cI, 4, .inl (fun _ => 0))), ((uW 63), .inl (cI, 4, .inl (fun _ => 0))), ((uW 64), .inl (cI, 4, .inl (fun _ => 0))), ((uW 65), .inl (cI, 4, .inl (fun _ => 0))), ((uW 66), .inl (cI, 4, .inl (fun _ => 0))), ((uW 67), .inl (cI, 4, .inl (fun _ => 0))), ((uW 68), .inr (5, [.ref (uW 1), .ref (uW 30), .ref (uW 69), .int 0, .int 0, .int 0, .int 0])), ((uW 69), .inl (cI, 9, .inl (fun _ => 0))), ((uW 70), .inl (cI, 9, .inl (fun _ => 0))), (qM, .inr (6, [.int 0, .int 0, .ref (uM 1), .ref (uM 2), .ref (uM 3), .ref (uM 4), .ref (uM 5), .ref (uM 6), .ref (uM 7), .ref (uM 8), .ref (uM 9), .ref (uM 10), .int 0, .ref (uM 11), .ref (uM 12), .ref (uM 13), .int 2, .int 1000, .int 100, .int 0, .int 0, .int 0, .int 0, .ref (uM 14), .ref (uM 15), .int 0, .int 0, .int 0, .ref (uM 16)])), ((uM 1), .inl (cI, 9, .inl (fun _ => 0))), ((uM 2), .inl (cI, 9, .inl (fun _ => 0))), ((uM 3), .inl (cI, 9, .inl (fun _ => 0))), ((uM 4), .inl (cI, 9, .inl (fun _ => 0))), ((uM 5), .inl (cI, 9, .inl (fun _ => 0))), ((uM 6), .inl (cI, 9, .inl (fun _ => 0))), ((uM 7), .inl (cI, 2, .inl (fun _ => 0))), ((uM 8), .inl (cI, 16, .inl (fun _ => 0))), ((uM 9), .inl (cI, 16, .inl (fun _ => 0))), ((uM 10), .inl (cI, 16, .inl (fun _ => 0))), ((uM 11), .inl (cI, 4, .inl (fun _ => 0))), ((uM 12), .inl (cI, 4, .inl (fun _ => 0))), ((uM 13), .inl (cI, 4, .inl (fun _ => 0))), ((uM 14), .inl (cI, 9, .inl (fun _ => 0))), ((uM 15), .inl (cI, 9, .inl (fun _ => 0))), ((uM 16), .inl (cZ, 9, .inl (fun _ => 0))), (qo, .inl (cJ, 1, .inr (.inl (fun _ => 0))))] H := hP
  have hD : va_D (fun q : Nat => s.heap.size ≤ q) [(qW, .inr (0, [.ref (uW 1), .ref (uW 30), .ref (uW 49), .ref (uW 68), .ref (uW 70), .int 0, .int 0])), ((uW 1), .inr (1, [.ref (uW 2), .ref (uW 3), .ref (uW 4), .ref (uW 5), .ref (uW 6), .ref (uW 7), .ref (uW 8), .ref (uW 18), .ref (uW 22), .ref (uW 26), .int 0, .int 2, .int 1000, .int 100, .int 0])), ((uW 2), .inl (cI, 9, .inl (fun _ => 0))), ((uW 3), .inl (cI, 9, .inl (fun _ => 0))), ((uW 4), .inl (cI, 9, .inl (fun _ => 0))), ((uW 5), .inl (cI, 9, .inl (fun _ => 0))), ((uW 6), .inl (cI, 9, .inl (fun _ => 0))), ((uW 7), .inl (cI, 9, .inl (fun _ => 0))), ((uW 8), .inl (cG, 9, .inr (.inr (.inr (.inr (fun i => if i < 9 then some (uW (9 + i)) else none)))))), ((uW 9), .inl (cI, 9, .inl (fun _ => 0))), ((uW 10), .inl (cI, 9, .inl (fun _ => 0))), ((uW 11), .inl (cI, 9, .inl (fun _ => 0))), ((uW 12), .inl (cI, 9, .inl (fun _ => 0))), ((uW 13), .inl (cI, 9, .inl (fun _ => 0))), ((uW 14), .inl (cI, 9, .inl (fun _ => 0))), ((uW 15), .inl (cI, 9, .inl (fun _ => 0))), ((uW 16), .inl (cI, 9, .inl (fun _ => 0))), ((uW 17), .inl (cI, 9, .inl (fun _ => 0))), ((uW 18), .inr (2, [.ref (uW 19), .ref (uW 20), .ref (uW 21), .int 0])), ((uW 19), .inl (cI, 8, .inl (fun _ => 0))), ((uW 20), .inl (cI, 8, .inl (fun _ => 0))), ((uW 21), .inl (cI, 8, .inl (fun _ => 0))), ((uW 22), .inr (2, [.ref (uW 23), .ref (uW 24), .ref (uW 25), .int 0])), ((uW 23), .inl (cI, 8, .inl (fun _ => 0))), ((uW 24), .inl (cI, 8, .inl (fun _ => 0))), ((uW 25), .inl (cI, 8, .inl (fun _ => 0))), ((uW 26), .inr (3, [.ref (uW 27), .ref (uW 28), .ref (uW 29), .int 0])), ((uW 27), .inl (cI, 4, .inl (fun _ => 0))), ((uW 28), .inl (cI, 4, .inl (fun _ => 0))), ((uW 29), .inl (cI, 4, .inl (fun _ => 0))), ((uW 30), .inr (4, [.ref (uW 1), .ref (uW 31), .ref (uW 32), .ref (uW 33), .ref (uW 34), .ref (uW 35), .ref (uW 36), .ref (uW 37), .ref (uW 38), .int 0])), ((uW 31), .inl (cI, 9, .inl (fun _ => 0))), ((uW 32), .inl (cZ, 9, .inl (fun _ => 0))), ((uW 33), .inl (cZ, 9, .inl (fun _ => 0))), ((uW 34), .inl (cI, 10, .inl (fun _ => 0))), ((uW 35), .inl (cI, 10, .inl (fun _ => 0))), ((uW 36), .inl (cI, 10, .inl (fun _ => 0))), ((uW 37), .inl (cI, 10, .inl (fun _ => 0))), ((uW 38), .inl (cG, 10, .inr (.inr (.inr (.inr (fun i => if i < 10 then some (uW (39 + i)) else none)))))), ((uW 39), .inl (cI, 4, .inl (fun _ => 0))), ((uW 40), .inl (cI, 4, .inl (fun _ => 0))), ((uW 41), .inl (cI, 4, .inl (fun _ => 0))), ((uW 42), .inl (cI, 4, .inl (fun _ => 0))), ((uW 43), .inl (cI, 4, .inl (fun _ => 0))), ((uW 44), .inl (cI, 4, .inl (fun _ => 0))), ((uW 45), .inl (cI, 4, .inl (fun _ => 0))), ((uW 46), .inl (cI, 4, .inl (fun _ => 0))), ((uW 47), .inl (cI, 4, .inl (fun _ => 0))), ((uW 48), .inl (cI, 4, .inl (fun _ => 0))), ((uW 49), .inr (4, [.ref (uW 1), .ref (uW 50), .ref (uW 51), .ref (uW 52), .ref (uW 53), .ref (uW 54), .ref (uW 55), .ref (uW 56), .ref (uW 57), .int 0])), ((uW 50), .inl (cI, 9, .inl (fun _ => 0))), ((uW 51), .inl (cZ, 9, .inl (fun _ => 0))), ((uW 52), .inl (cZ, 9, .inl (fun _ => 0))), ((uW 53), .inl (cI, 10, .inl (fun _ => 0))), ((uW 54), .inl (cI, 10, .inl (fun _ => 0))), ((uW 55), .inl (cI, 10, .inl (fun _ => 0))), ((uW 56), .inl (cI, 10, .inl (fun _ => 0))), ((uW 57), .inl (cG, 10, .inr (.inr (.inr (.inr (fun i => if i < 10 then some (uW (58 + i)) else none)))))), ((uW 58), .inl (cI, 4, .inl (fun _ => 0))), ((uW 59), .inl (cI, 4, .inl (fun _ => 0))), ((uW 60), .inl (cI, 4, .inl (fun _ => 0))), ((uW 61), .inl (cI, 4, .inl (fun _ => 0))), ((uW 62), .inl (cI, 4, .inl (fun _ => 0))), ((uW 63), .inl (cI, 4, .inl (fun _ => 0))), ((uW 64), .inl (cI, 4, .inl (fun _ => 0))), ((uW 65), .inl (cI, 4, .inl (fun _ => 0))), ((uW 66), .inl (cI, 4, .inl (fun _ => 0))), ((uW 67), .inl (cI, 4, .inl (fun _ => 0))), ((uW 68), .inr (5, [.ref (uW 1), .ref (uW 30), .ref (uW 69), .int 0, .int 0, .int 0, .int 0])), ((uW 69), .inl (cI, 9, .inl (fun _ => 0))), ((uW 70), .inl (cI, 9, .inl (fun _ => 0))), (qM, .inr (6, [.int 0, .int 0, .ref (uM 1), .ref (uM 2), .ref (uM 3), .ref (uM 4), .ref (uM 5), .ref (uM 6), .ref (uM 7), .ref (uM 8), .ref (uM 9), .ref (uM 10), .int 0, .ref (uM 11), .ref (uM 12), .ref (uM 13), .int 2, .int 1000, .int 100, .int 0, .int 0, .int 0, .int 0, .ref (uM 14), .ref (uM 15), .int 0, .int 0, .int 0, .ref (uM 16)])), ((uM 1), .inl (cI, 9, .inl (fun _ => 0))), ((uM 2), .inl (cI, 9, .inl (fun _ => 0))), ((uM 3), .inl (cI, 9, .inl (fun _ => 0))), ((uM 4), .inl (cI, 9, .inl (fun _ => 0))), ((uM 5), .inl (cI, 9, .inl (fun _ => 0))), ((uM 6), .inl (cI, 9, .inl (fun _ => 0))), ((uM 7), .inl (cI, 2, .inl (fun _ => 0))), ((uM 8), .inl (cI, 16, .inl (fun _ => 0))), ((uM 9), .inl (cI, 16, .inl (fun _ => 0))), ((uM 10), .inl (cI, 16, .inl (fun _ => 0))), ((uM 11), .inl (cI, 4, .inl (fun _ => 0))), ((uM 12), .inl (cI, 4, .inl (fun _ => 0))), ((uM 13), .inl (cI, 4, .inl (fun _ => 0))), ((uM 14), .inl (cI, 9, .inl (fun _ => 0))), ((uM 15), .inl (cI, 9, .inl (fun _ => 0))), ((uM 16), .inl (cZ, 9, .inl (fun _ => 0))), (qo, .inl (cJ, 1, .inr (.inl (fun _ => 0))))] := hD
  refine lv_astore_n (lv' := [(3, .ref qo), (2, .ref qM), (1, .ref qW), (0, .ref b)]) hx hb wd_K_law_19 rfl hl (by decide) rfl (fun ls hl => ?_)
  refine lv_iconst (v := 0) hx hb wd_K_law_20 (by decide) ?_
  refine lv_istore (lv' := [(4, .int 0), (3, .ref qo), (2, .ref qM), (1, .ref qW), (0, .ref b)]) hx hb wd_K_law_21 hl (by decide) rfl (fun ls hl => ?_)
  obtain ⟨ad, had⟩ : ∃ ad : Nat → Nat, ad = (fun k => if k = 0 then qW else if k < 71 then uW k else if k = 71 then qM else if k < 88 then uM (k - 71) else qo) := ⟨_, rfl⟩
  have hg9 : (fun i : Nat => if i < 9 then some (uW (9 + i)) else none) = (fun i : Nat => if i < 9 then some (ad (9 + i)) else none) := by
    funext i
    subst had
    rcases Nat.lt_or_ge i 9 with h | h
    · rcases (show i = 0 ∨ i = 1 ∨ i = 2 ∨ i = 3 ∨ i = 4 ∨ i = 5 ∨ i = 6 ∨ i = 7 ∨ i = 8 by omega) with rfl | rfl | rfl | rfl | rfl | rfl | rfl | rfl | rfl <;> rfl
    · rw [if_neg (Nat.not_lt.mpr h), if_neg (Nat.not_lt.mpr h)]
  have hg39 : (fun i : Nat => if i < 10 then some (uW (39 + i)) else none) = (fun i : Nat => if i < 10 then some (ad (39 + i)) else none) := by
    funext i
    subst had
    rcases Nat.lt_or_ge i 10 with h | h
    · rcases (show i = 0 ∨ i = 1 ∨ i = 2 ∨ i = 3 ∨ i = 4 ∨ i = 5 ∨ i = 6 ∨ i = 7 ∨ i = 8 ∨ i = 9 by omega) with rfl | rfl | rfl | rfl | rfl | rfl | rfl | rfl | rfl | rfl <;> rfl
    · rw [if_neg (Nat.not_lt.mpr h), if_neg (Nat.not_lt.mpr h)]
  have hg58 : (fun i : Nat => if i < 10 then some (uW (58 + i)) else none) = (fun i : Nat => if i < 10 then some (ad (58 + i)) else none) := by
    funext i
    subst had
    rcases Nat.lt_or_ge i 10 with h | h
    · rcases (show i = 0 ∨ i = 1 ∨ i = 2 ∨ i = 3 ∨ i = 4 ∨ i = 5 ∨ i = 6 ∨ i = 7 ∨ i = 8 ∨ i = 9 by omega) with rfl | rfl | rfl | rfl | rfl | rfl | rfl | rfl | rfl | rfl <;> rfl
    · rw [if_neg (Nat.not_lt.mpr h), if_neg (Nat.not_lt.mpr h)]
  rw [hg9, hg39, hg58] at hP hD
  have hP2 : va_P D wx_cl (wx_W ad cI cZ cJ cG wc_0) H := hP.sub (List.range 89) (by subst had; rfl)
  have hD2 : va_D (fun q : Nat => s.heap.size ≤ q) (wx_W ad cI cZ cJ cG wc_0) := hD.sub (List.range 89) (by decide) (by subst had; rfl)
  refine W.widen (k := 90 + 2 * 0 + 0) (n := 700 + 12 * 0 + 0) (by omega) (by omega) ?_
  have e0 : ad 0 = qW := by rw [had]; rfl
  have e1 : ad 71 = qM := by rw [had]; rfl
  have e2 : ad 88 = qo := by rw [had]; rfl
  rw [← e0, ← e1, ← e2] at hl
  obtain ⟨res, hf, hres⟩ := hrun
  exact law_loop l htr C0 D ad cI cZ cJ cG hK hC res hres 600 0 0 wc_0 hf _ _ _ hP2 hD2 hS (lv_sub hl [4, 3, 2, 1, 0] rfl)
