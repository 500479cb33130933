set_option maxHeartbeats 8000000 in
set_option maxRecDepth 100000 in
theorem law_loop {p : Program} {e : Env} {s : State} {m : MethodId} {below : List Frame} {meth : Method} {c : Code} (l : Launch) (htr : l.stackTraces = false) {b L : Nat} {xs : Nat → Int32} (C0 : lw_At p s m meth c b L xs) (D : va_G) (ad : Nat → Nat) (cI cZ cJ cG : ClassId) (hK : va_K D wx_cl (wx_ty cI cZ cJ cG) s) (hC : wx_C (fun q : Nat => s.heap.size ≤ q) s s.heap) (res : Int32 × wc_S) (hres : res.1 = 1) : ∀ (n t : Nat) (x4 : Int32) (σ : wc_S), wf_law_23 L xs n t x4 σ = some res → wx_Arr p l e room_1 s m #[Value.ref b] below meth c D ad cI cZ cJ cG (fun q : Nat => s.heap.size ≤ q) (lw_Z below #[Value.ref b] s) 7 (90 + 2 * t + 0) (700 + 12 * t + 0) 23 [(0, .ref b), (1, .ref (ad 0)), (2, .ref (ad 71)), (3, .ref (ad 88)), (4, .int x4)] [] σ := by
  obtain ⟨hx, hb, hr, hml, hown, hts0, hX, hbl, hlocks, hgv⟩ := id C0
  have hA : ∀ q : Nat, s.heap.size ≤ q → (fun q : Nat => s.heap.size ≤ q) q := fun _ h => h
  have hbA : ¬ (fun q : Nat => s.heap.size ≤ q) b := Nat.not_le.mpr hbl
  have hts : ∀ w ∈ (.initialized "WidthCampaignsLaw" : Cond) :: wx_all, w.before #[Value.ref b] s = true := wl_hts hts0 wt_0
  have hown : s.vm.findClass "WidthCampaignsLaw" = some m.cls := hown
  have J1031 : ∀ (k23 : Nat → Int32 → wc_S → Option (Int32 × wc_S)) (hk23 : (∀ (t : Nat) (x4 : Int32) (σ : wc_S), k23 t x4 σ = some res → wx_Arr p l e room_1 s m #[Value.ref b] below meth c D ad cI cZ cJ cG (fun q : Nat => s.heap.size ≤ q) (lw_Z below #[Value.ref b] s) 7 (90 + 2 * t + 0) (700 + 12 * t + 0) 23 [(0, .ref b), (1, .ref (ad 0)), (2, .ref (ad 71)), (3, .ref (ad 88)), (4, .int x4)] [] σ)) (t : Nat) (x4 : Int32) (σ : wc_S), wf_law_1031 L xs k23 t x4 σ = some res → t < 600 → wx_Arr p l e room_1 s m #[Value.ref b] below meth c D ad cI cZ cJ cG (fun q : Nat => s.heap.size ≤ q) (lw_Z below #[Value.ref b] s) 7 (90 + 2 * t + 2) (700 + 12 * t + 12) 1031 [(0, .ref b), (1, .ref (ad 0)), (2, .ref (ad 71)), (3, .ref (ad 88)), (4, .int x4)] [] σ := by
    intro k23 hk23 t x4 σ hf htt H locs ls hP hD hS hl
    unfold wf_law_1031 at hf
    obtain ⟨v39, ev39⟩ : ∃ y : Int32, y = x4 + 5 := ⟨_, rfl⟩
    have hf := wc_st_e ev39 hf
    refine lv_iinc (v := v39) (lv' := [(4, .int v39), (0, .ref b), (1, .ref (ad 0)), (2, .ref (ad 71)), (3, .ref (ad 88))]) hx hb wd_K_law_1031 hl (k := 4) rfl (by rw [ev39]; rfl) (by decide) rfl (fun ls hl => ?_)
    refine lv_goto (tgt := 23) hx hb wd_K_law_1034 (by decide) ?_
    refine W.widen (k := 90 + 2 * (t + 1)) (n := 700 + 12 * (t + 1)) (by omega) (by omega) ?_
    exact hk23 (t + 1) v39 σ hf _ _ _ hP hD hS (lv_sub hl [1, 2, 3, 4, 0] rfl)
  have J112 : ∀ (k23 : Nat → Int32 → wc_S → Option (Int32 × wc_S)) (hk23 : (∀ (t : Nat) (x4 : Int32) (σ : wc_S), k23 t x4 σ = some res → wx_Arr p l e room_1 s m #[Value.ref b] below meth c D ad cI cZ cJ cG (fun q : Nat => s.heap.size ≤ q) (lw_Z below #[Value.ref b] s) 7 (90 + 2 * t + 0) (700 + 12 * t + 0) 23 [(0, .ref b), (1, .ref (ad 0)), (2, .ref (ad 71)), (3, .ref (ad 88)), (4, .int x4)] [] σ)) (t : Nat) (x4 : Int32) (σ : wc_S), wf_law_112 L xs k23 t x4 σ = some res → t < 600 → wx_Arr p l e room_1 s m #[Value.ref b] below meth c D ad cI cZ cJ cG (fun q : Nat => s.heap.size ≤ q) (lw_Z below #[Value.ref b] s) 7 (90 + 2 * t + 0) (700 + 12 * t + 0) 112 [(0, .ref b), (1, .ref (ad 0)), (2, .ref (ad 71)), (3, .ref (ad 88)), (4, .int x4)] [] σ := by
    intro k23 hk23 t x4 σ hf htt H locs ls hP hD hS hl
    unfold wf_law_112 at hf
    refine lv_aload_n hx hb wd_K_law_112 rfl (lv_at hl 1 rfl) ?_
    refine lv_aload_n hx hb wd_K_law_113 rfl (lv_at hl 0 rfl) ?_
    refine lv_iload hx hb wd_K_law_114 (lv_at hl 4 rfl) ?_
    refine lv_iconst (v := 1) hx hb wd_K_law_116 (by decide) ?_
    refine lv_iadd hx hb wd_K_law_117 ?_
    refine lv_topi (fun v7 ev7 => ?_)
    have hf := wc_st_e ev7 hf
    obtain ⟨h8, hf⟩ := wc_gd_e hf
    refine va_sld hx hb hX hbl hbA hS (wc_in_e h8) wd_K_law_118 ?_
    refine lv_topi (fun v9 ev9 => ?_)
    have hf := wc_st_e ev9 hf
    refine lv_aload_n hx hb wd_K_law_119 rfl (lv_at hl 0 rfl) ?_
    refine lv_iload hx hb wd_K_law_120 (lv_at hl 4 rfl) ?_
    refine lv_iconst (v := 2) hx hb wd_K_law_122 (by decide) ?_
    refine lv_iadd hx hb wd_K_law_123 ?_
    refine lv_topi (fun v10 ev10 => ?_)
    have hf := wc_st_e ev10 hf
    obtain ⟨h11, hf⟩ := wc_gd_e hf
    refine va_sld hx hb hX hbl hbA hS (wc_in_e h11) wd_K_law_124 ?_
    refine lv_topi (fun v12 ev12 => ?_)
    have hf := wc_st_e ev12 hf
    refine lv_aload_n hx hb wd_K_law_125 rfl (lv_at hl 0 rfl) ?_
    refine lv_iload hx hb wd_K_law_126 (lv_at hl 4 rfl) ?_
    refine lv_iconst (v := 3) hx hb wd_K_law_128 (by decide) ?_
    refine lv_iadd hx hb wd_K_law_129 ?_
    refine lv_topi (fun v13 ev13 => ?_)
    have hf := wc_st_e ev13 hf
    obtain ⟨h14, hf⟩ := wc_gd_e hf
    refine va_sld hx hb hX hbl hbA hS (wc_in_e h14) wd_K_law_130 ?_
    refine lv_topi (fun v15 ev15 => ?_)
    have hf := wc_st_e ev15 hf
    refine lv_aload_n hx hb wd_K_law_131 rfl (lv_at hl 0 rfl) ?_
    refine lv_iload hx hb wd_K_law_132 (lv_at hl 4 rfl) ?_
    refine lv_iconst (v := 4) hx hb wd_K_law_134 (by decide) ?_
    refine lv_iadd hx hb wd_K_law_135 ?_
    refine lv_topi (fun v16 ev16 => ?_)
    have hf := wc_st_e ev16 hf
    obtain ⟨h17, hf⟩ := wc_gd_e hf
    refine va_sld hx hb hX hbl hbA hS (wc_in_e h17) wd_K_law_136 ?_
    refine lv_topi (fun v18 ev18 => ?_)
    have hf := wc_st_e ev18 hf
    refine lv_aload_n hx hb wd_K_law_137 rfl (lv_at hl 3 rfl) ?_
    obtain ⟨r20, σ19, hq, hf⟩ := wc_b2_e hf
    refine wx_callik (wz_runSW (As := [.ref (ad 0), .int v9, .int v12, .int v15, .int v18, .ref (ad 88)]) (rest := []) ⟨hx, hb, hml, hown, hts⟩ (wm_K_coil l D ad cI cZ cJ cG htr _ v9 v12 v15 v18 σ _ hq) wt_254 wt_253 wt_0 wt_252 wh_K_coil rfl rfl ⟨Nat.le_of_ble_eq_true rfl, Nat.le_of_ble_eq_true rfl⟩ (wx_preS hK hP hD hS hA hC) rfl rfl hl.1 rfl (lv_room (Nat.le_of_ble_eq_true rfl)) wd_K_law_138 ⟨by show _ ≤ 600002; omega, by show _ ≤ 7302232; omega⟩) hD hS hA (fun H locs hP hD hS => ?_)
    refine W.widen (k := 90 + 2 * t + 1) (n := 700 + 12 * t + 6) (by omega) (by omega) ?_
    refine lv_istore (lv' := [(5, .int r20), (0, .ref b), (1, .ref (ad 0)), (2, .ref (ad 71)), (3, .ref (ad 88)), (4, .int x4)]) hx hb wd_K_law_141 hl (by decide) rfl (fun ls hl => ?_)
    refine lv_aload_n hx hb wd_K_law_143 rfl (lv_at hl 3 rfl) ?_
    refine lv_aload_n hx hb wd_K_law_144 rfl (lv_at hl 1 rfl) ?_
    refine lv_iload hx hb wd_K_law_145 (lv_at hl 5 rfl) ?_
    refine lv_iconst (v := 1) hx hb wd_K_law_147 (by decide) ?_
    refine lv_iadd hx hb wd_K_law_148 ?_
    refine lv_topi (fun v21 ev21 => ?_)
    have hf := wc_st_e ev21 hf
    obtain ⟨h22, hf⟩ := wc_gd_e hf
    refine va_sld hx hb hX hbl hbA hS (wc_in_e h22) wd_K_law_149 ?_
    refine lv_topi (fun v23 ev23 => ?_)
    have hf := wc_st_e ev23 hf
    refine lv_aload_n hx hb wd_K_law_150 rfl (lv_at hl 1 rfl) ?_
    refine lv_iload hx hb wd_K_law_151 (lv_at hl 5 rfl) ?_
    refine lv_iconst (v := 2) hx hb wd_K_law_153 (by decide) ?_
    refine lv_iadd hx hb wd_K_law_154 ?_
    refine lv_topi (fun v24 ev24 => ?_)
    have hf := wc_st_e ev24 hf
    obtain ⟨h25, hf⟩ := wc_gd_e hf
    refine va_sld hx hb hX hbl hbA hS (wc_in_e h25) wd_K_law_155 ?_
    refine lv_topi (fun v26 ev26 => ?_)
    have hf := wc_st_e ev26 hf
    refine lv_aload_n hx hb wd_K_law_156 rfl (lv_at hl 1 rfl) ?_
    refine lv_iload hx hb wd_K_law_157 (lv_at hl 5 rfl) ?_
    refine lv_iconst (v := 3) hx hb wd_K_law_159 (by decide) ?_
    refine lv_iadd hx hb wd_K_law_160 ?_
    refine lv_topi (fun v27 ev27 => ?_)
    have hf := wc_st_e ev27 hf
    obtain ⟨h28, hf⟩ := wc_gd_e hf
    refine va_sld hx hb hX hbl hbA hS (wc_in_e h28) wd_K_law_161 ?_
    refine lv_topi (fun v29 ev29 => ?_)
    have hf := wc_st_e ev29 hf
    refine lv_aload_n hx hb wd_K_law_162 rfl (lv_at hl 1 rfl) ?_
    refine lv_iload hx hb wd_K_law_163 (lv_at hl 5 rfl) ?_
    refine lv_iconst (v := 4) hx hb wd_K_law_165 (by decide) ?_
    refine lv_iadd hx hb wd_K_law_166 ?_
    refine lv_topi (fun v30 ev30 => ?_)
    have hf := wc_st_e ev30 hf
    obtain ⟨h31, hf⟩ := wc_gd_e hf
    refine va_sld hx hb hX hbl hbA hS (wc_in_e h31) wd_K_law_167 ?_
    refine lv_topi (fun v32 ev32 => ?_)
    have hf := wc_st_e ev32 hf
    obtain ⟨r34, σ33, hq, hf⟩ := wc_b2_e hf
    refine wx_calli (va_runV (As := [.int v23, .int v26, .int v29, .int v32]) (rest := []) ⟨hx, hb, hml, hown, hts⟩ (wm_M_coil l D ad cI cZ cJ cG _ v23 v26 v29 v32 σ19 _ hq) (wx_cwV 4 hts wt_725 wt_723 wt_724 wt_7 wt_722 wh_M_coil rfl rfl ⟨Nat.le_of_ble_eq_true rfl, Nat.le_of_ble_eq_true rfl⟩) (wx_preV hK hP hD hS hA hC (by decide) rfl rfl) rfl rfl hl.1 rfl (lv_room (Nat.le_of_ble_eq_true rfl)) wd_K_law_168 ⟨by show _ ≤ 600002; omega, by show _ ≤ 7302232; omega⟩) hD hS hA (fun H locs hP hD hS => ?_)
    refine lv_istore (lv' := [(6, .int r34), (5, .int r20), (0, .ref b), (1, .ref (ad 0)), (2, .ref (ad 71)), (3, .ref (ad 88)), (4, .int x4)]) hx hb wd_K_law_171 hl (by decide) rfl (fun ls hl => ?_)
    refine lv_aload_n hx hb wd_K_law_173 rfl (lv_at hl 4 rfl) ?_
    obtain ⟨r36, σ35, hq, hf⟩ := wc_b2_e hf
    refine wx_calli (va_runV (As := []) (rest := []) ⟨hx, hb, hml, hown, hts⟩ (wm_M_thrown l D ad cI cZ cJ cG _ σ33 _ hq) (wx_cwV 0 hts wt_721 wt_719 wt_720 wt_7 wt_718 wh_M_thrown rfl rfl ⟨Nat.le_of_ble_eq_true rfl, Nat.le_of_ble_eq_true rfl⟩) (wx_preV hK hP hD hS hA hC (by decide) rfl rfl) rfl rfl hl.1 rfl (lv_room (Nat.le_of_ble_eq_true rfl)) wd_K_law_174 ⟨by show _ ≤ 600002; omega, by show _ ≤ 7302232; omega⟩) hD hS hA (fun H locs hP hD hS => ?_)
    refine lv_iload hx hb wd_K_law_177 (lv_at hl 1 rfl) ?_
    refine lv_icmp_eq (tgt := 184) hx hb wd_K_law_179 (by decide) (fun c37 => ?_) (fun c37 => ?_)
    · have hf := wc_t c37 hf
      refine lv_iload hx hb wd_K_law_184 (lv_at hl 1 rfl) ?_
      refine lv_if_ne (tgt := 201) hx hb wd_K_law_186 (by decide) (fun c38 => ?_) (fun c38 => ?_)
      · have hf := wc_f c38 hf
        refine lv_goto (tgt := 1031) hx hb wd_K_law_201 (by decide) ?_
        refine W.widen (k := 90 + 2 * t + 2) (n := 700 + 12 * t + 12) (by omega) (by omega) ?_
        exact J1031 k23 hk23 t x4 σ35 hf htt _ _ _ hP hD hS (lv_sub hl [2, 3, 4, 5, 6] rfl)
      · have hf := wc_t c38 hf
        refine lv_aload_n hx hb wd_K_law_189 rfl (lv_at hl 5 rfl) ?_
        refine lv_iconst (v := 0) hx hb wd_K_law_190 (by decide) ?_
        obtain ⟨h40, hf⟩ := wc_gd_e hf
        refine wx_lald hx hb hK hP 88 (wc_in_e h40) wd_K_law_191 rfl ?_
        refine lv_topl (fun v41 ev41 => ?_)
        have hf := wc_st_e ev41 hf
        refine lv_iload hx hb wd_K_law_192 (lv_at hl 0 rfl) ?_
        refine lv_i2l hx hb wd_K_law_194 rfl ?_
        refine lv_topl (fun v42 ev42 => ?_)
        have hf := wc_st_e ev42 hf
        refine W.lcmp hx hb wd_K_law_195 ?_
        refine lv_topi (fun v43 ev43 => ?_)
        have hf := wc_st_e ev43 hf
        refine lv_if_eq (tgt := 201) hx hb wd_K_law_196 (by decide) (fun c44 => ?_) (fun c44 => ?_)
        · have hf := wc_t c44 hf
          refine lv_goto (tgt := 1031) hx hb wd_K_law_201 (by decide) ?_
          refine W.widen (k := 90 + 2 * t + 2) (n := 700 + 12 * t + 12) (by omega) (by omega) ?_
          exact J1031 k23 hk23 t x4 σ35 hf htt _ _ _ hP hD hS (lv_sub hl [2, 3, 4, 5, 6] rfl)
        · have hf := wc_f c44 hf
          refine lv_iconst (v := 0) hx hb wd_K_law_199 (by decide) ?_
          exact absurd (show (0 : Int32) = 1 from (congrArg Prod.fst (Option.some.inj hf)).trans hres) (by decide)
    · have hf := wc_f c37 hf
      refine lv_iconst (v := 0) hx hb wd_K_law_182 (by decide) ?_
      exact absurd (show (0 : Int32) = 1 from (congrArg Prod.fst (Option.some.inj hf)).trans hres) (by decide)
  have J204 : ∀ (k23 : Nat → Int32 → wc_S → Option (Int32 × wc_S)) (hk23 : (∀ (t : Nat) (x4 : Int32) (σ : wc_S), k23 t x4 σ = some res → wx_Arr p l e room_1 s m #[Value.ref b] below meth c D ad cI cZ cJ cG (fun q : Nat => s.heap.size ≤ q) (lw_Z below #[Value.ref b] s) 7 (90 + 2 * t + 0) (700 + 12 * t + 0) 23 [(0, .ref b), (1, .ref (ad 0)), (2, .ref (ad 71)), (3, .ref (ad 88)), (4, .int x4)] [] σ)) (t : Nat) (x4 : Int32) (σ : wc_S), wf_law_204 L xs k23 t x4 σ = some res → t < 600 → wx_Arr p l e room_1 s m #[Value.ref b] below meth c D ad cI cZ cJ cG (fun q : Nat => s.heap.size ≤ q) (lw_Z below #[Value.ref b] s) 7 (90 + 2 * t + 0) (700 + 12 * t + 0) 204 [(0, .ref b), (1, .ref (ad 0)), (2, .ref (ad 71)), (3, .ref (ad 88)), (4, .int x4)] [] σ := by
    intro k23 hk23 t x4 σ hf htt H locs ls hP hD hS hl
    unfold wf_law_204 at hf
    refine lv_aload_n hx hb wd_K_law_204 rfl (lv_at hl 1 rfl) ?_
    refine lv_aload_n hx hb wd_K_law_205 rfl (lv_at hl 0 rfl) ?_
    refine lv_iload hx hb wd_K_law_206 (lv_at hl 4 rfl) ?_
    refine lv_iconst (v := 1) hx hb wd_K_law_208 (by decide) ?_
    refine lv_iadd hx hb wd_K_law_209 ?_
    refine lv_topi (fun v45 ev45 => ?_)
    have hf := wc_st_e ev45 hf
    obtain ⟨h46, hf⟩ := wc_gd_e hf
    refine va_sld hx hb hX hbl hbA hS (wc_in_e h46) wd_K_law_210 ?_
    refine lv_topi (fun v47 ev47 => ?_)
    have hf := wc_st_e ev47 hf
    refine lv_aload_n hx hb wd_K_law_211 rfl (lv_at hl 0 rfl) ?_
    refine lv_iload hx hb wd_K_law_212 (lv_at hl 4 rfl) ?_
    refine lv_iconst (v := 2) hx hb wd_K_law_214 (by decide) ?_
    refine lv_iadd hx hb wd_K_law_215 ?_
    refine lv_topi (fun v48 ev48 => ?_)
    have hf := wc_st_e ev48 hf
    obtain ⟨h49, hf⟩ := wc_gd_e hf
    refine va_sld hx hb hX hbl hbA hS (wc_in_e h49) wd_K_law_216 ?_
    refine lv_topi (fun v50 ev50 => ?_)
    have hf := wc_st_e ev50 hf
    refine lv_aload_n hx hb wd_K_law_217 rfl (lv_at hl 0 rfl) ?_
    refine lv_iload hx hb wd_K_law_218 (lv_at hl 4 rfl) ?_
    refine lv_iconst (v := 3) hx hb wd_K_law_220 (by decide) ?_
    refine lv_iadd hx hb wd_K_law_221 ?_
    refine lv_topi (fun v51 ev51 => ?_)
    have hf := wc_st_e ev51 hf
    obtain ⟨h52, hf⟩ := wc_gd_e hf
    refine va_sld hx hb hX hbl hbA hS (wc_in_e h52) wd_K_law_222 ?_
    refine lv_topi (fun v53 ev53 => ?_)
    have hf := wc_st_e ev53 hf
    refine lv_aload_n hx hb wd_K_law_223 rfl (lv_at hl 0 rfl) ?_
    refine lv_iload hx hb wd_K_law_224 (lv_at hl 4 rfl) ?_
    refine lv_iconst (v := 4) hx hb wd_K_law_226 (by decide) ?_
    refine lv_iadd hx hb wd_K_law_227 ?_
    refine lv_topi (fun v54 ev54 => ?_)
    have hf := wc_st_e ev54 hf
    obtain ⟨h55, hf⟩ := wc_gd_e hf
    refine va_sld hx hb hX hbl hbA hS (wc_in_e h55) wd_K_law_228 ?_
    refine lv_topi (fun v56 ev56 => ?_)
    have hf := wc_st_e ev56 hf
    refine lv_aload_n hx hb wd_K_law_229 rfl (lv_at hl 3 rfl) ?_
    obtain ⟨r58, σ57, hq, hf⟩ := wc_b2_e hf
    refine wx_callik (wz_runSW (As := [.ref (ad 0), .int v47, .int v50, .int v53, .int v56, .ref (ad 88)]) (rest := []) ⟨hx, hb, hml, hown, hts⟩ (wm_K_table l D ad cI cZ cJ cG htr _ v47 v50 v53 v56 σ _ hq) wt_374 wt_373 wt_0 wt_372 wh_K_table rfl rfl ⟨Nat.le_of_ble_eq_true rfl, Nat.le_of_ble_eq_true rfl⟩ (wx_preS hK hP hD hS hA hC) rfl rfl hl.1 rfl (lv_room (Nat.le_of_ble_eq_true rfl)) wd_K_law_230 ⟨by show _ ≤ 600002; omega, by show _ ≤ 7302232; omega⟩) hD hS hA (fun H locs hP hD hS => ?_)
    refine W.widen (k := 90 + 2 * t + 1) (n := 700 + 12 * t + 6) (by omega) (by omega) ?_
    refine lv_istore (lv' := [(5, .int r58), (0, .ref b), (1, .ref (ad 0)), (2, .ref (ad 71)), (3, .ref (ad 88)), (4, .int x4)]) hx hb wd_K_law_233 hl (by decide) rfl (fun ls hl => ?_)
    refine lv_aload_n hx hb wd_K_law_235 rfl (lv_at hl 3 rfl) ?_
    refine lv_aload_n hx hb wd_K_law_236 rfl (lv_at hl 1 rfl) ?_
    refine lv_iload hx hb wd_K_law_237 (lv_at hl 5 rfl) ?_
    refine lv_iconst (v := 1) hx hb wd_K_law_239 (by decide) ?_
    refine lv_iadd hx hb wd_K_law_240 ?_
    refine lv_topi (fun v59 ev59 => ?_)
    have hf := wc_st_e ev59 hf
    obtain ⟨h60, hf⟩ := wc_gd_e hf
    refine va_sld hx hb hX hbl hbA hS (wc_in_e h60) wd_K_law_241 ?_
    refine lv_topi (fun v61 ev61 => ?_)
    have hf := wc_st_e ev61 hf
    refine lv_aload_n hx hb wd_K_law_242 rfl (lv_at hl 1 rfl) ?_
    refine lv_iload hx hb wd_K_law_243 (lv_at hl 5 rfl) ?_
    refine lv_iconst (v := 2) hx hb wd_K_law_245 (by decide) ?_
    refine lv_iadd hx hb wd_K_law_246 ?_
    refine lv_topi (fun v62 ev62 => ?_)
    have hf := wc_st_e ev62 hf
    obtain ⟨h63, hf⟩ := wc_gd_e hf
    refine va_sld hx hb hX hbl hbA hS (wc_in_e h63) wd_K_law_247 ?_
    refine lv_topi (fun v64 ev64 => ?_)
    have hf := wc_st_e ev64 hf
    refine lv_aload_n hx hb wd_K_law_248 rfl (lv_at hl 1 rfl) ?_
    refine lv_iload hx hb wd_K_law_249 (lv_at hl 5 rfl) ?_
    refine lv_iconst (v := 3) hx hb wd_K_law_251 (by decide) ?_
    refine lv_iadd hx hb wd_K_law_252 ?_
    refine lv_topi (fun v65 ev65 => ?_)
    have hf := wc_st_e ev65 hf
    obtain ⟨h66, hf⟩ := wc_gd_e hf
    refine va_sld hx hb hX hbl hbA hS (wc_in_e h66) wd_K_law_253 ?_
    refine lv_topi (fun v67 ev67 => ?_)
    have hf := wc_st_e ev67 hf
    refine lv_aload_n hx hb wd_K_law_254 rfl (lv_at hl 1 rfl) ?_
    refine lv_iload hx hb wd_K_law_255 (lv_at hl 5 rfl) ?_
    refine lv_iconst (v := 4) hx hb wd_K_law_257 (by decide) ?_
    refine lv_iadd hx hb wd_K_law_258 ?_
    refine lv_topi (fun v68 ev68 => ?_)
    have hf := wc_st_e ev68 hf
    obtain ⟨h69, hf⟩ := wc_gd_e hf
    refine va_sld hx hb hX hbl hbA hS (wc_in_e h69) wd_K_law_259 ?_
    refine lv_topi (fun v70 ev70 => ?_)
    have hf := wc_st_e ev70 hf
    obtain ⟨r72, σ71, hq, hf⟩ := wc_b2_e hf
    refine wx_calli (va_runV (As := [.int v61, .int v64, .int v67, .int v70]) (rest := []) ⟨hx, hb, hml, hown, hts⟩ (wm_M_table l D ad cI cZ cJ cG _ v61 v64 v67 v70 σ57 _ hq) (wx_cwV 4 hts wt_740 wt_738 wt_739 wt_7 wt_737 wh_M_table rfl rfl ⟨Nat.le_of_ble_eq_true rfl, Nat.le_of_ble_eq_true rfl⟩) (wx_preV hK hP hD hS hA hC (by decide) rfl rfl) rfl rfl hl.1 rfl (lv_room (Nat.le_of_ble_eq_true rfl)) wd_K_law_260 ⟨by show _ ≤ 600002; omega, by show _ ≤ 7302232; omega⟩) hD hS hA (fun H locs hP hD hS => ?_)
    refine lv_istore (lv' := [(6, .int r72), (5, .int r58), (0, .ref b), (1, .ref (ad 0)), (2, .ref (ad 71)), (3, .ref (ad 88)), (4, .int x4)]) hx hb wd_K_law_263 hl (by decide) rfl (fun ls hl => ?_)
    refine lv_aload_n hx hb wd_K_law_265 rfl (lv_at hl 4 rfl) ?_
    obtain ⟨r74, σ73, hq, hf⟩ := wc_b2_e hf
    refine wx_calli (va_runV (As := []) (rest := []) ⟨hx, hb, hml, hown, hts⟩ (wm_M_thrown l D ad cI cZ cJ cG _ σ71 _ hq) (wx_cwV 0 hts wt_721 wt_719 wt_720 wt_7 wt_718 wh_M_thrown rfl rfl ⟨Nat.le_of_ble_eq_true rfl, Nat.le_of_ble_eq_true rfl⟩) (wx_preV hK hP hD hS hA hC (by decide) rfl rfl) rfl rfl hl.1 rfl (lv_room (Nat.le_of_ble_eq_true rfl)) wd_K_law_266 ⟨by show _ ≤ 600002; omega, by show _ ≤ 7302232; omega⟩) hD hS hA (fun H locs hP hD hS => ?_)
    refine lv_iload hx hb wd_K_law_269 (lv_at hl 1 rfl) ?_
    refine lv_icmp_eq (tgt := 276) hx hb wd_K_law_271 (by decide) (fun c75 => ?_) (fun c75 => ?_)
    · have hf := wc_t c75 hf
      refine lv_iload hx hb wd_K_law_276 (lv_at hl 1 rfl) ?_
      refine lv_if_ne (tgt := 293) hx hb wd_K_law_278 (by decide) (fun c76 => ?_) (fun c76 => ?_)
      · have hf := wc_f c76 hf
        refine lv_goto (tgt := 1031) hx hb wd_K_law_293 (by decide) ?_
        refine W.widen (k := 90 + 2 * t + 2) (n := 700 + 12 * t + 12) (by omega) (by omega) ?_
        exact J1031 k23 hk23 t x4 σ73 hf htt _ _ _ hP hD hS (lv_sub hl [2, 3, 4, 5, 6] rfl)
      · have hf := wc_t c76 hf
        refine lv_aload_n hx hb wd_K_law_281 rfl (lv_at hl 5 rfl) ?_
        refine lv_iconst (v := 0) hx hb wd_K_law_282 (by decide) ?_
        obtain ⟨h77, hf⟩ := wc_gd_e hf
        refine wx_lald hx hb hK hP 88 (wc_in_e h77) wd_K_law_283 rfl ?_
        refine lv_topl (fun v78 ev78 => ?_)
        have hf := wc_st_e ev78 hf
        refine lv_iload hx hb wd_K_law_284 (lv_at hl 0 rfl) ?_
        refine lv_i2l hx hb wd_K_law_286 rfl ?_
        refine lv_topl (fun v79 ev79 => ?_)
        have hf := wc_st_e ev79 hf
        refine W.lcmp hx hb wd_K_law_287 ?_
        refine lv_topi (fun v80 ev80 => ?_)
        have hf := wc_st_e ev80 hf
        refine lv_if_eq (tgt := 293) hx hb wd_K_law_288 (by decide) (fun c81 => ?_) (fun c81 => ?_)
        · have hf := wc_t c81 hf
          refine lv_goto (tgt := 1031) hx hb wd_K_law_293 (by decide) ?_
          refine W.widen (k := 90 + 2 * t + 2) (n := 700 + 12 * t + 12) (by omega) (by omega) ?_
          exact J1031 k23 hk23 t x4 σ73 hf htt _ _ _ hP hD hS (lv_sub hl [2, 3, 4, 5, 6] rfl)
        · have hf := wc_f c81 hf
          refine lv_iconst (v := 0) hx hb wd_K_law_291 (by decide) ?_
          exact absurd (show (0 : Int32) = 1 from (congrArg Prod.fst (Option.some.inj hf)).trans hres) (by decide)
    · have hf := wc_f c75 hf
      refine lv_iconst (v := 0) hx hb wd_K_law_274 (by decide) ?_
      exact absurd (show (0 : Int32) = 1 from (congrArg Prod.fst (Option.some.inj hf)).trans hres) (by decide)
  have J296 : ∀ (k23 : Nat → Int32 → wc_S → Option (Int32 × wc_S)) (hk23 : (∀ (t : Nat) (x4 : Int32) (σ : wc_S), k23 t x4 σ = some res → wx_Arr p l e room_1 s m #[Value.ref b] below meth c D ad cI cZ cJ cG (fun q : Nat => s.heap.size ≤ q) (lw_Z below #[Value.ref b] s) 7 (90 + 2 * t + 0) (700 + 12 * t + 0) 23 [(0, .ref b), (1, .ref (ad 0)), (2, .ref (ad 71)), (3, .ref (ad 88)), (4, .int x4)] [] σ)) (t : Nat) (x4 : Int32) (σ : wc_S), wf_law_296 L xs k23 t x4 σ = some res → t < 600 → wx_Arr p l e room_1 s m #[Value.ref b] below meth c D ad cI cZ cJ cG (fun q : Nat => s.heap.size ≤ q) (lw_Z below #[Value.ref b] s) 7 (90 + 2 * t + 0) (700 + 12 * t + 0) 296 [(0, .ref b), (1, .ref (ad 0)), (2, .ref (ad 71)), (3, .ref (ad 88)), (4, .int x4)] [] σ := by
    intro k23 hk23 t x4 σ hf htt H locs ls hP hD hS hl
    unfold wf_law_296 at hf
    refine lv_aload_n hx hb wd_K_law_296 rfl (lv_at hl 1 rfl) ?_
    refine lv_aload_n hx hb wd_K_law_297 rfl (lv_at hl 0 rfl) ?_
    refine lv_iload hx hb wd_K_law_298 (lv_at hl 4 rfl) ?_
    refine lv_iconst (v := 1) hx hb wd_K_law_300 (by decide) ?_
    refine lv_iadd hx hb wd_K_law_301 ?_
    refine lv_topi (fun v82 ev82 => ?_)
    have hf := wc_st_e ev82 hf
    obtain ⟨h83, hf⟩ := wc_gd_e hf
    refine va_sld hx hb hX hbl hbA hS (wc_in_e h83) wd_K_law_302 ?_
    refine lv_topi (fun v84 ev84 => ?_)
    have hf := wc_st_e ev84 hf
    refine lv_aload_n hx hb wd_K_law_303 rfl (lv_at hl 0 rfl) ?_
    refine lv_iload hx hb wd_K_law_304 (lv_at hl 4 rfl) ?_
    refine lv_iconst (v := 2) hx hb wd_K_law_306 (by decide) ?_
    refine lv_iadd hx hb wd_K_law_307 ?_
    refine lv_topi (fun v85 ev85 => ?_)
    have hf := wc_st_e ev85 hf
    obtain ⟨h86, hf⟩ := wc_gd_e hf
    refine va_sld hx hb hX hbl hbA hS (wc_in_e h86) wd_K_law_308 ?_
    refine lv_topi (fun v87 ev87 => ?_)
    have hf := wc_st_e ev87 hf
    refine lv_aload_n hx hb wd_K_law_309 rfl (lv_at hl 0 rfl) ?_
    refine lv_iload hx hb wd_K_law_310 (lv_at hl 4 rfl) ?_
    refine lv_iconst (v := 3) hx hb wd_K_law_312 (by decide) ?_
    refine lv_iadd hx hb wd_K_law_313 ?_
    refine lv_topi (fun v88 ev88 => ?_)
    have hf := wc_st_e ev88 hf
    obtain ⟨h89, hf⟩ := wc_gd_e hf
    refine va_sld hx hb hX hbl hbA hS (wc_in_e h89) wd_K_law_314 ?_
    refine lv_topi (fun v90 ev90 => ?_)
    have hf := wc_st_e ev90 hf
    refine lv_aload_n hx hb wd_K_law_315 rfl (lv_at hl 3 rfl) ?_
    obtain ⟨r92, σ91, hq, hf⟩ := wc_b2_e hf
    refine wx_callik (wz_runSW (As := [.ref (ad 0), .int v84, .int v87, .int v90, .ref (ad 88)]) (rest := []) ⟨hx, hb, hml, hown, hts⟩ (wm_K_group l D ad cI cZ cJ cG htr _ v84 v87 v90 σ _ hq) wt_405 wt_404 wt_0 wt_403 wh_K_group rfl rfl ⟨Nat.le_of_ble_eq_true rfl, Nat.le_of_ble_eq_true rfl⟩ (wx_preS hK hP hD hS hA hC) rfl rfl hl.1 rfl (lv_room (Nat.le_of_ble_eq_true rfl)) wd_K_law_316 ⟨by show _ ≤ 600002; omega, by show _ ≤ 7302232; omega⟩) hD hS hA (fun H locs hP hD hS => ?_)
    refine W.widen (k := 90 + 2 * t + 1) (n := 700 + 12 * t + 6) (by omega) (by omega) ?_
    refine lv_istore (lv' := [(5, .int r92), (0, .ref b), (1, .ref (ad 0)), (2, .ref (ad 71)), (3, .ref (ad 88)), (4, .int x4)]) hx hb wd_K_law_319 hl (by decide) rfl (fun ls hl => ?_)
    refine lv_aload_n hx hb wd_K_law_321 rfl (lv_at hl 3 rfl) ?_
    refine lv_aload_n hx hb wd_K_law_322 rfl (lv_at hl 1 rfl) ?_
    refine lv_iload hx hb wd_K_law_323 (lv_at hl 5 rfl) ?_
    refine lv_iconst (v := 1) hx hb wd_K_law_325 (by decide) ?_
    refine lv_iadd hx hb wd_K_law_326 ?_
    refine lv_topi (fun v93 ev93 => ?_)
    have hf := wc_st_e ev93 hf
    obtain ⟨h94, hf⟩ := wc_gd_e hf
    refine va_sld hx hb hX hbl hbA hS (wc_in_e h94) wd_K_law_327 ?_
    refine lv_topi (fun v95 ev95 => ?_)
    have hf := wc_st_e ev95 hf
    refine lv_aload_n hx hb wd_K_law_328 rfl (lv_at hl 1 rfl) ?_
    refine lv_iload hx hb wd_K_law_329 (lv_at hl 5 rfl) ?_
    refine lv_iconst (v := 2) hx hb wd_K_law_331 (by decide) ?_
    refine lv_iadd hx hb wd_K_law_332 ?_
    refine lv_topi (fun v96 ev96 => ?_)
    have hf := wc_st_e ev96 hf
    obtain ⟨h97, hf⟩ := wc_gd_e hf
    refine va_sld hx hb hX hbl hbA hS (wc_in_e h97) wd_K_law_333 ?_
    refine lv_topi (fun v98 ev98 => ?_)
    have hf := wc_st_e ev98 hf
    refine lv_aload_n hx hb wd_K_law_334 rfl (lv_at hl 1 rfl) ?_
    refine lv_iload hx hb wd_K_law_335 (lv_at hl 5 rfl) ?_
    refine lv_iconst (v := 3) hx hb wd_K_law_337 (by decide) ?_
    refine lv_iadd hx hb wd_K_law_338 ?_
    refine lv_topi (fun v99 ev99 => ?_)
    have hf := wc_st_e ev99 hf
    obtain ⟨h100, hf⟩ := wc_gd_e hf
    refine va_sld hx hb hX hbl hbA hS (wc_in_e h100) wd_K_law_339 ?_
    refine lv_topi (fun v101 ev101 => ?_)
    have hf := wc_st_e ev101 hf
    obtain ⟨r103, σ102, hq, hf⟩ := wc_b2_e hf
    refine wx_calli (va_runV (As := [.int v95, .int v98, .int v101]) (rest := []) ⟨hx, hb, hml, hown, hts⟩ (wm_M_group l D ad cI cZ cJ cG _ v95 v98 v101 σ91 _ hq) (wx_cwV 3 hts wt_744 wt_742 wt_743 wt_7 wt_741 wh_M_group rfl rfl ⟨Nat.le_of_ble_eq_true rfl, Nat.le_of_ble_eq_true rfl⟩) (wx_preV hK hP hD hS hA hC (by decide) rfl rfl) rfl rfl hl.1 rfl (lv_room (Nat.le_of_ble_eq_true rfl)) wd_K_law_340 ⟨by show _ ≤ 600002; omega, by show _ ≤ 7302232; omega⟩) hD hS hA (fun H locs hP hD hS => ?_)
    refine lv_istore (lv' := [(6, .int r103), (5, .int r92), (0, .ref b), (1, .ref (ad 0)), (2, .ref (ad 71)), (3, .ref (ad 88)), (4, .int x4)]) hx hb wd_K_law_343 hl (by decide) rfl (fun ls hl => ?_)
    refine lv_aload_n hx hb wd_K_law_345 rfl (lv_at hl 4 rfl) ?_
    obtain ⟨r105, σ104, hq, hf⟩ := wc_b2_e hf
    refine wx_calli (va_runV (As := []) (rest := []) ⟨hx, hb, hml, hown, hts⟩ (wm_M_thrown l D ad cI cZ cJ cG _ σ102 _ hq) (wx_cwV 0 hts wt_721 wt_719 wt_720 wt_7 wt_718 wh_M_thrown rfl rfl ⟨Nat.le_of_ble_eq_true rfl, Nat.le_of_ble_eq_true rfl⟩) (wx_preV hK hP hD hS hA hC (by decide) rfl rfl) rfl rfl hl.1 rfl (lv_room (Nat.le_of_ble_eq_true rfl)) wd_K_law_346 ⟨by show _ ≤ 600002; omega, by show _ ≤ 7302232; omega⟩) hD hS hA (fun H locs hP hD hS => ?_)
    refine lv_iload hx hb wd_K_law_349 (lv_at hl 1 rfl) ?_
    refine lv_icmp_eq (tgt := 356) hx hb wd_K_law_351 (by decide) (fun c106 => ?_) (fun c106 => ?_)
    · have hf := wc_t c106 hf
      refine lv_iload hx hb wd_K_law_356 (lv_at hl 1 rfl) ?_
      refine lv_if_ne (tgt := 373) hx hb wd_K_law_358 (by decide) (fun c107 => ?_) (fun c107 => ?_)
      · have hf := wc_f c107 hf
        refine lv_goto (tgt := 1031) hx hb wd_K_law_373 (by decide) ?_
        refine W.widen (k := 90 + 2 * t + 2) (n := 700 + 12 * t + 12) (by omega) (by omega) ?_
        exact J1031 k23 hk23 t x4 σ104 hf htt _ _ _ hP hD hS (lv_sub hl [2, 3, 4, 5, 6] rfl)
      · have hf := wc_t c107 hf
        refine lv_aload_n hx hb wd_K_law_361 rfl (lv_at hl 5 rfl) ?_
        refine lv_iconst (v := 0) hx hb wd_K_law_362 (by decide) ?_
        obtain ⟨h108, hf⟩ := wc_gd_e hf
        refine wx_lald hx hb hK hP 88 (wc_in_e h108) wd_K_law_363 rfl ?_
        refine lv_topl (fun v109 ev109 => ?_)
        have hf := wc_st_e ev109 hf
        refine lv_iload hx hb wd_K_law_364 (lv_at hl 0 rfl) ?_
        refine lv_i2l hx hb wd_K_law_366 rfl ?_
        refine lv_topl (fun v110 ev110 => ?_)
        have hf := wc_st_e ev110 hf
        refine W.lcmp hx hb wd_K_law_367 ?_
        refine lv_topi (fun v111 ev111 => ?_)
        have hf := wc_st_e ev111 hf
        refine lv_if_eq (tgt := 373) hx hb wd_K_law_368 (by decide) (fun c112 => ?_) (fun c112 => ?_)
        · have hf := wc_t c112 hf
          refine lv_goto (tgt := 1031) hx hb wd_K_law_373 (by decide) ?_
          refine W.widen (k := 90 + 2 * t + 2) (n := 700 + 12 * t + 12) (by omega) (by omega) ?_
          exact J1031 k23 hk23 t x4 σ104 hf htt _ _ _ hP hD hS (lv_sub hl [2, 3, 4, 5, 6] rfl)
        · have hf := wc_f c112 hf
          refine lv_iconst (v := 0) hx hb wd_K_law_371 (by decide) ?_
          exact absurd (show (0 : Int32) = 1 from (congrArg Prod.fst (Option.some.inj hf)).trans hres) (by decide)
    · have hf := wc_f c106 hf
      refine lv_iconst (v := 0) hx hb wd_K_law_354 (by decide) ?_
      exact absurd (show (0 : Int32) = 1 from (congrArg Prod.fst (Option.some.inj hf)).trans hres) (by decide)
  have J376 : ∀ (k23 : Nat → Int32 → wc_S → Option (Int32 × wc_S)) (hk23 : (∀ (t : Nat) (x4 : Int32) (σ : wc_S), k23 t x4 σ = some res → wx_Arr p l e room_1 s m #[Value.ref b] below meth c D ad cI cZ cJ cG (fun q : Nat => s.heap.size ≤ q) (lw_Z below #[Value.ref b] s) 7 (90 + 2 * t + 0) (700 + 12 * t + 0) 23 [(0, .ref b), (1, .ref (ad 0)), (2, .ref (ad 71)), (3, .ref (ad 88)), (4, .int x4)] [] σ)) (t : Nat) (x4 : Int32) (σ : wc_S), wf_law_376 L xs k23 t x4 σ = some res → t < 600 → wx_Arr p l e room_1 s m #[Value.ref b] below meth c D ad cI cZ cJ cG (fun q : Nat => s.heap.size ≤ q) (lw_Z below #[Value.ref b] s) 7 (90 + 2 * t + 0) (700 + 12 * t + 0) 376 [(0, .ref b), (1, .ref (ad 0)), (2, .ref (ad 71)), (3, .ref (ad 88)), (4, .int x4)] [] σ := by
    intro k23 hk23 t x4 σ hf htt H locs ls hP hD hS hl
    unfold wf_law_376 at hf
    refine lv_aload_n hx hb wd_K_law_376 rfl (lv_at hl 1 rfl) ?_
    refine lv_aload_n hx hb wd_K_law_377 rfl (lv_at hl 0 rfl) ?_
    refine lv_iload hx hb wd_K_law_378 (lv_at hl 4 rfl) ?_
    refine lv_iconst (v := 1) hx hb wd_K_law_380 (by decide) ?_
    refine lv_iadd hx hb wd_K_law_381 ?_
    refine lv_topi (fun v113 ev113 => ?_)
    have hf := wc_st_e ev113 hf
    obtain ⟨h114, hf⟩ := wc_gd_e hf
    refine va_sld hx hb hX hbl hbA hS (wc_in_e h114) wd_K_law_382 ?_
    refine lv_topi (fun v115 ev115 => ?_)
    have hf := wc_st_e ev115 hf
    refine lv_aload_n hx hb wd_K_law_383 rfl (lv_at hl 0 rfl) ?_
    refine lv_iload hx hb wd_K_law_384 (lv_at hl 4 rfl) ?_
    refine lv_iconst (v := 2) hx hb wd_K_law_386 (by decide) ?_
    refine lv_iadd hx hb wd_K_law_387 ?_
    refine lv_topi (fun v116 ev116 => ?_)
    have hf := wc_st_e ev116 hf
    obtain ⟨h117, hf⟩ := wc_gd_e hf
    refine va_sld hx hb hX hbl hbA hS (wc_in_e h117) wd_K_law_388 ?_
    refine lv_topi (fun v118 ev118 => ?_)
    have hf := wc_st_e ev118 hf
    obtain ⟨r120, σ119, hq, hf⟩ := wc_b2_e hf
    refine wx_callik (wz_runSW (As := [.ref (ad 0), .int v115, .int v118]) (rest := []) ⟨hx, hb, hml, hown, hts⟩ (wm_K_urgent l D ad cI cZ cJ cG htr _ v115 v118 σ _ hq) wt_418 wt_417 wt_0 wt_416 wh_K_urgent rfl rfl ⟨Nat.le_of_ble_eq_true rfl, Nat.le_of_ble_eq_true rfl⟩ (wx_preS hK hP hD hS hA hC) rfl rfl hl.1 rfl (lv_room (Nat.le_of_ble_eq_true rfl)) wd_K_law_389 ⟨by show _ ≤ 600002; omega, by show _ ≤ 7302232; omega⟩) hD hS hA (fun H locs hP hD hS => ?_)
    refine W.widen (k := 90 + 2 * t + 1) (n := 700 + 12 * t + 6) (by omega) (by omega) ?_
    refine lv_istore (lv' := [(5, .int r120), (0, .ref b), (1, .ref (ad 0)), (2, .ref (ad 71)), (3, .ref (ad 88)), (4, .int x4)]) hx hb wd_K_law_392 hl (by decide) rfl (fun ls hl => ?_)
    refine lv_aload_n hx hb wd_K_law_394 rfl (lv_at hl 3 rfl) ?_
    refine lv_aload_n hx hb wd_K_law_395 rfl (lv_at hl 1 rfl) ?_
    refine lv_iload hx hb wd_K_law_396 (lv_at hl 5 rfl) ?_
    refine lv_iconst (v := 1) hx hb wd_K_law_398 (by decide) ?_
    refine lv_iadd hx hb wd_K_law_399 ?_
    refine lv_topi (fun v121 ev121 => ?_)
    have hf := wc_st_e ev121 hf
    obtain ⟨h122, hf⟩ := wc_gd_e hf
    refine va_sld hx hb hX hbl hbA hS (wc_in_e h122) wd_K_law_400 ?_
    refine lv_topi (fun v123 ev123 => ?_)
    have hf := wc_st_e ev123 hf
    refine lv_aload_n hx hb wd_K_law_401 rfl (lv_at hl 1 rfl) ?_
    refine lv_iload hx hb wd_K_law_402 (lv_at hl 5 rfl) ?_
    refine lv_iconst (v := 2) hx hb wd_K_law_404 (by decide) ?_
    refine lv_iadd hx hb wd_K_law_405 ?_
    refine lv_topi (fun v124 ev124 => ?_)
    have hf := wc_st_e ev124 hf
    obtain ⟨h125, hf⟩ := wc_gd_e hf
    refine va_sld hx hb hX hbl hbA hS (wc_in_e h125) wd_K_law_406 ?_
    refine lv_topi (fun v126 ev126 => ?_)
    have hf := wc_st_e ev126 hf
    obtain ⟨σ127, hq, hf⟩ := wc_b1_e hf
    refine wx_callv (va_runV (As := [.int v123, .int v126]) (rest := []) ⟨hx, hb, hml, hown, hts⟩ (wm_M_urgent l D ad cI cZ cJ cG _ v123 v126 σ119 _ hq) (wx_cwV 2 hts wt_748 wt_746 wt_747 wt_7 wt_745 wh_M_urgent rfl rfl ⟨Nat.le_of_ble_eq_true rfl, Nat.le_of_ble_eq_true rfl⟩) (wx_preV hK hP hD hS hA hC (by decide) rfl rfl) rfl rfl hl.1 rfl (lv_room (Nat.le_of_ble_eq_true rfl)) wd_K_law_407 ⟨by show _ ≤ 600002; omega, by show _ ≤ 7302232; omega⟩) hD hS hA (fun H locs hP hD hS => ?_)
    refine lv_aload_n hx hb wd_K_law_410 rfl (lv_at hl 3 rfl) ?_
    obtain ⟨r129, σ128, hq, hf⟩ := wc_b2_e hf
    refine wx_calli (va_runV (As := []) (rest := []) ⟨hx, hb, hml, hown, hts⟩ (wm_M_thrown l D ad cI cZ cJ cG _ σ127 _ hq) (wx_cwV 0 hts wt_721 wt_719 wt_720 wt_7 wt_718 wh_M_thrown rfl rfl ⟨Nat.le_of_ble_eq_true rfl, Nat.le_of_ble_eq_true rfl⟩) (wx_preV hK hP hD hS hA hC (by decide) rfl rfl) rfl rfl hl.1 rfl (lv_room (Nat.le_of_ble_eq_true rfl)) wd_K_law_411 ⟨by show _ ≤ 600002; omega, by show _ ≤ 7302232; omega⟩) hD hS hA (fun H locs hP hD hS => ?_)
    refine lv_iload hx hb wd_K_law_414 (lv_at hl 0 rfl) ?_
    refine lv_icmp_eq (tgt := 421) hx hb wd_K_law_416 (by decide) (fun c130 => ?_) (fun c130 => ?_)
    · have hf := wc_t c130 hf
      refine lv_goto (tgt := 1031) hx hb wd_K_law_421 (by decide) ?_
      refine W.widen (k := 90 + 2 * t + 2) (n := 700 + 12 * t + 12) (by omega) (by omega) ?_
      exact J1031 k23 hk23 t x4 σ128 hf htt _ _ _ hP hD hS (lv_sub hl [1, 2, 3, 4, 5] rfl)
    · have hf := wc_f c130 hf
      refine lv_iconst (v := 0) hx hb wd_K_law_419 (by decide) ?_
      exact absurd (show (0 : Int32) = 1 from (congrArg Prod.fst (Option.some.inj hf)).trans hres) (by decide)
  have J424 : ∀ (k23 : Nat → Int32 → wc_S → Option (Int32 × wc_S)) (hk23 : (∀ (t : Nat) (x4 : Int32) (σ : wc_S), k23 t x4 σ = some res → wx_Arr p l e room_1 s m #[Value.ref b] below meth c D ad cI cZ cJ cG (fun q : Nat => s.heap.size ≤ q) (lw_Z below #[Value.ref b] s) 7 (90 + 2 * t + 0) (700 + 12 * t + 0) 23 [(0, .ref b), (1, .ref (ad 0)), (2, .ref (ad 71)), (3, .ref (ad 88)), (4, .int x4)] [] σ)) (t : Nat) (x4 : Int32) (σ : wc_S), wf_law_424 L xs k23 t x4 σ = some res → t < 600 → wx_Arr p l e room_1 s m #[Value.ref b] below meth c D ad cI cZ cJ cG (fun q : Nat => s.heap.size ≤ q) (lw_Z below #[Value.ref b] s) 7 (90 + 2 * t + 0) (700 + 12 * t + 0) 424 [(0, .ref b), (1, .ref (ad 0)), (2, .ref (ad 71)), (3, .ref (ad 88)), (4, .int x4)] [] σ := by
    intro k23 hk23 t x4 σ hf htt H locs ls hP hD hS hl
    unfold wf_law_424 at hf
    refine lv_aload_n hx hb wd_K_law_424 rfl (lv_at hl 1 rfl) ?_
    refine lv_aload_n hx hb wd_K_law_425 rfl (lv_at hl 0 rfl) ?_
    refine lv_iload hx hb wd_K_law_426 (lv_at hl 4 rfl) ?_
    refine lv_iconst (v := 1) hx hb wd_K_law_428 (by decide) ?_
    refine lv_iadd hx hb wd_K_law_429 ?_
    refine lv_topi (fun v131 ev131 => ?_)
    have hf := wc_st_e ev131 hf
    obtain ⟨h132, hf⟩ := wc_gd_e hf
    refine va_sld hx hb hX hbl hbA hS (wc_in_e h132) wd_K_law_430 ?_
    refine lv_topi (fun v133 ev133 => ?_)
    have hf := wc_st_e ev133 hf
    refine lv_aload_n hx hb wd_K_law_431 rfl (lv_at hl 0 rfl) ?_
    refine lv_iload hx hb wd_K_law_432 (lv_at hl 4 rfl) ?_
    refine lv_iconst (v := 2) hx hb wd_K_law_434 (by decide) ?_
    refine lv_iadd hx hb wd_K_law_435 ?_
    refine lv_topi (fun v134 ev134 => ?_)
    have hf := wc_st_e ev134 hf
    obtain ⟨h135, hf⟩ := wc_gd_e hf
    refine va_sld hx hb hX hbl hbA hS (wc_in_e h135) wd_K_law_436 ?_
    refine lv_topi (fun v136 ev136 => ?_)
    have hf := wc_st_e ev136 hf
    obtain ⟨r138, σ137, hq, hf⟩ := wc_b2_e hf
    refine wx_callik (wz_runSW (As := [.ref (ad 0), .int v133, .int v136]) (rest := []) ⟨hx, hb, hml, hown, hts⟩ (wm_K_old l D ad cI cZ cJ cG htr _ v133 v136 σ _ hq) wt_431 wt_430 wt_0 wt_429 wh_K_old rfl rfl ⟨Nat.le_of_ble_eq_true rfl, Nat.le_of_ble_eq_true rfl⟩ (wx_preS hK hP hD hS hA hC) rfl rfl hl.1 rfl (lv_room (Nat.le_of_ble_eq_true rfl)) wd_K_law_437 ⟨by show _ ≤ 600002; omega, by show _ ≤ 7302232; omega⟩) hD hS hA (fun H locs hP hD hS => ?_)
    refine W.widen (k := 90 + 2 * t + 1) (n := 700 + 12 * t + 6) (by omega) (by omega) ?_
    refine lv_istore (lv' := [(5, .int r138), (0, .ref b), (1, .ref (ad 0)), (2, .ref (ad 71)), (3, .ref (ad 88)), (4, .int x4)]) hx hb wd_K_law_440 hl (by decide) rfl (fun ls hl => ?_)
    refine lv_aload_n hx hb wd_K_law_442 rfl (lv_at hl 3 rfl) ?_
    refine lv_aload_n hx hb wd_K_law_443 rfl (lv_at hl 1 rfl) ?_
    refine lv_iload hx hb wd_K_law_444 (lv_at hl 5 rfl) ?_
    refine lv_iconst (v := 1) hx hb wd_K_law_446 (by decide) ?_
    refine lv_iadd hx hb wd_K_law_447 ?_
    refine lv_topi (fun v139 ev139 => ?_)
    have hf := wc_st_e ev139 hf
    obtain ⟨h140, hf⟩ := wc_gd_e hf
    refine va_sld hx hb hX hbl hbA hS (wc_in_e h140) wd_K_law_448 ?_
    refine lv_topi (fun v141 ev141 => ?_)
    have hf := wc_st_e ev141 hf
    refine lv_aload_n hx hb wd_K_law_449 rfl (lv_at hl 1 rfl) ?_
    refine lv_iload hx hb wd_K_law_450 (lv_at hl 5 rfl) ?_
    refine lv_iconst (v := 2) hx hb wd_K_law_452 (by decide) ?_
    refine lv_iadd hx hb wd_K_law_453 ?_
    refine lv_topi (fun v142 ev142 => ?_)
    have hf := wc_st_e ev142 hf
    obtain ⟨h143, hf⟩ := wc_gd_e hf
    refine va_sld hx hb hX hbl hbA hS (wc_in_e h143) wd_K_law_454 ?_
    refine lv_topi (fun v144 ev144 => ?_)
    have hf := wc_st_e ev144 hf
    obtain ⟨σ145, hq, hf⟩ := wc_b1_e hf
    refine wx_callv (va_runV (As := [.int v141, .int v144]) (rest := []) ⟨hx, hb, hml, hown, hts⟩ (wm_M_old l D ad cI cZ cJ cG _ v141 v144 σ137 _ hq) (wx_cwV 2 hts wt_756 wt_754 wt_755 wt_7 wt_753 wh_M_old rfl rfl ⟨Nat.le_of_ble_eq_true rfl, Nat.le_of_ble_eq_true rfl⟩) (wx_preV hK hP hD hS hA hC (by decide) rfl rfl) rfl rfl hl.1 rfl (lv_room (Nat.le_of_ble_eq_true rfl)) wd_K_law_455 ⟨by show _ ≤ 600002; omega, by show _ ≤ 7302232; omega⟩) hD hS hA (fun H locs hP hD hS => ?_)
    refine lv_aload_n hx hb wd_K_law_458 rfl (lv_at hl 3 rfl) ?_
    obtain ⟨r147, σ146, hq, hf⟩ := wc_b2_e hf
    refine wx_calli (va_runV (As := []) (rest := []) ⟨hx, hb, hml, hown, hts⟩ (wm_M_thrown l D ad cI cZ cJ cG _ σ145 _ hq) (wx_cwV 0 hts wt_721 wt_719 wt_720 wt_7 wt_718 wh_M_thrown rfl rfl ⟨Nat.le_of_ble_eq_true rfl, Nat.le_of_ble_eq_true rfl⟩) (wx_preV hK hP hD hS hA hC (by decide) rfl rfl) rfl rfl hl.1 rfl (lv_room (Nat.le_of_ble_eq_true rfl)) wd_K_law_459 ⟨by show _ ≤ 600002; omega, by show _ ≤ 7302232; omega⟩) hD hS hA (fun H locs hP hD hS => ?_)
    refine lv_iload hx hb wd_K_law_462 (lv_at hl 0 rfl) ?_
    refine lv_icmp_eq (tgt := 469) hx hb wd_K_law_464 (by decide) (fun c148 => ?_) (fun c148 => ?_)
    · have hf := wc_t c148 hf
      refine lv_goto (tgt := 1031) hx hb wd_K_law_469 (by decide) ?_
      refine W.widen (k := 90 + 2 * t + 2) (n := 700 + 12 * t + 12) (by omega) (by omega) ?_
      exact J1031 k23 hk23 t x4 σ146 hf htt _ _ _ hP hD hS (lv_sub hl [1, 2, 3, 4, 5] rfl)
    · have hf := wc_f c148 hf
      refine lv_iconst (v := 0) hx hb wd_K_law_467 (by decide) ?_
      exact absurd (show (0 : Int32) = 1 from (congrArg Prod.fst (Option.some.inj hf)).trans hres) (by decide)
  have J472 : ∀ (k23 : Nat → Int32 → wc_S → Option (Int32 × wc_S)) (hk23 : (∀ (t : Nat) (x4 : Int32) (σ : wc_S), k23 t x4 σ = some res → wx_Arr p l e room_1 s m #[Value.ref b] below meth c D ad cI cZ cJ cG (fun q : Nat => s.heap.size ≤ q) (lw_Z below #[Value.ref b] s) 7 (90 + 2 * t + 0) (700 + 12 * t + 0) 23 [(0, .ref b), (1, .ref (ad 0)), (2, .ref (ad 71)), (3, .ref (ad 88)), (4, .int x4)] [] σ)) (t : Nat) (x4 : Int32) (σ : wc_S), wf_law_472 L xs k23 t x4 σ = some res → t < 600 → wx_Arr p l e room_1 s m #[Value.ref b] below meth c D ad cI cZ cJ cG (fun q : Nat => s.heap.size ≤ q) (lw_Z below #[Value.ref b] s) 7 (90 + 2 * t + 0) (700 + 12 * t + 0) 472 [(0, .ref b), (1, .ref (ad 0)), (2, .ref (ad 71)), (3, .ref (ad 88)), (4, .int x4)] [] σ := by
    intro k23 hk23 t x4 σ hf htt H locs ls hP hD hS hl
    unfold wf_law_472 at hf
    refine lv_aload_n hx hb wd_K_law_472 rfl (lv_at hl 1 rfl) ?_
    refine lv_aload_n hx hb wd_K_law_473 rfl (lv_at hl 0 rfl) ?_
    refine lv_iload hx hb wd_K_law_474 (lv_at hl 4 rfl) ?_
    refine lv_iconst (v := 1) hx hb wd_K_law_476 (by decide) ?_
    refine lv_iadd hx hb wd_K_law_477 ?_
    refine lv_topi (fun v149 ev149 => ?_)
    have hf := wc_st_e ev149 hf
    obtain ⟨h150, hf⟩ := wc_gd_e hf
    refine va_sld hx hb hX hbl hbA hS (wc_in_e h150) wd_K_law_478 ?_
    refine lv_topi (fun v151 ev151 => ?_)
    have hf := wc_st_e ev151 hf
    refine lv_aload_n hx hb wd_K_law_479 rfl (lv_at hl 0 rfl) ?_
    refine lv_iload hx hb wd_K_law_480 (lv_at hl 4 rfl) ?_
    refine lv_iconst (v := 2) hx hb wd_K_law_482 (by decide) ?_
    refine lv_iadd hx hb wd_K_law_483 ?_
    refine lv_topi (fun v152 ev152 => ?_)
    have hf := wc_st_e ev152 hf
    obtain ⟨h153, hf⟩ := wc_gd_e hf
    refine va_sld hx hb hX hbl hbA hS (wc_in_e h153) wd_K_law_484 ?_
    refine lv_topi (fun v154 ev154 => ?_)
    have hf := wc_st_e ev154 hf
    refine lv_aload_n hx hb wd_K_law_485 rfl (lv_at hl 0 rfl) ?_
    refine lv_iload hx hb wd_K_law_486 (lv_at hl 4 rfl) ?_
    refine lv_iconst (v := 3) hx hb wd_K_law_488 (by decide) ?_
    refine lv_iadd hx hb wd_K_law_489 ?_
    refine lv_topi (fun v155 ev155 => ?_)
    have hf := wc_st_e ev155 hf
    obtain ⟨h156, hf⟩ := wc_gd_e hf
    refine va_sld hx hb hX hbl hbA hS (wc_in_e h156) wd_K_law_490 ?_
    refine lv_topi (fun v157 ev157 => ?_)
    have hf := wc_st_e ev157 hf
    refine lv_aload_n hx hb wd_K_law_491 rfl (lv_at hl 0 rfl) ?_
    refine lv_iload hx hb wd_K_law_492 (lv_at hl 4 rfl) ?_
    refine lv_iconst (v := 4) hx hb wd_K_law_494 (by decide) ?_
    refine lv_iadd hx hb wd_K_law_495 ?_
    refine lv_topi (fun v158 ev158 => ?_)
    have hf := wc_st_e ev158 hf
    obtain ⟨h159, hf⟩ := wc_gd_e hf
    refine va_sld hx hb hX hbl hbA hS (wc_in_e h159) wd_K_law_496 ?_
    refine lv_topi (fun v160 ev160 => ?_)
    have hf := wc_st_e ev160 hf
    obtain ⟨r162, σ161, hq, hf⟩ := wc_b2_e hf
    refine wx_callik (wz_runSW (As := [.ref (ad 0), .int v151, .int v154, .int v157, .int v160]) (rest := []) ⟨hx, hb, hml, hown, hts⟩ (wm_K_rules l D ad cI cZ cJ cG htr _ v151 v154 v157 v160 σ _ hq) wt_439 wt_438 wt_0 wt_437 wh_K_rules rfl rfl ⟨Nat.le_of_ble_eq_true rfl, Nat.le_of_ble_eq_true rfl⟩ (wx_preS hK hP hD hS hA hC) rfl rfl hl.1 rfl (lv_room (Nat.le_of_ble_eq_true rfl)) wd_K_law_497 ⟨by show _ ≤ 600002; omega, by show _ ≤ 7302232; omega⟩) hD hS hA (fun H locs hP hD hS => ?_)
    refine W.widen (k := 90 + 2 * t + 1) (n := 700 + 12 * t + 6) (by omega) (by omega) ?_
    refine lv_istore (lv' := [(5, .int r162), (0, .ref b), (1, .ref (ad 0)), (2, .ref (ad 71)), (3, .ref (ad 88)), (4, .int x4)]) hx hb wd_K_law_500 hl (by decide) rfl (fun ls hl => ?_)
    refine lv_aload_n hx hb wd_K_law_502 rfl (lv_at hl 3 rfl) ?_
    refine lv_aload_n hx hb wd_K_law_503 rfl (lv_at hl 1 rfl) ?_
    refine lv_iload hx hb wd_K_law_504 (lv_at hl 5 rfl) ?_
    refine lv_iconst (v := 1) hx hb wd_K_law_506 (by decide) ?_
    refine lv_iadd hx hb wd_K_law_507 ?_
    refine lv_topi (fun v163 ev163 => ?_)
    have hf := wc_st_e ev163 hf
    obtain ⟨h164, hf⟩ := wc_gd_e hf
    refine va_sld hx hb hX hbl hbA hS (wc_in_e h164) wd_K_law_508 ?_
    refine lv_topi (fun v165 ev165 => ?_)
    have hf := wc_st_e ev165 hf
    refine lv_aload_n hx hb wd_K_law_509 rfl (lv_at hl 1 rfl) ?_
    refine lv_iload hx hb wd_K_law_510 (lv_at hl 5 rfl) ?_
    refine lv_iconst (v := 2) hx hb wd_K_law_512 (by decide) ?_
    refine lv_iadd hx hb wd_K_law_513 ?_
    refine lv_topi (fun v166 ev166 => ?_)
    have hf := wc_st_e ev166 hf
    obtain ⟨h167, hf⟩ := wc_gd_e hf
    refine va_sld hx hb hX hbl hbA hS (wc_in_e h167) wd_K_law_514 ?_
    refine lv_topi (fun v168 ev168 => ?_)
    have hf := wc_st_e ev168 hf
    refine lv_aload_n hx hb wd_K_law_515 rfl (lv_at hl 1 rfl) ?_
    refine lv_iload hx hb wd_K_law_516 (lv_at hl 5 rfl) ?_
    refine lv_iconst (v := 3) hx hb wd_K_law_518 (by decide) ?_
    refine lv_iadd hx hb wd_K_law_519 ?_
    refine lv_topi (fun v169 ev169 => ?_)
    have hf := wc_st_e ev169 hf
    obtain ⟨h170, hf⟩ := wc_gd_e hf
    refine va_sld hx hb hX hbl hbA hS (wc_in_e h170) wd_K_law_520 ?_
    refine lv_topi (fun v171 ev171 => ?_)
    have hf := wc_st_e ev171 hf
    refine lv_aload_n hx hb wd_K_law_521 rfl (lv_at hl 1 rfl) ?_
    refine lv_iload hx hb wd_K_law_522 (lv_at hl 5 rfl) ?_
    refine lv_iconst (v := 4) hx hb wd_K_law_524 (by decide) ?_
    refine lv_iadd hx hb wd_K_law_525 ?_
    refine lv_topi (fun v172 ev172 => ?_)
    have hf := wc_st_e ev172 hf
    obtain ⟨h173, hf⟩ := wc_gd_e hf
    refine va_sld hx hb hX hbl hbA hS (wc_in_e h173) wd_K_law_526 ?_
    refine lv_topi (fun v174 ev174 => ?_)
    have hf := wc_st_e ev174 hf
    obtain ⟨σ175, hq, hf⟩ := wc_b1_e hf
    refine wx_callv (va_runV (As := [.int v165, .int v168, .int v171, .int v174]) (rest := []) ⟨hx, hb, hml, hown, hts⟩ (wm_M_rules l D ad cI cZ cJ cG _ v165 v168 v171 v174 σ161 _ hq) (wx_cwV 4 hts wt_760 wt_758 wt_759 wt_7 wt_757 wh_M_rules rfl rfl ⟨Nat.le_of_ble_eq_true rfl, Nat.le_of_ble_eq_true rfl⟩) (wx_preV hK hP hD hS hA hC (by decide) rfl rfl) rfl rfl hl.1 rfl (lv_room (Nat.le_of_ble_eq_true rfl)) wd_K_law_527 ⟨by show _ ≤ 600002; omega, by show _ ≤ 7302232; omega⟩) hD hS hA (fun H locs hP hD hS => ?_)
    refine lv_aload_n hx hb wd_K_law_530 rfl (lv_at hl 3 rfl) ?_
    obtain ⟨r177, σ176, hq, hf⟩ := wc_b2_e hf
    refine wx_calli (va_runV (As := []) (rest := []) ⟨hx, hb, hml, hown, hts⟩ (wm_M_thrown l D ad cI cZ cJ cG _ σ175 _ hq) (wx_cwV 0 hts wt_721 wt_719 wt_720 wt_7 wt_718 wh_M_thrown rfl rfl ⟨Nat.le_of_ble_eq_true rfl, Nat.le_of_ble_eq_true rfl⟩) (wx_preV hK hP hD hS hA hC (by decide) rfl rfl) rfl rfl hl.1 rfl (lv_room (Nat.le_of_ble_eq_true rfl)) wd_K_law_531 ⟨by show _ ≤ 600002; omega, by show _ ≤ 7302232; omega⟩) hD hS hA (fun H locs hP hD hS => ?_)
    refine lv_iload hx hb wd_K_law_534 (lv_at hl 0 rfl) ?_
    refine lv_icmp_eq (tgt := 541) hx hb wd_K_law_536 (by decide) (fun c178 => ?_) (fun c178 => ?_)
    · have hf := wc_t c178 hf
      refine lv_goto (tgt := 1031) hx hb wd_K_law_541 (by decide) ?_
      refine W.widen (k := 90 + 2 * t + 2) (n := 700 + 12 * t + 12) (by omega) (by omega) ?_
      exact J1031 k23 hk23 t x4 σ176 hf htt _ _ _ hP hD hS (lv_sub hl [1, 2, 3, 4, 5] rfl)
    · have hf := wc_f c178 hf
      refine lv_iconst (v := 0) hx hb wd_K_law_539 (by decide) ?_
      exact absurd (show (0 : Int32) = 1 from (congrArg Prod.fst (Option.some.inj hf)).trans hres) (by decide)
  have J544 : ∀ (k23 : Nat → Int32 → wc_S → Option (Int32 × wc_S)) (hk23 : (∀ (t : Nat) (x4 : Int32) (σ : wc_S), k23 t x4 σ = some res → wx_Arr p l e room_1 s m #[Value.ref b] below meth c D ad cI cZ cJ cG (fun q : Nat => s.heap.size ≤ q) (lw_Z below #[Value.ref b] s) 7 (90 + 2 * t + 0) (700 + 12 * t + 0) 23 [(0, .ref b), (1, .ref (ad 0)), (2, .ref (ad 71)), (3, .ref (ad 88)), (4, .int x4)] [] σ)) (t : Nat) (x4 : Int32) (σ : wc_S), wf_law_544 L xs k23 t x4 σ = some res → t < 600 → wx_Arr p l e room_1 s m #[Value.ref b] below meth c D ad cI cZ cJ cG (fun q : Nat => s.heap.size ≤ q) (lw_Z below #[Value.ref b] s) 7 (90 + 2 * t + 0) (700 + 12 * t + 0) 544 [(0, .ref b), (1, .ref (ad 0)), (2, .ref (ad 71)), (3, .ref (ad 88)), (4, .int x4)] [] σ := by
    intro k23 hk23 t x4 σ hf htt H locs ls hP hD hS hl
    unfold wf_law_544 at hf
    refine lv_aload_n hx hb wd_K_law_544 rfl (lv_at hl 1 rfl) ?_
    refine lv_aload_n hx hb wd_K_law_545 rfl (lv_at hl 0 rfl) ?_
    refine lv_iload hx hb wd_K_law_546 (lv_at hl 4 rfl) ?_
    refine lv_iconst (v := 1) hx hb wd_K_law_548 (by decide) ?_
    refine lv_iadd hx hb wd_K_law_549 ?_
    refine lv_topi (fun v179 ev179 => ?_)
    have hf := wc_st_e ev179 hf
    obtain ⟨h180, hf⟩ := wc_gd_e hf
    refine va_sld hx hb hX hbl hbA hS (wc_in_e h180) wd_K_law_550 ?_
    refine lv_topi (fun v181 ev181 => ?_)
    have hf := wc_st_e ev181 hf
    refine lv_aload_n hx hb wd_K_law_551 rfl (lv_at hl 3 rfl) ?_
    obtain ⟨r183, σ182, hq, hf⟩ := wc_b2_e hf
    refine wx_callik (wz_runSW (As := [.ref (ad 0), .int v181, .ref (ad 88)]) (rest := []) ⟨hx, hb, hml, hown, hts⟩ (wm_K_run l D ad cI cZ cJ cG htr _ v181 σ _ hq) wt_447 wt_446 wt_0 wt_445 wh_K_run rfl rfl ⟨Nat.le_of_ble_eq_true rfl, Nat.le_of_ble_eq_true rfl⟩ (wx_preS hK hP hD hS hA hC) rfl rfl hl.1 rfl (lv_room (Nat.le_of_ble_eq_true rfl)) wd_K_law_552 ⟨by show _ ≤ 600002; omega, by show _ ≤ 7302232; omega⟩) hD hS hA (fun H locs hP hD hS => ?_)
    refine W.widen (k := 90 + 2 * t + 1) (n := 700 + 12 * t + 6) (by omega) (by omega) ?_
    refine lv_istore (lv' := [(5, .int r183), (0, .ref b), (1, .ref (ad 0)), (2, .ref (ad 71)), (3, .ref (ad 88)), (4, .int x4)]) hx hb wd_K_law_555 hl (by decide) rfl (fun ls hl => ?_)
    refine lv_aload_n hx hb wd_K_law_557 rfl (lv_at hl 3 rfl) ?_
    refine lv_aload_n hx hb wd_K_law_558 rfl (lv_at hl 1 rfl) ?_
    refine lv_iload hx hb wd_K_law_559 (lv_at hl 5 rfl) ?_
    refine lv_iconst (v := 1) hx hb wd_K_law_561 (by decide) ?_
    refine lv_iadd hx hb wd_K_law_562 ?_
    refine lv_topi (fun v184 ev184 => ?_)
    have hf := wc_st_e ev184 hf
    obtain ⟨h185, hf⟩ := wc_gd_e hf
    refine va_sld hx hb hX hbl hbA hS (wc_in_e h185) wd_K_law_563 ?_
    refine lv_topi (fun v186 ev186 => ?_)
    have hf := wc_st_e ev186 hf
    obtain ⟨r188, σ187, hq, hf⟩ := wc_b2_e hf
    refine wx_calli (va_runV (As := [.int v186]) (rest := []) ⟨hx, hb, hml, hown, hts⟩ (wm_M_run l D ad cI cZ cJ cG _ v186 σ182 _ hq) (wx_cwV 1 hts wt_764 wt_762 wt_763 wt_7 wt_761 wh_M_run rfl rfl ⟨Nat.le_of_ble_eq_true rfl, Nat.le_of_ble_eq_true rfl⟩) (wx_preV hK hP hD hS hA hC (by decide) rfl rfl) rfl rfl hl.1 rfl (lv_room (Nat.le_of_ble_eq_true rfl)) wd_K_law_564 ⟨by show _ ≤ 600002; omega, by show _ ≤ 7302232; omega⟩) hD hS hA (fun H locs hP hD hS => ?_)
    refine lv_istore (lv' := [(6, .int r188), (5, .int r183), (0, .ref b), (1, .ref (ad 0)), (2, .ref (ad 71)), (3, .ref (ad 88)), (4, .int x4)]) hx hb wd_K_law_567 hl (by decide) rfl (fun ls hl => ?_)
    refine lv_aload_n hx hb wd_K_law_569 rfl (lv_at hl 4 rfl) ?_
    obtain ⟨r190, σ189, hq, hf⟩ := wc_b2_e hf
    refine wx_calli (va_runV (As := []) (rest := []) ⟨hx, hb, hml, hown, hts⟩ (wm_M_thrown l D ad cI cZ cJ cG _ σ187 _ hq) (wx_cwV 0 hts wt_721 wt_719 wt_720 wt_7 wt_718 wh_M_thrown rfl rfl ⟨Nat.le_of_ble_eq_true rfl, Nat.le_of_ble_eq_true rfl⟩) (wx_preV hK hP hD hS hA hC (by decide) rfl rfl) rfl rfl hl.1 rfl (lv_room (Nat.le_of_ble_eq_true rfl)) wd_K_law_570 ⟨by show _ ≤ 600002; omega, by show _ ≤ 7302232; omega⟩) hD hS hA (fun H locs hP hD hS => ?_)
    refine lv_iload hx hb wd_K_law_573 (lv_at hl 1 rfl) ?_
    refine lv_icmp_eq (tgt := 580) hx hb wd_K_law_575 (by decide) (fun c191 => ?_) (fun c191 => ?_)
    · have hf := wc_t c191 hf
      refine lv_iload hx hb wd_K_law_580 (lv_at hl 1 rfl) ?_
      refine lv_if_ne (tgt := 597) hx hb wd_K_law_582 (by decide) (fun c192 => ?_) (fun c192 => ?_)
      · have hf := wc_f c192 hf
        refine lv_goto (tgt := 1031) hx hb wd_K_law_597 (by decide) ?_
        refine W.widen (k := 90 + 2 * t + 2) (n := 700 + 12 * t + 12) (by omega) (by omega) ?_
        exact J1031 k23 hk23 t x4 σ189 hf htt _ _ _ hP hD hS (lv_sub hl [2, 3, 4, 5, 6] rfl)
      · have hf := wc_t c192 hf
        refine lv_aload_n hx hb wd_K_law_585 rfl (lv_at hl 5 rfl) ?_
        refine lv_iconst (v := 0) hx hb wd_K_law_586 (by decide) ?_
        obtain ⟨h193, hf⟩ := wc_gd_e hf
        refine wx_lald hx hb hK hP 88 (wc_in_e h193) wd_K_law_587 rfl ?_
        refine lv_topl (fun v194 ev194 => ?_)
        have hf := wc_st_e ev194 hf
        refine lv_iload hx hb wd_K_law_588 (lv_at hl 0 rfl) ?_
        refine lv_i2l hx hb wd_K_law_590 rfl ?_
        refine lv_topl (fun v195 ev195 => ?_)
        have hf := wc_st_e ev195 hf
        refine W.lcmp hx hb wd_K_law_591 ?_
        refine lv_topi (fun v196 ev196 => ?_)
        have hf := wc_st_e ev196 hf
        refine lv_if_eq (tgt := 597) hx hb wd_K_law_592 (by decide) (fun c197 => ?_) (fun c197 => ?_)
        · have hf := wc_t c197 hf
          refine lv_goto (tgt := 1031) hx hb wd_K_law_597 (by decide) ?_
          refine W.widen (k := 90 + 2 * t + 2) (n := 700 + 12 * t + 12) (by omega) (by omega) ?_
          exact J1031 k23 hk23 t x4 σ189 hf htt _ _ _ hP hD hS (lv_sub hl [2, 3, 4, 5, 6] rfl)
        · have hf := wc_f c197 hf
          refine lv_iconst (v := 0) hx hb wd_K_law_595 (by decide) ?_
          exact absurd (show (0 : Int32) = 1 from (congrArg Prod.fst (Option.some.inj hf)).trans hres) (by decide)
    · have hf := wc_f c191 hf
      refine lv_iconst (v := 0) hx hb wd_K_law_578 (by decide) ?_
      exact absurd (show (0 : Int32) = 1 from (congrArg Prod.fst (Option.some.inj hf)).trans hres) (by decide)
  have J642 : ∀ (k23 : Nat → Int32 → wc_S → Option (Int32 × wc_S)) (hk23 : (∀ (t : Nat) (x4 : Int32) (σ : wc_S), k23 t x4 σ = some res → wx_Arr p l e room_1 s m #[Value.ref b] below meth c D ad cI cZ cJ cG (fun q : Nat => s.heap.size ≤ q) (lw_Z below #[Value.ref b] s) 7 (90 + 2 * t + 0) (700 + 12 * t + 0) 23 [(0, .ref b), (1, .ref (ad 0)), (2, .ref (ad 71)), (3, .ref (ad 88)), (4, .int x4)] [] σ)) (t : Nat) (x4 : Int32) (s0 : Int64) (s1 : Int64) (σ : wc_S), wf_law_642 L xs k23 t x4 s0 s1 σ = some res → t < 600 → wx_Arr p l e room_1 s m #[Value.ref b] below meth c D ad cI cZ cJ cG (fun q : Nat => s.heap.size ≤ q) (lw_Z below #[Value.ref b] s) 7 (90 + 2 * t + 2) (700 + 12 * t + 12) 642 [(0, .ref b), (1, .ref (ad 0)), (2, .ref (ad 71)), (3, .ref (ad 88)), (4, .int x4)] [.long s1, .long s0] σ := by
    intro k23 hk23 t x4 s0 s1 σ hf htt H locs ls hP hD hS hl
    unfold wf_law_642 at hf
    refine W.lcmp hx hb wd_K_law_642 ?_
    refine lv_topi (fun v209 ev209 => ?_)
    have hf := wc_st_e ev209 hf
    refine lv_if_eq (tgt := 648) hx hb wd_K_law_643 (by decide) (fun c210 => ?_) (fun c210 => ?_)
    · have hf := wc_t c210 hf
      refine lv_goto (tgt := 1031) hx hb wd_K_law_648 (by decide) ?_
      refine W.widen (k := 90 + 2 * t + 2) (n := 700 + 12 * t + 12) (by omega) (by omega) ?_
      exact J1031 k23 hk23 t x4 σ hf htt _ _ _ hP hD hS (lv_sub hl [0, 1, 2, 3, 4] rfl)
    · have hf := wc_f c210 hf
      refine lv_iconst (v := 0) hx hb wd_K_law_646 (by decide) ?_
      exact absurd (show (0 : Int32) = 1 from (congrArg Prod.fst (Option.some.inj hf)).trans hres) (by decide)
  have J600 : ∀ (k23 : Nat → Int32 → wc_S → Option (Int32 × wc_S)) (hk23 : (∀ (t : Nat) (x4 : Int32) (σ : wc_S), k23 t x4 σ = some res → wx_Arr p l e room_1 s m #[Value.ref b] below meth c D ad cI cZ cJ cG (fun q : Nat => s.heap.size ≤ q) (lw_Z below #[Value.ref b] s) 7 (90 + 2 * t + 0) (700 + 12 * t + 0) 23 [(0, .ref b), (1, .ref (ad 0)), (2, .ref (ad 71)), (3, .ref (ad 88)), (4, .int x4)] [] σ)) (t : Nat) (x4 : Int32) (σ : wc_S), wf_law_600 L xs k23 t x4 σ = some res → t < 600 → wx_Arr p l e room_1 s m #[Value.ref b] below meth c D ad cI cZ cJ cG (fun q : Nat => s.heap.size ≤ q) (lw_Z below #[Value.ref b] s) 7 (90 + 2 * t + 0) (700 + 12 * t + 0) 600 [(0, .ref b), (1, .ref (ad 0)), (2, .ref (ad 71)), (3, .ref (ad 88)), (4, .int x4)] [] σ := by
    intro k23 hk23 t x4 σ hf htt H locs ls hP hD hS hl
    unfold wf_law_600 at hf
    refine lv_aload_n hx hb wd_K_law_600 rfl (lv_at hl 1 rfl) ?_
    refine lv_aload_n hx hb wd_K_law_601 rfl (lv_at hl 3 rfl) ?_
    obtain ⟨r199, σ198, hq, hf⟩ := wc_b2_e hf
    refine wx_callik (wz_runSW (As := [.ref (ad 0), .ref (ad 88)]) (rest := []) ⟨hx, hb, hml, hown, hts⟩ (wm_K_proved l D ad cI cZ cJ cG htr _ σ _ hq) wt_523 wt_522 wt_0 wt_521 wh_K_proved rfl rfl ⟨Nat.le_of_ble_eq_true rfl, Nat.le_of_ble_eq_true rfl⟩ (wx_preS hK hP hD hS hA hC) rfl rfl hl.1 rfl (lv_room (Nat.le_of_ble_eq_true rfl)) wd_K_law_602 ⟨by show _ ≤ 600002; omega, by show _ ≤ 7302232; omega⟩) hD hS hA (fun H locs hP hD hS => ?_)
    refine W.widen (k := 90 + 2 * t + 1) (n := 700 + 12 * t + 6) (by omega) (by omega) ?_
    refine lv_istore (lv' := [(5, .int r199), (0, .ref b), (1, .ref (ad 0)), (2, .ref (ad 71)), (3, .ref (ad 88)), (4, .int x4)]) hx hb wd_K_law_605 hl (by decide) rfl (fun ls hl => ?_)
    refine lv_aload_n hx hb wd_K_law_607 rfl (lv_at hl 3 rfl) ?_
    obtain ⟨r201, σ200, hq, hf⟩ := wc_b2_e hf
    refine wx_calli (va_runV (As := []) (rest := []) ⟨hx, hb, hml, hown, hts⟩ (wm_M_proved l D ad cI cZ cJ cG _ σ198 _ hq) (wx_cwV 0 hts wt_793 wt_791 wt_792 wt_7 wt_790 wh_M_proved rfl rfl ⟨Nat.le_of_ble_eq_true rfl, Nat.le_of_ble_eq_true rfl⟩) (wx_preV hK hP hD hS hA hC (by decide) rfl rfl) rfl rfl hl.1 rfl (lv_room (Nat.le_of_ble_eq_true rfl)) wd_K_law_608 ⟨by show _ ≤ 600002; omega, by show _ ≤ 7302232; omega⟩) hD hS hA (fun H locs hP hD hS => ?_)
    refine lv_istore (lv' := [(6, .int r201), (5, .int r199), (0, .ref b), (1, .ref (ad 0)), (2, .ref (ad 71)), (3, .ref (ad 88)), (4, .int x4)]) hx hb wd_K_law_611 hl (by decide) rfl (fun ls hl => ?_)
    refine lv_aload_n hx hb wd_K_law_613 rfl (lv_at hl 4 rfl) ?_
    obtain ⟨r203, σ202, hq, hf⟩ := wc_b2_e hf
    refine wx_calli (va_runV (As := []) (rest := []) ⟨hx, hb, hml, hown, hts⟩ (wm_M_thrown l D ad cI cZ cJ cG _ σ200 _ hq) (wx_cwV 0 hts wt_721 wt_719 wt_720 wt_7 wt_718 wh_M_thrown rfl rfl ⟨Nat.le_of_ble_eq_true rfl, Nat.le_of_ble_eq_true rfl⟩) (wx_preV hK hP hD hS hA hC (by decide) rfl rfl) rfl rfl hl.1 rfl (lv_room (Nat.le_of_ble_eq_true rfl)) wd_K_law_614 ⟨by show _ ≤ 600002; omega, by show _ ≤ 7302232; omega⟩) hD hS hA (fun H locs hP hD hS => ?_)
    refine lv_iload hx hb wd_K_law_617 (lv_at hl 1 rfl) ?_
    refine lv_icmp_eq (tgt := 624) hx hb wd_K_law_619 (by decide) (fun c204 => ?_) (fun c204 => ?_)
    · have hf := wc_t c204 hf
      refine lv_iload hx hb wd_K_law_624 (lv_at hl 1 rfl) ?_
      refine lv_if_ne (tgt := 648) hx hb wd_K_law_626 (by decide) (fun c205 => ?_) (fun c205 => ?_)
      · have hf := wc_f c205 hf
        refine lv_goto (tgt := 1031) hx hb wd_K_law_648 (by decide) ?_
        refine W.widen (k := 90 + 2 * t + 2) (n := 700 + 12 * t + 12) (by omega) (by omega) ?_
        exact J1031 k23 hk23 t x4 σ202 hf htt _ _ _ hP hD hS (lv_sub hl [2, 3, 4, 5, 6] rfl)
      · have hf := wc_t c205 hf
        refine lv_aload_n hx hb wd_K_law_629 rfl (lv_at hl 5 rfl) ?_
        refine lv_iconst (v := 0) hx hb wd_K_law_630 (by decide) ?_
        obtain ⟨h206, hf⟩ := wc_gd_e hf
        refine wx_lald hx hb hK hP 88 (wc_in_e h206) wd_K_law_631 rfl ?_
        refine lv_topl (fun v207 ev207 => ?_)
        have hf := wc_st_e ev207 hf
        refine lv_iload hx hb wd_K_law_632 (lv_at hl 0 rfl) ?_
        refine lv_if_eq (tgt := 641) hx hb wd_K_law_634 (by decide) (fun c208 => ?_) (fun c208 => ?_)
        · have hf := wc_t c208 hf
          refine lv_lconst (v := 0) hx hb wd_K_law_641 (by decide) ?_
          refine W.widen (k := 90 + 2 * t + 2) (n := 700 + 12 * t + 12) (by omega) (by omega) ?_
          exact J642 k23 hk23 t x4 v207 0 σ202 hf htt _ _ _ hP hD hS (lv_sub hl [2, 3, 4, 5, 6] rfl)
        · have hf := wc_f c208 hf
          refine lv_lconst (v := 1) hx hb wd_K_law_637 (by decide) ?_
          refine lv_goto (tgt := 642) hx hb wd_K_law_638 (by decide) ?_
          refine W.widen (k := 90 + 2 * t + 2) (n := 700 + 12 * t + 12) (by omega) (by omega) ?_
          exact J642 k23 hk23 t x4 v207 1 σ202 hf htt _ _ _ hP hD hS (lv_sub hl [2, 3, 4, 5, 6] rfl)
    · have hf := wc_f c204 hf
      refine lv_iconst (v := 0) hx hb wd_K_law_622 (by decide) ?_
      exact absurd (show (0 : Int32) = 1 from (congrArg Prod.fst (Option.some.inj hf)).trans hres) (by decide)
  have J651 : ∀ (k23 : Nat → Int32 → wc_S → Option (Int32 × wc_S)) (hk23 : (∀ (t : Nat) (x4 : Int32) (σ : wc_S), k23 t x4 σ = some res → wx_Arr p l e room_1 s m #[Value.ref b] below meth c D ad cI cZ cJ cG (fun q : Nat => s.heap.size ≤ q) (lw_Z below #[Value.ref b] s) 7 (90 + 2 * t + 0) (700 + 12 * t + 0) 23 [(0, .ref b), (1, .ref (ad 0)), (2, .ref (ad 71)), (3, .ref (ad 88)), (4, .int x4)] [] σ)) (t : Nat) (x4 : Int32) (σ : wc_S), wf_law_651 L xs k23 t x4 σ = some res → t < 600 → wx_Arr p l e room_1 s m #[Value.ref b] below meth c D ad cI cZ cJ cG (fun q : Nat => s.heap.size ≤ q) (lw_Z below #[Value.ref b] s) 7 (90 + 2 * t + 0) (700 + 12 * t + 0) 651 [(0, .ref b), (1, .ref (ad 0)), (2, .ref (ad 71)), (3, .ref (ad 88)), (4, .int x4)] [] σ := by
    intro k23 hk23 t x4 σ hf htt H locs ls hP hD hS hl
    unfold wf_law_651 at hf
    refine lv_aload_n hx hb wd_K_law_651 rfl (lv_at hl 1 rfl) ?_
    refine lv_aload_n hx hb wd_K_law_652 rfl (lv_at hl 0 rfl) ?_
    refine lv_iload hx hb wd_K_law_653 (lv_at hl 4 rfl) ?_
    refine lv_iconst (v := 1) hx hb wd_K_law_655 (by decide) ?_
    refine lv_iadd hx hb wd_K_law_656 ?_
    refine lv_topi (fun v211 ev211 => ?_)
    have hf := wc_st_e ev211 hf
    obtain ⟨h212, hf⟩ := wc_gd_e hf
    refine va_sld hx hb hX hbl hbA hS (wc_in_e h212) wd_K_law_657 ?_
    refine lv_topi (fun v213 ev213 => ?_)
    have hf := wc_st_e ev213 hf
    refine lv_aload_n hx hb wd_K_law_658 rfl (lv_at hl 3 rfl) ?_
    obtain ⟨r215, σ214, hq, hf⟩ := wc_b2_e hf
    refine wx_callik (wz_runSW (As := [.ref (ad 0), .int v213, .ref (ad 88)]) (rest := []) ⟨hx, hb, hml, hown, hts⟩ (wm_K_order l D ad cI cZ cJ cG htr _ v213 σ _ hq) wt_547 wt_546 wt_0 wt_545 wh_K_order rfl rfl ⟨Nat.le_of_ble_eq_true rfl, Nat.le_of_ble_eq_true rfl⟩ (wx_preS hK hP hD hS hA hC) rfl rfl hl.1 rfl (lv_room (Nat.le_of_ble_eq_true rfl)) wd_K_law_659 ⟨by show _ ≤ 600002; omega, by show _ ≤ 7302232; omega⟩) hD hS hA (fun H locs hP hD hS => ?_)
    refine W.widen (k := 90 + 2 * t + 2) (n := 700 + 12 * t + 12) (by omega) (by omega) ?_
    refine lv_istore (lv' := [(5, .int r215), (0, .ref b), (1, .ref (ad 0)), (2, .ref (ad 71)), (3, .ref (ad 88)), (4, .int x4)]) hx hb wd_K_law_662 hl (by decide) rfl (fun ls hl => ?_)
    refine lv_aload_n hx hb wd_K_law_664 rfl (lv_at hl 3 rfl) ?_
    refine lv_aload_n hx hb wd_K_law_665 rfl (lv_at hl 1 rfl) ?_
    refine lv_iload hx hb wd_K_law_666 (lv_at hl 5 rfl) ?_
    refine lv_iconst (v := 1) hx hb wd_K_law_668 (by decide) ?_
    refine lv_iadd hx hb wd_K_law_669 ?_
    refine lv_topi (fun v216 ev216 => ?_)
    have hf := wc_st_e ev216 hf
    obtain ⟨h217, hf⟩ := wc_gd_e hf
    refine va_sld hx hb hX hbl hbA hS (wc_in_e h217) wd_K_law_670 ?_
    refine lv_topi (fun v218 ev218 => ?_)
    have hf := wc_st_e ev218 hf
    obtain ⟨r220, σ219, hq, hf⟩ := wc_b2_e hf
    refine wx_calli (va_runV (As := [.int v218]) (rest := []) ⟨hx, hb, hml, hown, hts⟩ (wm_M_order l D ad cI cZ cJ cG _ v218 σ214 _ hq) (wx_cwV 1 hts wt_797 wt_795 wt_796 wt_7 wt_794 wh_M_order rfl rfl ⟨Nat.le_of_ble_eq_true rfl, Nat.le_of_ble_eq_true rfl⟩) (wx_preV hK hP hD hS hA hC (by decide) rfl rfl) rfl rfl hl.1 rfl (lv_room (Nat.le_of_ble_eq_true rfl)) wd_K_law_671 ⟨by show _ ≤ 600002; omega, by show _ ≤ 7302232; omega⟩) hD hS hA (fun H locs hP hD hS => ?_)
    refine lv_istore (lv' := [(6, .int r220), (5, .int r215), (0, .ref b), (1, .ref (ad 0)), (2, .ref (ad 71)), (3, .ref (ad 88)), (4, .int x4)]) hx hb wd_K_law_674 hl (by decide) rfl (fun ls hl => ?_)
    refine lv_aload_n hx hb wd_K_law_676 rfl (lv_at hl 4 rfl) ?_
    obtain ⟨r222, σ221, hq, hf⟩ := wc_b2_e hf
    refine wx_calli (va_runV (As := []) (rest := []) ⟨hx, hb, hml, hown, hts⟩ (wm_M_thrown l D ad cI cZ cJ cG _ σ219 _ hq) (wx_cwV 0 hts wt_721 wt_719 wt_720 wt_7 wt_718 wh_M_thrown rfl rfl ⟨Nat.le_of_ble_eq_true rfl, Nat.le_of_ble_eq_true rfl⟩) (wx_preV hK hP hD hS hA hC (by decide) rfl rfl) rfl rfl hl.1 rfl (lv_room (Nat.le_of_ble_eq_true rfl)) wd_K_law_677 ⟨by show _ ≤ 600002; omega, by show _ ≤ 7302232; omega⟩) hD hS hA (fun H locs hP hD hS => ?_)
    refine lv_iload hx hb wd_K_law_680 (lv_at hl 1 rfl) ?_
    refine lv_icmp_eq (tgt := 687) hx hb wd_K_law_682 (by decide) (fun c223 => ?_) (fun c223 => ?_)
    · have hf := wc_t c223 hf
      refine lv_iload hx hb wd_K_law_687 (lv_at hl 1 rfl) ?_
      refine lv_if_ne (tgt := 704) hx hb wd_K_law_689 (by decide) (fun c224 => ?_) (fun c224 => ?_)
      · have hf := wc_f c224 hf
        refine lv_goto (tgt := 1031) hx hb wd_K_law_704 (by decide) ?_
        refine W.widen (k := 90 + 2 * t + 2) (n := 700 + 12 * t + 12) (by omega) (by omega) ?_
        exact J1031 k23 hk23 t x4 σ221 hf htt _ _ _ hP hD hS (lv_sub hl [2, 3, 4, 5, 6] rfl)
      · have hf := wc_t c224 hf
        refine lv_aload_n hx hb wd_K_law_692 rfl (lv_at hl 5 rfl) ?_
        refine lv_iconst (v := 0) hx hb wd_K_law_693 (by decide) ?_
        obtain ⟨h225, hf⟩ := wc_gd_e hf
        refine wx_lald hx hb hK hP 88 (wc_in_e h225) wd_K_law_694 rfl ?_
        refine lv_topl (fun v226 ev226 => ?_)
        have hf := wc_st_e ev226 hf
        refine lv_iload hx hb wd_K_law_695 (lv_at hl 0 rfl) ?_
        refine lv_i2l hx hb wd_K_law_697 rfl ?_
        refine lv_topl (fun v227 ev227 => ?_)
        have hf := wc_st_e ev227 hf
        refine W.lcmp hx hb wd_K_law_698 ?_
        refine lv_topi (fun v228 ev228 => ?_)
        have hf := wc_st_e ev228 hf
        refine lv_if_eq (tgt := 704) hx hb wd_K_law_699 (by decide) (fun c229 => ?_) (fun c229 => ?_)
        · have hf := wc_t c229 hf
          refine lv_goto (tgt := 1031) hx hb wd_K_law_704 (by decide) ?_
          refine W.widen (k := 90 + 2 * t + 2) (n := 700 + 12 * t + 12) (by omega) (by omega) ?_
          exact J1031 k23 hk23 t x4 σ221 hf htt _ _ _ hP hD hS (lv_sub hl [2, 3, 4, 5, 6] rfl)
        · have hf := wc_f c229 hf
          refine lv_iconst (v := 0) hx hb wd_K_law_702 (by decide) ?_
          exact absurd (show (0 : Int32) = 1 from (congrArg Prod.fst (Option.some.inj hf)).trans hres) (by decide)
    · have hf := wc_f c223 hf
      refine lv_iconst (v := 0) hx hb wd_K_law_685 (by decide) ?_
      exact absurd (show (0 : Int32) = 1 from (congrArg Prod.fst (Option.some.inj hf)).trans hres) (by decide)
  have J707 : ∀ (k23 : Nat → Int32 → wc_S → Option (Int32 × wc_S)) (hk23 : (∀ (t : Nat) (x4 : Int32) (σ : wc_S), k23 t x4 σ = some res → wx_Arr p l e room_1 s m #[Value.ref b] below meth c D ad cI cZ cJ cG (fun q : Nat => s.heap.size ≤ q) (lw_Z below #[Value.ref b] s) 7 (90 + 2 * t + 0) (700 + 12 * t + 0) 23 [(0, .ref b), (1, .ref (ad 0)), (2, .ref (ad 71)), (3, .ref (ad 88)), (4, .int x4)] [] σ)) (t : Nat) (x4 : Int32) (σ : wc_S), wf_law_707 L xs k23 t x4 σ = some res → t < 600 → wx_Arr p l e room_1 s m #[Value.ref b] below meth c D ad cI cZ cJ cG (fun q : Nat => s.heap.size ≤ q) (lw_Z below #[Value.ref b] s) 7 (90 + 2 * t + 0) (700 + 12 * t + 0) 707 [(0, .ref b), (1, .ref (ad 0)), (2, .ref (ad 71)), (3, .ref (ad 88)), (4, .int x4)] [] σ := by
    intro k23 hk23 t x4 σ hf htt H locs ls hP hD hS hl
    unfold wf_law_707 at hf
    refine lv_aload_n hx hb wd_K_law_707 rfl (lv_at hl 1 rfl) ?_
    refine lv_aload_n hx hb wd_K_law_708 rfl (lv_at hl 0 rfl) ?_
    refine lv_iload hx hb wd_K_law_709 (lv_at hl 4 rfl) ?_
    refine lv_iconst (v := 1) hx hb wd_K_law_711 (by decide) ?_
    refine lv_iadd hx hb wd_K_law_712 ?_
    refine lv_topi (fun v230 ev230 => ?_)
    have hf := wc_st_e ev230 hf
    obtain ⟨h231, hf⟩ := wc_gd_e hf
    refine va_sld hx hb hX hbl hbA hS (wc_in_e h231) wd_K_law_713 ?_
    refine lv_topi (fun v232 ev232 => ?_)
    have hf := wc_st_e ev232 hf
    refine lv_aload_n hx hb wd_K_law_714 rfl (lv_at hl 3 rfl) ?_
    obtain ⟨r234, σ233, hq, hf⟩ := wc_b2_e hf
    refine wx_callik (wz_runSW (As := [.ref (ad 0), .int v232, .ref (ad 88)]) (rest := []) ⟨hx, hb, hml, hown, hts⟩ (wm_K_told l D ad cI cZ cJ cG htr _ v232 σ _ hq) wt_564 wt_563 wt_0 wt_562 wh_K_told rfl rfl ⟨Nat.le_of_ble_eq_true rfl, Nat.le_of_ble_eq_true rfl⟩ (wx_preS hK hP hD hS hA hC) rfl rfl hl.1 rfl (lv_room (Nat.le_of_ble_eq_true rfl)) wd_K_law_715 ⟨by show _ ≤ 600002; omega, by show _ ≤ 7302232; omega⟩) hD hS hA (fun H locs hP hD hS => ?_)
    refine W.widen (k := 90 + 2 * t + 2) (n := 700 + 12 * t + 12) (by omega) (by omega) ?_
    refine lv_istore (lv' := [(5, .int r234), (0, .ref b), (1, .ref (ad 0)), (2, .ref (ad 71)), (3, .ref (ad 88)), (4, .int x4)]) hx hb wd_K_law_718 hl (by decide) rfl (fun ls hl => ?_)
    refine lv_aload_n hx hb wd_K_law_720 rfl (lv_at hl 3 rfl) ?_
    refine lv_aload_n hx hb wd_K_law_721 rfl (lv_at hl 1 rfl) ?_
    refine lv_iload hx hb wd_K_law_722 (lv_at hl 5 rfl) ?_
    refine lv_iconst (v := 1) hx hb wd_K_law_724 (by decide) ?_
    refine lv_iadd hx hb wd_K_law_725 ?_
    refine lv_topi (fun v235 ev235 => ?_)
    have hf := wc_st_e ev235 hf
    obtain ⟨h236, hf⟩ := wc_gd_e hf
    refine va_sld hx hb hX hbl hbA hS (wc_in_e h236) wd_K_law_726 ?_
    refine lv_topi (fun v237 ev237 => ?_)
    have hf := wc_st_e ev237 hf
    obtain ⟨r239, σ238, hq, hf⟩ := wc_b2_e hf
    refine wx_calli (va_runV (As := [.int v237]) (rest := []) ⟨hx, hb, hml, hown, hts⟩ (wm_M_told l D ad cI cZ cJ cG _ v237 σ233 _ hq) (wx_cwV 1 hts wt_801 wt_799 wt_800 wt_7 wt_798 wh_M_told rfl rfl ⟨Nat.le_of_ble_eq_true rfl, Nat.le_of_ble_eq_true rfl⟩) (wx_preV hK hP hD hS hA hC (by decide) rfl rfl) rfl rfl hl.1 rfl (lv_room (Nat.le_of_ble_eq_true rfl)) wd_K_law_727 ⟨by show _ ≤ 600002; omega, by show _ ≤ 7302232; omega⟩) hD hS hA (fun H locs hP hD hS => ?_)
    refine lv_istore (lv' := [(6, .int r239), (5, .int r234), (0, .ref b), (1, .ref (ad 0)), (2, .ref (ad 71)), (3, .ref (ad 88)), (4, .int x4)]) hx hb wd_K_law_730 hl (by decide) rfl (fun ls hl => ?_)
    refine lv_aload_n hx hb wd_K_law_732 rfl (lv_at hl 4 rfl) ?_
    obtain ⟨r241, σ240, hq, hf⟩ := wc_b2_e hf
    refine wx_calli (va_runV (As := []) (rest := []) ⟨hx, hb, hml, hown, hts⟩ (wm_M_thrown l D ad cI cZ cJ cG _ σ238 _ hq) (wx_cwV 0 hts wt_721 wt_719 wt_720 wt_7 wt_718 wh_M_thrown rfl rfl ⟨Nat.le_of_ble_eq_true rfl, Nat.le_of_ble_eq_true rfl⟩) (wx_preV hK hP hD hS hA hC (by decide) rfl rfl) rfl rfl hl.1 rfl (lv_room (Nat.le_of_ble_eq_true rfl)) wd_K_law_733 ⟨by show _ ≤ 600002; omega, by show _ ≤ 7302232; omega⟩) hD hS hA (fun H locs hP hD hS => ?_)
    refine lv_iload hx hb wd_K_law_736 (lv_at hl 1 rfl) ?_
    refine lv_icmp_eq (tgt := 743) hx hb wd_K_law_738 (by decide) (fun c242 => ?_) (fun c242 => ?_)
    · have hf := wc_t c242 hf
      refine lv_iload hx hb wd_K_law_743 (lv_at hl 1 rfl) ?_
      refine lv_if_ne (tgt := 760) hx hb wd_K_law_745 (by decide) (fun c243 => ?_) (fun c243 => ?_)
      · have hf := wc_f c243 hf
        refine lv_goto (tgt := 1031) hx hb wd_K_law_760 (by decide) ?_
        refine W.widen (k := 90 + 2 * t + 2) (n := 700 + 12 * t + 12) (by omega) (by omega) ?_
        exact J1031 k23 hk23 t x4 σ240 hf htt _ _ _ hP hD hS (lv_sub hl [2, 3, 4, 5, 6] rfl)
      · have hf := wc_t c243 hf
        refine lv_aload_n hx hb wd_K_law_748 rfl (lv_at hl 5 rfl) ?_
        refine lv_iconst (v := 0) hx hb wd_K_law_749 (by decide) ?_
        obtain ⟨h244, hf⟩ := wc_gd_e hf
        refine wx_lald hx hb hK hP 88 (wc_in_e h244) wd_K_law_750 rfl ?_
        refine lv_topl (fun v245 ev245 => ?_)
        have hf := wc_st_e ev245 hf
        refine lv_iload hx hb wd_K_law_751 (lv_at hl 0 rfl) ?_
        refine lv_i2l hx hb wd_K_law_753 rfl ?_
        refine lv_topl (fun v246 ev246 => ?_)
        have hf := wc_st_e ev246 hf
        refine W.lcmp hx hb wd_K_law_754 ?_
        refine lv_topi (fun v247 ev247 => ?_)
        have hf := wc_st_e ev247 hf
        refine lv_if_eq (tgt := 760) hx hb wd_K_law_755 (by decide) (fun c248 => ?_) (fun c248 => ?_)
        · have hf := wc_t c248 hf
          refine lv_goto (tgt := 1031) hx hb wd_K_law_760 (by decide) ?_
          refine W.widen (k := 90 + 2 * t + 2) (n := 700 + 12 * t + 12) (by omega) (by omega) ?_
          exact J1031 k23 hk23 t x4 σ240 hf htt _ _ _ hP hD hS (lv_sub hl [2, 3, 4, 5, 6] rfl)
        · have hf := wc_f c248 hf
          refine lv_iconst (v := 0) hx hb wd_K_law_758 (by decide) ?_
          exact absurd (show (0 : Int32) = 1 from (congrArg Prod.fst (Option.some.inj hf)).trans hres) (by decide)
    · have hf := wc_f c242 hf
      refine lv_iconst (v := 0) hx hb wd_K_law_741 (by decide) ?_
      exact absurd (show (0 : Int32) = 1 from (congrArg Prod.fst (Option.some.inj hf)).trans hres) (by decide)
  have J817 : ∀ (k23 : Nat → Int32 → wc_S → Option (Int32 × wc_S)) (hk23 : (∀ (t : Nat) (x4 : Int32) (σ : wc_S), k23 t x4 σ = some res → wx_Arr p l e room_1 s m #[Value.ref b] below meth c D ad cI cZ cJ cG (fun q : Nat => s.heap.size ≤ q) (lw_Z below #[Value.ref b] s) 7 (90 + 2 * t + 0) (700 + 12 * t + 0) 23 [(0, .ref b), (1, .ref (ad 0)), (2, .ref (ad 71)), (3, .ref (ad 88)), (4, .int x4)] [] σ)) (t : Nat) (x4 : Int32) (s0 : Int64) (s1 : Int64) (σ : wc_S), wf_law_817 L xs k23 t x4 s0 s1 σ = some res → t < 600 → wx_Arr p l e room_1 s m #[Value.ref b] below meth c D ad cI cZ cJ cG (fun q : Nat => s.heap.size ≤ q) (lw_Z below #[Value.ref b] s) 7 (90 + 2 * t + 2) (700 + 12 * t + 12) 817 [(0, .ref b), (1, .ref (ad 0)), (2, .ref (ad 71)), (3, .ref (ad 88)), (4, .int x4)] [.long s1, .long s0] σ := by
    intro k23 hk23 t x4 s0 s1 σ hf htt H locs ls hP hD hS hl
    unfold wf_law_817 at hf
    refine W.lcmp hx hb wd_K_law_817 ?_
    refine lv_topi (fun v266 ev266 => ?_)
    have hf := wc_st_e ev266 hf
    refine lv_if_eq (tgt := 823) hx hb wd_K_law_818 (by decide) (fun c267 => ?_) (fun c267 => ?_)
    · have hf := wc_t c267 hf
      refine lv_goto (tgt := 1031) hx hb wd_K_law_823 (by decide) ?_
      refine W.widen (k := 90 + 2 * t + 2) (n := 700 + 12 * t + 12) (by omega) (by omega) ?_
      exact J1031 k23 hk23 t x4 σ hf htt _ _ _ hP hD hS (lv_sub hl [0, 1, 2, 3, 4] rfl)
    · have hf := wc_f c267 hf
      refine lv_iconst (v := 0) hx hb wd_K_law_821 (by decide) ?_
      exact absurd (show (0 : Int32) = 1 from (congrArg Prod.fst (Option.some.inj hf)).trans hres) (by decide)
  have J763 : ∀ (k23 : Nat → Int32 → wc_S → Option (Int32 × wc_S)) (hk23 : (∀ (t : Nat) (x4 : Int32) (σ : wc_S), k23 t x4 σ = some res → wx_Arr p l e room_1 s m #[Value.ref b] below meth c D ad cI cZ cJ cG (fun q : Nat => s.heap.size ≤ q) (lw_Z below #[Value.ref b] s) 7 (90 + 2 * t + 0) (700 + 12 * t + 0) 23 [(0, .ref b), (1, .ref (ad 0)), (2, .ref (ad 71)), (3, .ref (ad 88)), (4, .int x4)] [] σ)) (t : Nat) (x4 : Int32) (σ : wc_S), wf_law_763 L xs k23 t x4 σ = some res → t < 600 → wx_Arr p l e room_1 s m #[Value.ref b] below meth c D ad cI cZ cJ cG (fun q : Nat => s.heap.size ≤ q) (lw_Z below #[Value.ref b] s) 7 (90 + 2 * t + 0) (700 + 12 * t + 0) 763 [(0, .ref b), (1, .ref (ad 0)), (2, .ref (ad 71)), (3, .ref (ad 88)), (4, .int x4)] [] σ := by
    intro k23 hk23 t x4 σ hf htt H locs ls hP hD hS hl
    unfold wf_law_763 at hf
    refine lv_aload_n hx hb wd_K_law_763 rfl (lv_at hl 1 rfl) ?_
    refine lv_aload_n hx hb wd_K_law_764 rfl (lv_at hl 0 rfl) ?_
    refine lv_iload hx hb wd_K_law_765 (lv_at hl 4 rfl) ?_
    refine lv_iconst (v := 1) hx hb wd_K_law_767 (by decide) ?_
    refine lv_iadd hx hb wd_K_law_768 ?_
    refine lv_topi (fun v249 ev249 => ?_)
    have hf := wc_st_e ev249 hf
    obtain ⟨h250, hf⟩ := wc_gd_e hf
    refine va_sld hx hb hX hbl hbA hS (wc_in_e h250) wd_K_law_769 ?_
    refine lv_topi (fun v251 ev251 => ?_)
    have hf := wc_st_e ev251 hf
    refine lv_aload_n hx hb wd_K_law_770 rfl (lv_at hl 3 rfl) ?_
    obtain ⟨r253, σ252, hq, hf⟩ := wc_b2_e hf
    refine wx_callik (wz_runSW (As := [.ref (ad 0), .int v251, .ref (ad 88)]) (rest := []) ⟨hx, hb, hml, hown, hts⟩ (wm_K_change l D ad cI cZ cJ cG htr _ v251 σ _ hq) wt_581 wt_580 wt_0 wt_579 wh_K_change rfl rfl ⟨Nat.le_of_ble_eq_true rfl, Nat.le_of_ble_eq_true rfl⟩ (wx_preS hK hP hD hS hA hC) rfl rfl hl.1 rfl (lv_room (Nat.le_of_ble_eq_true rfl)) wd_K_law_771 ⟨by show _ ≤ 600002; omega, by show _ ≤ 7302232; omega⟩) hD hS hA (fun H locs hP hD hS => ?_)
    refine W.widen (k := 90 + 2 * t + 2) (n := 700 + 12 * t + 12) (by omega) (by omega) ?_
    refine lv_istore (lv' := [(5, .int r253), (0, .ref b), (1, .ref (ad 0)), (2, .ref (ad 71)), (3, .ref (ad 88)), (4, .int x4)]) hx hb wd_K_law_774 hl (by decide) rfl (fun ls hl => ?_)
    refine lv_aload_n hx hb wd_K_law_776 rfl (lv_at hl 3 rfl) ?_
    refine lv_aload_n hx hb wd_K_law_777 rfl (lv_at hl 1 rfl) ?_
    refine lv_iload hx hb wd_K_law_778 (lv_at hl 5 rfl) ?_
    refine lv_iconst (v := 1) hx hb wd_K_law_780 (by decide) ?_
    refine lv_iadd hx hb wd_K_law_781 ?_
    refine lv_topi (fun v254 ev254 => ?_)
    have hf := wc_st_e ev254 hf
    obtain ⟨h255, hf⟩ := wc_gd_e hf
    refine va_sld hx hb hX hbl hbA hS (wc_in_e h255) wd_K_law_782 ?_
    refine lv_topi (fun v256 ev256 => ?_)
    have hf := wc_st_e ev256 hf
    obtain ⟨r258, σ257, hq, hf⟩ := wc_b2_e hf
    refine wx_calli (va_runV (As := [.int v256]) (rest := []) ⟨hx, hb, hml, hown, hts⟩ (wm_M_change l D ad cI cZ cJ cG _ v256 σ252 _ hq) (wx_cwV 1 hts wt_805 wt_803 wt_804 wt_7 wt_802 wh_M_change rfl rfl ⟨Nat.le_of_ble_eq_true rfl, Nat.le_of_ble_eq_true rfl⟩) (wx_preV hK hP hD hS hA hC (by decide) rfl rfl) rfl rfl hl.1 rfl (lv_room (Nat.le_of_ble_eq_true rfl)) wd_K_law_783 ⟨by show _ ≤ 600002; omega, by show _ ≤ 7302232; omega⟩) hD hS hA (fun H locs hP hD hS => ?_)
    refine lv_istore (lv' := [(6, .int r258), (5, .int r253), (0, .ref b), (1, .ref (ad 0)), (2, .ref (ad 71)), (3, .ref (ad 88)), (4, .int x4)]) hx hb wd_K_law_786 hl (by decide) rfl (fun ls hl => ?_)
    refine lv_aload_n hx hb wd_K_law_788 rfl (lv_at hl 4 rfl) ?_
    obtain ⟨r260, σ259, hq, hf⟩ := wc_b2_e hf
    refine wx_calli (va_runV (As := []) (rest := []) ⟨hx, hb, hml, hown, hts⟩ (wm_M_thrown l D ad cI cZ cJ cG _ σ257 _ hq) (wx_cwV 0 hts wt_721 wt_719 wt_720 wt_7 wt_718 wh_M_thrown rfl rfl ⟨Nat.le_of_ble_eq_true rfl, Nat.le_of_ble_eq_true rfl⟩) (wx_preV hK hP hD hS hA hC (by decide) rfl rfl) rfl rfl hl.1 rfl (lv_room (Nat.le_of_ble_eq_true rfl)) wd_K_law_789 ⟨by show _ ≤ 600002; omega, by show _ ≤ 7302232; omega⟩) hD hS hA (fun H locs hP hD hS => ?_)
    refine lv_iload hx hb wd_K_law_792 (lv_at hl 1 rfl) ?_
    refine lv_icmp_eq (tgt := 799) hx hb wd_K_law_794 (by decide) (fun c261 => ?_) (fun c261 => ?_)
    · have hf := wc_t c261 hf
      refine lv_iload hx hb wd_K_law_799 (lv_at hl 1 rfl) ?_
      refine lv_if_ne (tgt := 823) hx hb wd_K_law_801 (by decide) (fun c262 => ?_) (fun c262 => ?_)
      · have hf := wc_f c262 hf
        refine lv_goto (tgt := 1031) hx hb wd_K_law_823 (by decide) ?_
        refine W.widen (k := 90 + 2 * t + 2) (n := 700 + 12 * t + 12) (by omega) (by omega) ?_
        exact J1031 k23 hk23 t x4 σ259 hf htt _ _ _ hP hD hS (lv_sub hl [2, 3, 4, 5, 6] rfl)
      · have hf := wc_t c262 hf
        refine lv_aload_n hx hb wd_K_law_804 rfl (lv_at hl 5 rfl) ?_
        refine lv_iconst (v := 0) hx hb wd_K_law_805 (by decide) ?_
        obtain ⟨h263, hf⟩ := wc_gd_e hf
        refine wx_lald hx hb hK hP 88 (wc_in_e h263) wd_K_law_806 rfl ?_
        refine lv_topl (fun v264 ev264 => ?_)
        have hf := wc_st_e ev264 hf
        refine lv_iload hx hb wd_K_law_807 (lv_at hl 0 rfl) ?_
        refine lv_if_eq (tgt := 816) hx hb wd_K_law_809 (by decide) (fun c265 => ?_) (fun c265 => ?_)
        · have hf := wc_t c265 hf
          refine lv_lconst (v := 0) hx hb wd_K_law_816 (by decide) ?_
          refine W.widen (k := 90 + 2 * t + 2) (n := 700 + 12 * t + 12) (by omega) (by omega) ?_
          exact J817 k23 hk23 t x4 v264 0 σ259 hf htt _ _ _ hP hD hS (lv_sub hl [2, 3, 4, 5, 6] rfl)
        · have hf := wc_f c265 hf
          refine lv_lconst (v := 1) hx hb wd_K_law_812 (by decide) ?_
          refine lv_goto (tgt := 817) hx hb wd_K_law_813 (by decide) ?_
          refine W.widen (k := 90 + 2 * t + 2) (n := 700 + 12 * t + 12) (by omega) (by omega) ?_
          exact J817 k23 hk23 t x4 v264 1 σ259 hf htt _ _ _ hP hD hS (lv_sub hl [2, 3, 4, 5, 6] rfl)
    · have hf := wc_f c261 hf
      refine lv_iconst (v := 0) hx hb wd_K_law_797 (by decide) ?_
      exact absurd (show (0 : Int32) = 1 from (congrArg Prod.fst (Option.some.inj hf)).trans hres) (by decide)
  have J826 : ∀ (k23 : Nat → Int32 → wc_S → Option (Int32 × wc_S)) (hk23 : (∀ (t : Nat) (x4 : Int32) (σ : wc_S), k23 t x4 σ = some res → wx_Arr p l e room_1 s m #[Value.ref b] below meth c D ad cI cZ cJ cG (fun q : Nat => s.heap.size ≤ q) (lw_Z below #[Value.ref b] s) 7 (90 + 2 * t + 0) (700 + 12 * t + 0) 23 [(0, .ref b), (1, .ref (ad 0)), (2, .ref (ad 71)), (3, .ref (ad 88)), (4, .int x4)] [] σ)) (t : Nat) (x4 : Int32) (σ : wc_S), wf_law_826 L xs k23 t x4 σ = some res → t < 600 → wx_Arr p l e room_1 s m #[Value.ref b] below meth c D ad cI cZ cJ cG (fun q : Nat => s.heap.size ≤ q) (lw_Z below #[Value.ref b] s) 7 (90 + 2 * t + 0) (700 + 12 * t + 0) 826 [(0, .ref b), (1, .ref (ad 0)), (2, .ref (ad 71)), (3, .ref (ad 88)), (4, .int x4)] [] σ := by
    intro k23 hk23 t x4 σ hf htt H locs ls hP hD hS hl
    unfold wf_law_826 at hf
    refine lv_aload_n hx hb wd_K_law_826 rfl (lv_at hl 1 rfl) ?_
    refine lv_aload_n hx hb wd_K_law_827 rfl (lv_at hl 0 rfl) ?_
    refine lv_iload hx hb wd_K_law_828 (lv_at hl 4 rfl) ?_
    refine lv_iconst (v := 1) hx hb wd_K_law_830 (by decide) ?_
    refine lv_iadd hx hb wd_K_law_831 ?_
    refine lv_topi (fun v268 ev268 => ?_)
    have hf := wc_st_e ev268 hf
    obtain ⟨h269, hf⟩ := wc_gd_e hf
    refine va_sld hx hb hX hbl hbA hS (wc_in_e h269) wd_K_law_832 ?_
    refine lv_topi (fun v270 ev270 => ?_)
    have hf := wc_st_e ev270 hf
    refine lv_aload_n hx hb wd_K_law_833 rfl (lv_at hl 0 rfl) ?_
    refine lv_iload hx hb wd_K_law_834 (lv_at hl 4 rfl) ?_
    refine lv_iconst (v := 2) hx hb wd_K_law_836 (by decide) ?_
    refine lv_iadd hx hb wd_K_law_837 ?_
    refine lv_topi (fun v271 ev271 => ?_)
    have hf := wc_st_e ev271 hf
    obtain ⟨h272, hf⟩ := wc_gd_e hf
    refine va_sld hx hb hX hbl hbA hS (wc_in_e h272) wd_K_law_838 ?_
    refine lv_topi (fun v273 ev273 => ?_)
    have hf := wc_st_e ev273 hf
    refine lv_aload_n hx hb wd_K_law_839 rfl (lv_at hl 3 rfl) ?_
    obtain ⟨r275, σ274, hq, hf⟩ := wc_b2_e hf
    refine wx_callik (wz_runSW (As := [.ref (ad 0), .int v270, .int v273, .ref (ad 88)]) (rest := []) ⟨hx, hb, hml, hown, hts⟩ (wm_K_jump l D ad cI cZ cJ cG htr _ v270 v273 σ _ hq) wt_588 wt_587 wt_0 wt_586 wh_K_jump rfl rfl ⟨Nat.le_of_ble_eq_true rfl, Nat.le_of_ble_eq_true rfl⟩ (wx_preS hK hP hD hS hA hC) rfl rfl hl.1 rfl (lv_room (Nat.le_of_ble_eq_true rfl)) wd_K_law_840 ⟨by show _ ≤ 600002; omega, by show _ ≤ 7302232; omega⟩) hD hS hA (fun H locs hP hD hS => ?_)
    refine W.widen (k := 90 + 2 * t + 1) (n := 700 + 12 * t + 6) (by omega) (by omega) ?_
    refine lv_istore (lv' := [(5, .int r275), (0, .ref b), (1, .ref (ad 0)), (2, .ref (ad 71)), (3, .ref (ad 88)), (4, .int x4)]) hx hb wd_K_law_843 hl (by decide) rfl (fun ls hl => ?_)
    refine lv_aload_n hx hb wd_K_law_845 rfl (lv_at hl 3 rfl) ?_
    refine lv_aload_n hx hb wd_K_law_846 rfl (lv_at hl 1 rfl) ?_
    refine lv_iload hx hb wd_K_law_847 (lv_at hl 5 rfl) ?_
    refine lv_iconst (v := 1) hx hb wd_K_law_849 (by decide) ?_
    refine lv_iadd hx hb wd_K_law_850 ?_
    refine lv_topi (fun v276 ev276 => ?_)
    have hf := wc_st_e ev276 hf
    obtain ⟨h277, hf⟩ := wc_gd_e hf
    refine va_sld hx hb hX hbl hbA hS (wc_in_e h277) wd_K_law_851 ?_
    refine lv_topi (fun v278 ev278 => ?_)
    have hf := wc_st_e ev278 hf
    refine lv_aload_n hx hb wd_K_law_852 rfl (lv_at hl 1 rfl) ?_
    refine lv_iload hx hb wd_K_law_853 (lv_at hl 5 rfl) ?_
    refine lv_iconst (v := 2) hx hb wd_K_law_855 (by decide) ?_
    refine lv_iadd hx hb wd_K_law_856 ?_
    refine lv_topi (fun v279 ev279 => ?_)
    have hf := wc_st_e ev279 hf
    obtain ⟨h280, hf⟩ := wc_gd_e hf
    refine va_sld hx hb hX hbl hbA hS (wc_in_e h280) wd_K_law_857 ?_
    refine lv_topi (fun v281 ev281 => ?_)
    have hf := wc_st_e ev281 hf
    obtain ⟨r283, σ282, hq, hf⟩ := wc_b2_e hf
    refine wx_calli (va_runV (As := [.int v278, .int v281]) (rest := []) ⟨hx, hb, hml, hown, hts⟩ (wm_M_jump l D ad cI cZ cJ cG _ v278 v281 σ274 _ hq) (wx_cwV 2 hts wt_809 wt_807 wt_808 wt_7 wt_806 wh_M_jump rfl rfl ⟨Nat.le_of_ble_eq_true rfl, Nat.le_of_ble_eq_true rfl⟩) (wx_preV hK hP hD hS hA hC (by decide) rfl rfl) rfl rfl hl.1 rfl (lv_room (Nat.le_of_ble_eq_true rfl)) wd_K_law_858 ⟨by show _ ≤ 600002; omega, by show _ ≤ 7302232; omega⟩) hD hS hA (fun H locs hP hD hS => ?_)
    refine lv_istore (lv' := [(6, .int r283), (5, .int r275), (0, .ref b), (1, .ref (ad 0)), (2, .ref (ad 71)), (3, .ref (ad 88)), (4, .int x4)]) hx hb wd_K_law_861 hl (by decide) rfl (fun ls hl => ?_)
    refine lv_aload_n hx hb wd_K_law_863 rfl (lv_at hl 4 rfl) ?_
    obtain ⟨r285, σ284, hq, hf⟩ := wc_b2_e hf
    refine wx_calli (va_runV (As := []) (rest := []) ⟨hx, hb, hml, hown, hts⟩ (wm_M_thrown l D ad cI cZ cJ cG _ σ282 _ hq) (wx_cwV 0 hts wt_721 wt_719 wt_720 wt_7 wt_718 wh_M_thrown rfl rfl ⟨Nat.le_of_ble_eq_true rfl, Nat.le_of_ble_eq_true rfl⟩) (wx_preV hK hP hD hS hA hC (by decide) rfl rfl) rfl rfl hl.1 rfl (lv_room (Nat.le_of_ble_eq_true rfl)) wd_K_law_864 ⟨by show _ ≤ 600002; omega, by show _ ≤ 7302232; omega⟩) hD hS hA (fun H locs hP hD hS => ?_)
    refine lv_iload hx hb wd_K_law_867 (lv_at hl 1 rfl) ?_
    refine lv_icmp_eq (tgt := 874) hx hb wd_K_law_869 (by decide) (fun c286 => ?_) (fun c286 => ?_)
    · have hf := wc_t c286 hf
      refine lv_iload hx hb wd_K_law_874 (lv_at hl 1 rfl) ?_
      refine lv_if_ne (tgt := 891) hx hb wd_K_law_876 (by decide) (fun c287 => ?_) (fun c287 => ?_)
      · have hf := wc_f c287 hf
        refine lv_goto (tgt := 1031) hx hb wd_K_law_891 (by decide) ?_
        refine W.widen (k := 90 + 2 * t + 2) (n := 700 + 12 * t + 12) (by omega) (by omega) ?_
        exact J1031 k23 hk23 t x4 σ284 hf htt _ _ _ hP hD hS (lv_sub hl [2, 3, 4, 5, 6] rfl)
      · have hf := wc_t c287 hf
        refine lv_aload_n hx hb wd_K_law_879 rfl (lv_at hl 5 rfl) ?_
        refine lv_iconst (v := 0) hx hb wd_K_law_880 (by decide) ?_
        obtain ⟨h288, hf⟩ := wc_gd_e hf
        refine wx_lald hx hb hK hP 88 (wc_in_e h288) wd_K_law_881 rfl ?_
        refine lv_topl (fun v289 ev289 => ?_)
        have hf := wc_st_e ev289 hf
        refine lv_iload hx hb wd_K_law_882 (lv_at hl 0 rfl) ?_
        refine lv_i2l hx hb wd_K_law_884 rfl ?_
        refine lv_topl (fun v290 ev290 => ?_)
        have hf := wc_st_e ev290 hf
        refine W.lcmp hx hb wd_K_law_885 ?_
        refine lv_topi (fun v291 ev291 => ?_)
        have hf := wc_st_e ev291 hf
        refine lv_if_eq (tgt := 891) hx hb wd_K_law_886 (by decide) (fun c292 => ?_) (fun c292 => ?_)
        · have hf := wc_t c292 hf
          refine lv_goto (tgt := 1031) hx hb wd_K_law_891 (by decide) ?_
          refine W.widen (k := 90 + 2 * t + 2) (n := 700 + 12 * t + 12) (by omega) (by omega) ?_
          exact J1031 k23 hk23 t x4 σ284 hf htt _ _ _ hP hD hS (lv_sub hl [2, 3, 4, 5, 6] rfl)
        · have hf := wc_f c292 hf
          refine lv_iconst (v := 0) hx hb wd_K_law_889 (by decide) ?_
          exact absurd (show (0 : Int32) = 1 from (congrArg Prod.fst (Option.some.inj hf)).trans hres) (by decide)
    · have hf := wc_f c286 hf
      refine lv_iconst (v := 0) hx hb wd_K_law_872 (by decide) ?_
      exact absurd (show (0 : Int32) = 1 from (congrArg Prod.fst (Option.some.inj hf)).trans hres) (by decide)
  have J894 : ∀ (k23 : Nat → Int32 → wc_S → Option (Int32 × wc_S)) (hk23 : (∀ (t : Nat) (x4 : Int32) (σ : wc_S), k23 t x4 σ = some res → wx_Arr p l e room_1 s m #[Value.ref b] below meth c D ad cI cZ cJ cG (fun q : Nat => s.heap.size ≤ q) (lw_Z below #[Value.ref b] s) 7 (90 + 2 * t + 0) (700 + 12 * t + 0) 23 [(0, .ref b), (1, .ref (ad 0)), (2, .ref (ad 71)), (3, .ref (ad 88)), (4, .int x4)] [] σ)) (t : Nat) (x4 : Int32) (σ : wc_S), wf_law_894 L xs k23 t x4 σ = some res → t < 600 → wx_Arr p l e room_1 s m #[Value.ref b] below meth c D ad cI cZ cJ cG (fun q : Nat => s.heap.size ≤ q) (lw_Z below #[Value.ref b] s) 7 (90 + 2 * t + 0) (700 + 12 * t + 0) 894 [(0, .ref b), (1, .ref (ad 0)), (2, .ref (ad 71)), (3, .ref (ad 88)), (4, .int x4)] [] σ := by
    intro k23 hk23 t x4 σ hf htt H locs ls hP hD hS hl
    unfold wf_law_894 at hf
    refine lv_aload_n hx hb wd_K_law_894 rfl (lv_at hl 1 rfl) ?_
    obtain ⟨r294, σ293, hq, hf⟩ := wc_b2_e hf
    refine wx_calli (va_runV (As := []) (rest := []) ⟨hx, hb, hml, hown, hts⟩ (wm_W_bound l D ad cI cZ cJ cG _ σ _ hq) (wx_cwV 0 hts wt_244 wt_242 wt_243 wt_1 wt_241 wh_W_bound rfl rfl ⟨Nat.le_of_ble_eq_true rfl, Nat.le_of_ble_eq_true rfl⟩) (wx_preV hK hP hD hS hA hC (by decide) rfl rfl) rfl rfl hl.1 rfl (lv_room (Nat.le_of_ble_eq_true rfl)) wd_K_law_895 ⟨by show _ ≤ 600002; omega, by show _ ≤ 7302232; omega⟩) hD hS hA (fun H locs hP hD hS => ?_)
    refine lv_aload_n hx hb wd_K_law_898 rfl (lv_at hl 2 rfl) ?_
    obtain ⟨r296, σ295, hq, hf⟩ := wc_b2_e hf
    refine wx_calli (va_runV (As := []) (rest := [.int r294]) ⟨hx, hb, hml, hown, hts⟩ (wm_M_bound l D ad cI cZ cJ cG _ σ293 _ hq) (wx_cwV 0 hts wt_813 wt_811 wt_812 wt_7 wt_810 wh_M_bound rfl rfl ⟨Nat.le_of_ble_eq_true rfl, Nat.le_of_ble_eq_true rfl⟩) (wx_preV hK hP hD hS hA hC (by decide) rfl rfl) rfl rfl hl.1 rfl (lv_room (Nat.le_of_ble_eq_true rfl)) wd_K_law_899 ⟨by show _ ≤ 600002; omega, by show _ ≤ 7302232; omega⟩) hD hS hA (fun H locs hP hD hS => ?_)
    refine lv_icmp_eq (tgt := 1031) hx hb wd_K_law_902 (by decide) (fun c297 => ?_) (fun c297 => ?_)
    · have hf := wc_t c297 hf
      refine W.widen (k := 90 + 2 * t + 2) (n := 700 + 12 * t + 12) (by omega) (by omega) ?_
      exact J1031 k23 hk23 t x4 σ295 hf htt _ _ _ hP hD hS (lv_sub hl [0, 1, 2, 3, 4] rfl)
    · have hf := wc_f c297 hf
      refine lv_iconst (v := 0) hx hb wd_K_law_905 (by decide) ?_
      exact absurd (show (0 : Int32) = 1 from (congrArg Prod.fst (Option.some.inj hf)).trans hres) (by decide)
  have J907 : ∀ (k23 : Nat → Int32 → wc_S → Option (Int32 × wc_S)) (hk23 : (∀ (t : Nat) (x4 : Int32) (σ : wc_S), k23 t x4 σ = some res → wx_Arr p l e room_1 s m #[Value.ref b] below meth c D ad cI cZ cJ cG (fun q : Nat => s.heap.size ≤ q) (lw_Z below #[Value.ref b] s) 7 (90 + 2 * t + 0) (700 + 12 * t + 0) 23 [(0, .ref b), (1, .ref (ad 0)), (2, .ref (ad 71)), (3, .ref (ad 88)), (4, .int x4)] [] σ)) (t : Nat) (x4 : Int32) (σ : wc_S), wf_law_907 L xs k23 t x4 σ = some res → t < 600 → wx_Arr p l e room_1 s m #[Value.ref b] below meth c D ad cI cZ cJ cG (fun q : Nat => s.heap.size ≤ q) (lw_Z below #[Value.ref b] s) 7 (90 + 2 * t + 0) (700 + 12 * t + 0) 907 [(0, .ref b), (1, .ref (ad 0)), (2, .ref (ad 71)), (3, .ref (ad 88)), (4, .int x4)] [] σ := by
    intro k23 hk23 t x4 σ hf htt H locs ls hP hD hS hl
    unfold wf_law_907 at hf
    refine lv_aload_n hx hb wd_K_law_907 rfl (lv_at hl 1 rfl) ?_
    refine lv_aload_n hx hb wd_K_law_908 rfl (lv_at hl 0 rfl) ?_
    refine lv_iload hx hb wd_K_law_909 (lv_at hl 4 rfl) ?_
    refine lv_iconst (v := 1) hx hb wd_K_law_911 (by decide) ?_
    refine lv_iadd hx hb wd_K_law_912 ?_
    refine lv_topi (fun v298 ev298 => ?_)
    have hf := wc_st_e ev298 hf
    obtain ⟨h299, hf⟩ := wc_gd_e hf
    refine va_sld hx hb hX hbl hbA hS (wc_in_e h299) wd_K_law_913 ?_
    refine lv_topi (fun v300 ev300 => ?_)
    have hf := wc_st_e ev300 hf
    refine lv_i2l hx hb wd_K_law_914 rfl ?_
    refine lv_topl (fun v301 ev301 => ?_)
    have hf := wc_st_e ev301 hf
    refine lv_bipush (v := 32) hx hb wd_K_law_915 (by decide) ?_
    refine lv_lshl hx hb wd_K_law_917 rfl ?_
    refine lv_topl (fun v302 ev302 => ?_)
    have hf := wc_st_e ev302 hf
    refine lv_aload_n hx hb wd_K_law_918 rfl (lv_at hl 0 rfl) ?_
    refine lv_iload hx hb wd_K_law_919 (lv_at hl 4 rfl) ?_
    refine lv_iconst (v := 2) hx hb wd_K_law_921 (by decide) ?_
    refine lv_iadd hx hb wd_K_law_922 ?_
    refine lv_topi (fun v303 ev303 => ?_)
    have hf := wc_st_e ev303 hf
    obtain ⟨h304, hf⟩ := wc_gd_e hf
    refine va_sld hx hb hX hbl hbA hS (wc_in_e h304) wd_K_law_923 ?_
    refine lv_topi (fun v305 ev305 => ?_)
    have hf := wc_st_e ev305 hf
    refine lv_i2l hx hb wd_K_law_924 rfl ?_
    refine lv_topl (fun v306 ev306 => ?_)
    have hf := wc_st_e ev306 hf
    refine lv_ldc2 (v := 4294967295) hx hb hown (wx_hw hts wt_835) wd_K_law_925 ?_
    refine lv_land hx hb wd_K_law_928 ?_
    refine lv_topl (fun v307 ev307 => ?_)
    have hf := wc_st_e ev307 hf
    refine lv_lor hx hb wd_K_law_929 ?_
    refine lv_topl (fun v308 ev308 => ?_)
    have hf := wc_st_e ev308 hf
    obtain ⟨r310, σ309, hq, hf⟩ := wc_b2_e hf
    refine wx_callik (wz_runSW (As := [.ref (ad 0), .long v308]) (rest := []) ⟨hx, hb, hml, hown, hts⟩ (wm_K_tell l D ad cI cZ cJ cG htr _ v308 σ _ hq) wt_596 wt_595 wt_0 wt_594 wh_K_tell rfl rfl ⟨Nat.le_of_ble_eq_true rfl, Nat.le_of_ble_eq_true rfl⟩ (wx_preS hK hP hD hS hA hC) rfl rfl hl.1 rfl (lv_room (Nat.le_of_ble_eq_true rfl)) wd_K_law_930 ⟨by show _ ≤ 600002; omega, by show _ ≤ 7302232; omega⟩) hD hS hA (fun H locs hP hD hS => ?_)
    refine W.widen (k := 90 + 2 * t + 1) (n := 700 + 12 * t + 6) (by omega) (by omega) ?_
    refine lv_istore (lv' := [(5, .int r310), (0, .ref b), (1, .ref (ad 0)), (2, .ref (ad 71)), (3, .ref (ad 88)), (4, .int x4)]) hx hb wd_K_law_933 hl (by decide) rfl (fun ls hl => ?_)
    refine lv_aload_n hx hb wd_K_law_935 rfl (lv_at hl 3 rfl) ?_
    refine lv_aload_n hx hb wd_K_law_936 rfl (lv_at hl 1 rfl) ?_
    refine lv_iload hx hb wd_K_law_937 (lv_at hl 5 rfl) ?_
    refine lv_iconst (v := 1) hx hb wd_K_law_939 (by decide) ?_
    refine lv_iadd hx hb wd_K_law_940 ?_
    refine lv_topi (fun v311 ev311 => ?_)
    have hf := wc_st_e ev311 hf
    obtain ⟨h312, hf⟩ := wc_gd_e hf
    refine va_sld hx hb hX hbl hbA hS (wc_in_e h312) wd_K_law_941 ?_
    refine lv_topi (fun v313 ev313 => ?_)
    have hf := wc_st_e ev313 hf
    refine lv_i2l hx hb wd_K_law_942 rfl ?_
    refine lv_topl (fun v314 ev314 => ?_)
    have hf := wc_st_e ev314 hf
    refine lv_bipush (v := 32) hx hb wd_K_law_943 (by decide) ?_
    refine lv_lshl hx hb wd_K_law_945 rfl ?_
    refine lv_topl (fun v315 ev315 => ?_)
    have hf := wc_st_e ev315 hf
    refine lv_aload_n hx hb wd_K_law_946 rfl (lv_at hl 1 rfl) ?_
    refine lv_iload hx hb wd_K_law_947 (lv_at hl 5 rfl) ?_
    refine lv_iconst (v := 2) hx hb wd_K_law_949 (by decide) ?_
    refine lv_iadd hx hb wd_K_law_950 ?_
    refine lv_topi (fun v316 ev316 => ?_)
    have hf := wc_st_e ev316 hf
    obtain ⟨h317, hf⟩ := wc_gd_e hf
    refine va_sld hx hb hX hbl hbA hS (wc_in_e h317) wd_K_law_951 ?_
    refine lv_topi (fun v318 ev318 => ?_)
    have hf := wc_st_e ev318 hf
    refine lv_i2l hx hb wd_K_law_952 rfl ?_
    refine lv_topl (fun v319 ev319 => ?_)
    have hf := wc_st_e ev319 hf
    refine lv_ldc2 (v := 4294967295) hx hb hown (wx_hw hts wt_835) wd_K_law_953 ?_
    refine lv_land hx hb wd_K_law_956 ?_
    refine lv_topl (fun v320 ev320 => ?_)
    have hf := wc_st_e ev320 hf
    refine lv_lor hx hb wd_K_law_957 ?_
    refine lv_topl (fun v321 ev321 => ?_)
    have hf := wc_st_e ev321 hf
    obtain ⟨σ322, hq, hf⟩ := wc_b1_e hf
    refine wx_callv (va_runV (As := [.long v321]) (rest := []) ⟨hx, hb, hml, hown, hts⟩ (wm_M_tell l D ad cI cZ cJ cG _ v321 σ309 _ hq) (wx_cwV 1 hts wt_817 wt_815 wt_816 wt_7 wt_814 wh_M_tell rfl rfl ⟨Nat.le_of_ble_eq_true rfl, Nat.le_of_ble_eq_true rfl⟩) (wx_preV hK hP hD hS hA hC (by decide) rfl rfl) rfl rfl hl.1 rfl (lv_room (Nat.le_of_ble_eq_true rfl)) wd_K_law_958 ⟨by show _ ≤ 600002; omega, by show _ ≤ 7302232; omega⟩) hD hS hA (fun H locs hP hD hS => ?_)
    refine lv_aload_n hx hb wd_K_law_961 rfl (lv_at hl 3 rfl) ?_
    obtain ⟨r324, σ323, hq, hf⟩ := wc_b2_e hf
    refine wx_calli (va_runV (As := []) (rest := []) ⟨hx, hb, hml, hown, hts⟩ (wm_M_thrown l D ad cI cZ cJ cG _ σ322 _ hq) (wx_cwV 0 hts wt_721 wt_719 wt_720 wt_7 wt_718 wh_M_thrown rfl rfl ⟨Nat.le_of_ble_eq_true rfl, Nat.le_of_ble_eq_true rfl⟩) (wx_preV hK hP hD hS hA hC (by decide) rfl rfl) rfl rfl hl.1 rfl (lv_room (Nat.le_of_ble_eq_true rfl)) wd_K_law_962 ⟨by show _ ≤ 600002; omega, by show _ ≤ 7302232; omega⟩) hD hS hA (fun H locs hP hD hS => ?_)
    refine lv_iload hx hb wd_K_law_965 (lv_at hl 0 rfl) ?_
    refine lv_icmp_eq (tgt := 972) hx hb wd_K_law_967 (by decide) (fun c325 => ?_) (fun c325 => ?_)
    · have hf := wc_t c325 hf
      refine lv_goto (tgt := 1031) hx hb wd_K_law_972 (by decide) ?_
      refine W.widen (k := 90 + 2 * t + 2) (n := 700 + 12 * t + 12) (by omega) (by omega) ?_
      exact J1031 k23 hk23 t x4 σ323 hf htt _ _ _ hP hD hS (lv_sub hl [1, 2, 3, 4, 5] rfl)
    · have hf := wc_f c325 hf
      refine lv_iconst (v := 0) hx hb wd_K_law_970 (by decide) ?_
      exact absurd (show (0 : Int32) = 1 from (congrArg Prod.fst (Option.some.inj hf)).trans hres) (by decide)
  have J975 : ∀ (k23 : Nat → Int32 → wc_S → Option (Int32 × wc_S)) (hk23 : (∀ (t : Nat) (x4 : Int32) (σ : wc_S), k23 t x4 σ = some res → wx_Arr p l e room_1 s m #[Value.ref b] below meth c D ad cI cZ cJ cG (fun q : Nat => s.heap.size ≤ q) (lw_Z below #[Value.ref b] s) 7 (90 + 2 * t + 0) (700 + 12 * t + 0) 23 [(0, .ref b), (1, .ref (ad 0)), (2, .ref (ad 71)), (3, .ref (ad 88)), (4, .int x4)] [] σ)) (t : Nat) (x4 : Int32) (σ : wc_S), wf_law_975 L xs k23 t x4 σ = some res → t < 600 → wx_Arr p l e room_1 s m #[Value.ref b] below meth c D ad cI cZ cJ cG (fun q : Nat => s.heap.size ≤ q) (lw_Z below #[Value.ref b] s) 7 (90 + 2 * t + 0) (700 + 12 * t + 0) 975 [(0, .ref b), (1, .ref (ad 0)), (2, .ref (ad 71)), (3, .ref (ad 88)), (4, .int x4)] [] σ := by
    intro k23 hk23 t x4 σ hf htt H locs ls hP hD hS hl
    unfold wf_law_975 at hf
    refine lv_aload_n hx hb wd_K_law_975 rfl (lv_at hl 1 rfl) ?_
    refine lv_aload_n hx hb wd_K_law_976 rfl (lv_at hl 0 rfl) ?_
    refine lv_iload hx hb wd_K_law_977 (lv_at hl 4 rfl) ?_
    refine lv_iconst (v := 1) hx hb wd_K_law_979 (by decide) ?_
    refine lv_iadd hx hb wd_K_law_980 ?_
    refine lv_topi (fun v326 ev326 => ?_)
    have hf := wc_st_e ev326 hf
    obtain ⟨h327, hf⟩ := wc_gd_e hf
    refine va_sld hx hb hX hbl hbA hS (wc_in_e h327) wd_K_law_981 ?_
    refine lv_topi (fun v328 ev328 => ?_)
    have hf := wc_st_e ev328 hf
    refine lv_aload_n hx hb wd_K_law_982 rfl (lv_at hl 3 rfl) ?_
    obtain ⟨r330, σ329, hq, hf⟩ := wc_b2_e hf
    refine wx_callik (wz_runSW (As := [.ref (ad 0), .int v328, .ref (ad 88)]) (rest := []) ⟨hx, hb, hml, hown, hts⟩ (wm_K_improve l D ad cI cZ cJ cG htr _ v328 σ _ hq) wt_609 wt_608 wt_0 wt_607 wh_K_improve rfl rfl ⟨Nat.le_of_ble_eq_true rfl, Nat.le_of_ble_eq_true rfl⟩ (wx_preS hK hP hD hS hA hC) rfl rfl hl.1 rfl (lv_room (Nat.le_of_ble_eq_true rfl)) wd_K_law_983 ⟨by show _ ≤ 600002; omega, by show _ ≤ 7302232; omega⟩) hD hS hA (fun H locs hP hD hS => ?_)
    refine W.widen (k := 90 + 2 * t + 2) (n := 700 + 12 * t + 12) (by omega) (by omega) ?_
    refine lv_istore (lv' := [(5, .int r330), (0, .ref b), (1, .ref (ad 0)), (2, .ref (ad 71)), (3, .ref (ad 88)), (4, .int x4)]) hx hb wd_K_law_986 hl (by decide) rfl (fun ls hl => ?_)
    refine lv_aload_n hx hb wd_K_law_988 rfl (lv_at hl 3 rfl) ?_
    refine lv_aload_n hx hb wd_K_law_989 rfl (lv_at hl 1 rfl) ?_
    refine lv_iload hx hb wd_K_law_990 (lv_at hl 5 rfl) ?_
    refine lv_iconst (v := 1) hx hb wd_K_law_992 (by decide) ?_
    refine lv_iadd hx hb wd_K_law_993 ?_
    refine lv_topi (fun v331 ev331 => ?_)
    have hf := wc_st_e ev331 hf
    obtain ⟨h332, hf⟩ := wc_gd_e hf
    refine va_sld hx hb hX hbl hbA hS (wc_in_e h332) wd_K_law_994 ?_
    refine lv_topi (fun v333 ev333 => ?_)
    have hf := wc_st_e ev333 hf
    obtain ⟨r335, σ334, hq, hf⟩ := wc_b2_e hf
    refine wx_calli (va_runV (As := [.int v333]) (rest := []) ⟨hx, hb, hml, hown, hts⟩ (wm_M_improve l D ad cI cZ cJ cG _ v333 σ329 _ hq) (wx_cwV 1 hts wt_826 wt_824 wt_825 wt_7 wt_823 wh_M_improve rfl rfl ⟨Nat.le_of_ble_eq_true rfl, Nat.le_of_ble_eq_true rfl⟩) (wx_preV hK hP hD hS hA hC (by decide) rfl rfl) rfl rfl hl.1 rfl (lv_room (Nat.le_of_ble_eq_true rfl)) wd_K_law_995 ⟨by show _ ≤ 600002; omega, by show _ ≤ 7302232; omega⟩) hD hS hA (fun H locs hP hD hS => ?_)
    refine lv_istore (lv' := [(6, .int r335), (5, .int r330), (0, .ref b), (1, .ref (ad 0)), (2, .ref (ad 71)), (3, .ref (ad 88)), (4, .int x4)]) hx hb wd_K_law_998 hl (by decide) rfl (fun ls hl => ?_)
    refine lv_aload_n hx hb wd_K_law_1000 rfl (lv_at hl 4 rfl) ?_
    obtain ⟨r337, σ336, hq, hf⟩ := wc_b2_e hf
    refine wx_calli (va_runV (As := []) (rest := []) ⟨hx, hb, hml, hown, hts⟩ (wm_M_thrown l D ad cI cZ cJ cG _ σ334 _ hq) (wx_cwV 0 hts wt_721 wt_719 wt_720 wt_7 wt_718 wh_M_thrown rfl rfl ⟨Nat.le_of_ble_eq_true rfl, Nat.le_of_ble_eq_true rfl⟩) (wx_preV hK hP hD hS hA hC (by decide) rfl rfl) rfl rfl hl.1 rfl (lv_room (Nat.le_of_ble_eq_true rfl)) wd_K_law_1001 ⟨by show _ ≤ 600002; omega, by show _ ≤ 7302232; omega⟩) hD hS hA (fun H locs hP hD hS => ?_)
    refine lv_iload hx hb wd_K_law_1004 (lv_at hl 1 rfl) ?_
    refine lv_icmp_eq (tgt := 1011) hx hb wd_K_law_1006 (by decide) (fun c338 => ?_) (fun c338 => ?_)
    · have hf := wc_t c338 hf
      refine lv_iload hx hb wd_K_law_1011 (lv_at hl 1 rfl) ?_
      refine lv_if_ne (tgt := 1028) hx hb wd_K_law_1013 (by decide) (fun c339 => ?_) (fun c339 => ?_)
      · have hf := wc_f c339 hf
        refine lv_goto (tgt := 1031) hx hb wd_K_law_1028 (by decide) ?_
        refine W.widen (k := 90 + 2 * t + 2) (n := 700 + 12 * t + 12) (by omega) (by omega) ?_
        exact J1031 k23 hk23 t x4 σ336 hf htt _ _ _ hP hD hS (lv_sub hl [2, 3, 4, 5, 6] rfl)
      · have hf := wc_t c339 hf
        refine lv_aload_n hx hb wd_K_law_1016 rfl (lv_at hl 5 rfl) ?_
        refine lv_iconst (v := 0) hx hb wd_K_law_1017 (by decide) ?_
        obtain ⟨h340, hf⟩ := wc_gd_e hf
        refine wx_lald hx hb hK hP 88 (wc_in_e h340) wd_K_law_1018 rfl ?_
        refine lv_topl (fun v341 ev341 => ?_)
        have hf := wc_st_e ev341 hf
        refine lv_iload hx hb wd_K_law_1019 (lv_at hl 0 rfl) ?_
        refine lv_i2l hx hb wd_K_law_1021 rfl ?_
        refine lv_topl (fun v342 ev342 => ?_)
        have hf := wc_st_e ev342 hf
        refine W.lcmp hx hb wd_K_law_1022 ?_
        refine lv_topi (fun v343 ev343 => ?_)
        have hf := wc_st_e ev343 hf
        refine lv_if_eq (tgt := 1028) hx hb wd_K_law_1023 (by decide) (fun c344 => ?_) (fun c344 => ?_)
        · have hf := wc_t c344 hf
          refine lv_goto (tgt := 1031) hx hb wd_K_law_1028 (by decide) ?_
          refine W.widen (k := 90 + 2 * t + 2) (n := 700 + 12 * t + 12) (by omega) (by omega) ?_
          exact J1031 k23 hk23 t x4 σ336 hf htt _ _ _ hP hD hS (lv_sub hl [2, 3, 4, 5, 6] rfl)
        · have hf := wc_f c344 hf
          refine lv_iconst (v := 0) hx hb wd_K_law_1026 (by decide) ?_
          exact absurd (show (0 : Int32) = 1 from (congrArg Prod.fst (Option.some.inj hf)).trans hres) (by decide)
    · have hf := wc_f c338 hf
      refine lv_iconst (v := 0) hx hb wd_K_law_1009 (by decide) ?_
      exact absurd (show (0 : Int32) = 1 from (congrArg Prod.fst (Option.some.inj hf)).trans hres) (by decide)
  have J23 : ∀ (n : Nat) (t : Nat) (x4 : Int32) (σ : wc_S), wf_law_23 L xs n t x4 σ = some res → wx_Arr p l e room_1 s m #[Value.ref b] below meth c D ad cI cZ cJ cG (fun q : Nat => s.heap.size ≤ q) (lw_Z below #[Value.ref b] s) 7 (90 + 2 * t + 0) (700 + 12 * t + 0) 23 [(0, .ref b), (1, .ref (ad 0)), (2, .ref (ad 71)), (3, .ref (ad 88)), (4, .int x4)] [] σ := by
    intro  n
    induction n with
    | zero => intro t x4 σ hf; exact absurd hf (by intro h9; cases h9)
    | succ n hk23 =>
      intro t x4 σ hf H locs ls hP hD hS hl
      have hf : wf_law_23_b L xs (wf_law_23 L xs n) t x4 σ = some res := hf
      unfold wf_law_23_b at hf
      obtain ⟨htt, hf⟩ := wc_gd_e hf
      have htt : t < 600 := of_decide_eq_true htt
      refine lv_iload hx hb wd_K_law_23 (lv_at hl 4 rfl) ?_
      refine lv_aload_n hx hb wd_K_law_25 rfl (lv_at hl 0 rfl) ?_
      refine va_slen hx hb hX hbl hbA hS wd_K_law_26 ?_
      refine lv_topi (fun v1 ev1 => ?_)
      have hf := wc_st_e ev1 hf
      refine lv_iconst (v := 5) hx hb wd_K_law_27 (by decide) ?_
      refine lv_isub hx hb wd_K_law_28 ?_
      refine lv_topi (fun v2 ev2 => ?_)
      have hf := wc_st_e ev2 hf
      refine lv_icmp_gt (tgt := 1037) hx hb wd_K_law_29 (by decide) (fun c3 => ?_) (fun c3 => ?_)
      · have hf := wc_t c3 hf
        refine lv_iconst (v := 1) hx hb wd_K_law_1037 (by decide) ?_
        refine va_forget (fun q hq => hS.2.2 q hq) ?_
        refine W.widen (k := 600002) (n := 7302232) (by omega) (by omega) ?_
        exact lw_ret hx hb hr hlocks wd_K_law_1038
      · have hf := wc_f c3 hf
        refine lv_aload_n hx hb wd_K_law_32 rfl (lv_at hl 0 rfl) ?_
        refine lv_iload hx hb wd_K_law_33 (lv_at hl 4 rfl) ?_
        obtain ⟨h4, hf⟩ := wc_gd_e hf
        refine va_sld hx hb hX hbl hbA hS (wc_in_e h4) wd_K_law_35 ?_
        refine lv_topi (fun v5 ev5 => ?_)
        have hf := wc_st_e ev5 hf
        refine lv_bipush (v := 15) hx hb wd_K_law_36 (by decide) ?_
        refine lv_iand hx hb wd_K_law_38 ?_
        refine lv_topi (fun v6 ev6 => ?_)
        have hf := wc_st_e ev6 hf
        by_cases sw0 : v6 = 0
        · have hf := wc_t sw0 hf
          have hv : v6.toInt = 0 := by rw [sw0]; rfl
          refine lv_tableIn (tgt := 112) hx hb wd_K_law_39 (by rw [hv]; decide) (by rw [hv]; decide) (by rw [hv]; rfl) (by decide) ?_
          exact J112 (wf_law_23 L xs n) hk23 t x4 σ hf htt _ _ _ hP hD hS (lv_sub hl [0, 1, 2, 3, 4] rfl)
        · have hf := wc_f sw0 hf
          by_cases sw1 : v6 = 1
          · have hf := wc_t sw1 hf
            have hv : v6.toInt = 1 := by rw [sw1]; rfl
            refine lv_tableIn (tgt := 204) hx hb wd_K_law_39 (by rw [hv]; decide) (by rw [hv]; decide) (by rw [hv]; rfl) (by decide) ?_
            exact J204 (wf_law_23 L xs n) hk23 t x4 σ hf htt _ _ _ hP hD hS (lv_sub hl [0, 1, 2, 3, 4] rfl)
          · have hf := wc_f sw1 hf
            by_cases sw2 : v6 = 2
            · have hf := wc_t sw2 hf
              have hv : v6.toInt = 2 := by rw [sw2]; rfl
              refine lv_tableIn (tgt := 296) hx hb wd_K_law_39 (by rw [hv]; decide) (by rw [hv]; decide) (by rw [hv]; rfl) (by decide) ?_
              exact J296 (wf_law_23 L xs n) hk23 t x4 σ hf htt _ _ _ hP hD hS (lv_sub hl [0, 1, 2, 3, 4] rfl)
            · have hf := wc_f sw2 hf
              by_cases sw3 : v6 = 3
              · have hf := wc_t sw3 hf
                have hv : v6.toInt = 3 := by rw [sw3]; rfl
                refine lv_tableIn (tgt := 376) hx hb wd_K_law_39 (by rw [hv]; decide) (by rw [hv]; decide) (by rw [hv]; rfl) (by decide) ?_
                exact J376 (wf_law_23 L xs n) hk23 t x4 σ hf htt _ _ _ hP hD hS (lv_sub hl [0, 1, 2, 3, 4] rfl)
              · have hf := wc_f sw3 hf
                by_cases sw4 : v6 = 4
                · have hf := wc_t sw4 hf
                  have hv : v6.toInt = 4 := by rw [sw4]; rfl
                  refine lv_tableIn (tgt := 424) hx hb wd_K_law_39 (by rw [hv]; decide) (by rw [hv]; decide) (by rw [hv]; rfl) (by decide) ?_
                  exact J424 (wf_law_23 L xs n) hk23 t x4 σ hf htt _ _ _ hP hD hS (lv_sub hl [0, 1, 2, 3, 4] rfl)
                · have hf := wc_f sw4 hf
                  by_cases sw5 : v6 = 5
                  · have hf := wc_t sw5 hf
                    have hv : v6.toInt = 5 := by rw [sw5]; rfl
                    refine lv_tableIn (tgt := 472) hx hb wd_K_law_39 (by rw [hv]; decide) (by rw [hv]; decide) (by rw [hv]; rfl) (by decide) ?_
                    exact J472 (wf_law_23 L xs n) hk23 t x4 σ hf htt _ _ _ hP hD hS (lv_sub hl [0, 1, 2, 3, 4] rfl)
                  · have hf := wc_f sw5 hf
                    by_cases sw6 : v6 = 6
                    · have hf := wc_t sw6 hf
                      have hv : v6.toInt = 6 := by rw [sw6]; rfl
                      refine lv_tableIn (tgt := 544) hx hb wd_K_law_39 (by rw [hv]; decide) (by rw [hv]; decide) (by rw [hv]; rfl) (by decide) ?_
                      exact J544 (wf_law_23 L xs n) hk23 t x4 σ hf htt _ _ _ hP hD hS (lv_sub hl [0, 1, 2, 3, 4] rfl)
                    · have hf := wc_f sw6 hf
                      by_cases sw7 : v6 = 7
                      · have hf := wc_t sw7 hf
                        have hv : v6.toInt = 7 := by rw [sw7]; rfl
                        refine lv_tableIn (tgt := 600) hx hb wd_K_law_39 (by rw [hv]; decide) (by rw [hv]; decide) (by rw [hv]; rfl) (by decide) ?_
                        exact J600 (wf_law_23 L xs n) hk23 t x4 σ hf htt _ _ _ hP hD hS (lv_sub hl [0, 1, 2, 3, 4] rfl)
                      · have hf := wc_f sw7 hf
                        by_cases sw8 : v6 = 8
                        · have hf := wc_t sw8 hf
                          have hv : v6.toInt = 8 := by rw [sw8]; rfl
                          refine lv_tableIn (tgt := 651) hx hb wd_K_law_39 (by rw [hv]; decide) (by rw [hv]; decide) (by rw [hv]; rfl) (by decide) ?_
                          exact J651 (wf_law_23 L xs n) hk23 t x4 σ hf htt _ _ _ hP hD hS (lv_sub hl [0, 1, 2, 3, 4] rfl)
                        · have hf := wc_f sw8 hf
                          by_cases sw9 : v6 = 9
                          · have hf := wc_t sw9 hf
                            have hv : v6.toInt = 9 := by rw [sw9]; rfl
                            refine lv_tableIn (tgt := 707) hx hb wd_K_law_39 (by rw [hv]; decide) (by rw [hv]; decide) (by rw [hv]; rfl) (by decide) ?_
                            exact J707 (wf_law_23 L xs n) hk23 t x4 σ hf htt _ _ _ hP hD hS (lv_sub hl [0, 1, 2, 3, 4] rfl)
                          · have hf := wc_f sw9 hf
                            by_cases sw10 : v6 = 10
                            · have hf := wc_t sw10 hf
                              have hv : v6.toInt = 10 := by rw [sw10]; rfl
                              refine lv_tableIn (tgt := 763) hx hb wd_K_law_39 (by rw [hv]; decide) (by rw [hv]; decide) (by rw [hv]; rfl) (by decide) ?_
                              exact J763 (wf_law_23 L xs n) hk23 t x4 σ hf htt _ _ _ hP hD hS (lv_sub hl [0, 1, 2, 3, 4] rfl)
                            · have hf := wc_f sw10 hf
                              by_cases sw11 : v6 = 11
                              · have hf := wc_t sw11 hf
                                have hv : v6.toInt = 11 := by rw [sw11]; rfl
                                refine lv_tableIn (tgt := 826) hx hb wd_K_law_39 (by rw [hv]; decide) (by rw [hv]; decide) (by rw [hv]; rfl) (by decide) ?_
                                exact J826 (wf_law_23 L xs n) hk23 t x4 σ hf htt _ _ _ hP hD hS (lv_sub hl [0, 1, 2, 3, 4] rfl)
                              · have hf := wc_f sw11 hf
                                by_cases sw12 : v6 = 12
                                · have hf := wc_t sw12 hf
                                  have hv : v6.toInt = 12 := by rw [sw12]; rfl
                                  refine lv_tableIn (tgt := 894) hx hb wd_K_law_39 (by rw [hv]; decide) (by rw [hv]; decide) (by rw [hv]; rfl) (by decide) ?_
                                  exact J894 (wf_law_23 L xs n) hk23 t x4 σ hf htt _ _ _ hP hD hS (lv_sub hl [0, 1, 2, 3, 4] rfl)
                                · have hf := wc_f sw12 hf
                                  by_cases sw13 : v6 = 13
                                  · have hf := wc_t sw13 hf
                                    have hv : v6.toInt = 13 := by rw [sw13]; rfl
                                    refine lv_tableIn (tgt := 907) hx hb wd_K_law_39 (by rw [hv]; decide) (by rw [hv]; decide) (by rw [hv]; rfl) (by decide) ?_
                                    exact J907 (wf_law_23 L xs n) hk23 t x4 σ hf htt _ _ _ hP hD hS (lv_sub hl [0, 1, 2, 3, 4] rfl)
                                  · have hf := wc_f sw13 hf
                                    by_cases sw14 : v6 = 14
                                    · have hf := wc_t sw14 hf
                                      have hv : v6.toInt = 14 := by rw [sw14]; rfl
                                      refine lv_tableIn (tgt := 975) hx hb wd_K_law_39 (by rw [hv]; decide) (by rw [hv]; decide) (by rw [hv]; rfl) (by decide) ?_
                                      exact J975 (wf_law_23 L xs n) hk23 t x4 σ hf htt _ _ _ hP hD hS (lv_sub hl [0, 1, 2, 3, 4] rfl)
                                    · have hf := wc_f sw14 hf
                                      have w0 : v6.toInt ≠ 0 := fun h => sw0 (Int32.toInt_inj.mp (h.trans rfl))
                                      have w1 : v6.toInt ≠ 1 := fun h => sw1 (Int32.toInt_inj.mp (h.trans rfl))
                                      have w2 : v6.toInt ≠ 2 := fun h => sw2 (Int32.toInt_inj.mp (h.trans rfl))
                                      have w3 : v6.toInt ≠ 3 := fun h => sw3 (Int32.toInt_inj.mp (h.trans rfl))
                                      have w4 : v6.toInt ≠ 4 := fun h => sw4 (Int32.toInt_inj.mp (h.trans rfl))
                                      have w5 : v6.toInt ≠ 5 := fun h => sw5 (Int32.toInt_inj.mp (h.trans rfl))
                                      have w6 : v6.toInt ≠ 6 := fun h => sw6 (Int32.toInt_inj.mp (h.trans rfl))
                                      have w7 : v6.toInt ≠ 7 := fun h => sw7 (Int32.toInt_inj.mp (h.trans rfl))
                                      have w8 : v6.toInt ≠ 8 := fun h => sw8 (Int32.toInt_inj.mp (h.trans rfl))
                                      have w9 : v6.toInt ≠ 9 := fun h => sw9 (Int32.toInt_inj.mp (h.trans rfl))
                                      have w10 : v6.toInt ≠ 10 := fun h => sw10 (Int32.toInt_inj.mp (h.trans rfl))
                                      have w11 : v6.toInt ≠ 11 := fun h => sw11 (Int32.toInt_inj.mp (h.trans rfl))
                                      have w12 : v6.toInt ≠ 12 := fun h => sw12 (Int32.toInt_inj.mp (h.trans rfl))
                                      have w13 : v6.toInt ≠ 13 := fun h => sw13 (Int32.toInt_inj.mp (h.trans rfl))
                                      have w14 : v6.toInt ≠ 14 := fun h => sw14 (Int32.toInt_inj.mp (h.trans rfl))
                                      refine lv_tableOut (tgt := 1031) hx hb wd_K_law_39 (by omega) (by decide) ?_
                                      refine W.widen (k := 90 + 2 * t + 2) (n := 700 + 12 * t + 12) (by omega) (by omega) ?_
                                      exact J1031 (wf_law_23 L xs n) hk23 t x4 σ hf htt _ _ _ hP hD hS (lv_sub hl [0, 1, 2, 3, 4] rfl)
  exact J23
