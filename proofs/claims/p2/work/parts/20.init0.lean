set_option maxHeartbeats 8000000 in
set_option maxRecDepth 100000 in
theorem wm_J_init (l : Launch) (D : va_G) (cI cZ cJ cG : ClassId) (sz h0 : Nat) : Met l wy_J_init ((.code ⟨"WidthCampaigns$JumpTable", "<init>", "()V"⟩ prog_2_method_1_code 1 (Option.none : Option Jvm.ClassFile.FieldType) : Cond) :: wx_all) ({ frames := 1, cells := 3, slots := 24, locals := 24 }) (va_Pc [.ref h0] (wn_pre D cI cZ cJ cG [(h0, .inr (2, [.null, .null, .null, .int 0]))] sz)) (va_Qv (fun _ : Nat → Nat => True) (fun u t => va_P D wx_cl [(h0, .inr (2, [.ref (u 1), .ref (u 2), .ref (u 3), .int 0])), ((u 1), .inl (cI, 8, .inl (fun _ => 0))), ((u 2), .inl (cI, 8, .inl (fun _ => 0))), ((u 3), .inl (cI, 8, .inl (fun _ => 0)))] t.heap ∧ va_D (va_A [(h0, .inr (2, [.null, .null, .null, .int 0]))] sz) [(h0, .inr (2, [.ref (u 1), .ref (u 2), .ref (u 3), .int 0])), ((u 1), .inl (cI, 8, .inl (fun _ => 0))), ((u 2), .inl (cI, 8, .inl (fun _ => 0))), ((u 3), .inl (cI, 8, .inl (fun _ => 0)))]) (va_A [(h0, .inr (2, [.null, .null, .null, .int 0]))] sz)) 3 24 (va_A [(h0, .inr (2, [.null, .null, .null, .int 0]))] sz) := by
  refine Met.ofW (cc := prog_2_method_1_code) (maxL := 1) (ret := none) (by decide) rfl ?_
  intro p e s m args below meth c s₁ B hml hv
  obtain ⟨rfl, hsz, hP, hK, hD0, hC, hO⟩ := hv
  have hx := B.exec
  have hb := B.bytes
  have hr := B.returns
  have hts := atoms_spec (ws := (.code ⟨"WidthCampaigns$JumpTable", "<init>", "()V"⟩ prog_2_method_1_code 1 (Option.none : Option Jvm.ClassFile.FieldType) : Cond) :: wx_all) B.pre
  have hown : s.vm.findClass "WidthCampaigns$JumpTable" = some m.cls := findClass_of_methodNamed B.named
  have hlocks := B.notSynchronized
  have hin : meth.name = "<init>" := (name_of_methodNamed B.named B.method).1
  subst hsz
  have hN := hC.now
  have hD := hD0.self (sz := s.heap.size)
  generalize hAe : va_A [(h0, .inr (2, [.null, .null, .null, .int 0]))] s.heap.size = A at hD hC ⊢
  have hA : ∀ q : Nat, s.heap.size ≤ q → A q := fun q h => by rw [← hAe]; exact Or.inr h
  have hS : va_S A s.heap s.heap [] := va_S.rf
  have hl := lv_entry ([.ref h0]) (n := 1) (Nat.le_of_ble_eq_true rfl)
  rw [lg_entry_eq]
  generalize (lg_sl ([.ref h0]) ++ List.replicate (1 - (lg_sl ([.ref h0])).length) Slot.unset).toArray = ls at hl ⊢
  have hl : lv_has ls 1 [(0, .ref h0)] := hl
  refine lv_aload_n hx hb wd_J_init_0 rfl (lv_at hl 0 rfl) ?_
  refine W.objInit hx hb hown (wx_hw hts wt_38) (wx_hw hts wt_23) (wx_hw hts wt_24) rfl (by rw [hml]; exact hl.1) rfl wd_J_init_1 (Nat.le_of_ble_eq_true rfl) (Nat.le_of_ble_eq_true rfl) ?_
  refine lv_aload_n hx hb wd_J_init_4 rfl (lv_at hl 0 rfl) ?_
  refine lv_bipush (v := 8) hx hb wd_J_init_5 (by decide) ?_
  refine wn_newI (N' := 8) hx hb hts wt_53 hK hP hD hS hA (by decide) rfl (Nat.le_of_ble_eq_true rfl) (Nat.le_of_ble_eq_true rfl) (Nat.le_of_ble_eq_true rfl) wd_J_init_7 (fun q1 H hP hD hS => ?_)
  have hP : va_P D wx_cl [(h0, .inr (2, [.null, .null, .null, .int 0])), (q1, .inl (cI, 8, .inl (fun _ => 0)))] H := hP
  have hD : va_D A [(h0, .inr (2, [.null, .null, .null, .int 0])), (q1, .inl (cI, 8, .inl (fun _ => 0)))] := hD
  refine W.widen (k := 1) (n := 8) (by omega) (by omega) ?_
  refine va_putF (D := D) (ci := 2) (v := .ref q1) (ty := (.array .int)) (C := "WidthCampaigns$JumpTable") (T := wx_TJ) (N := 4) hx hb hts (fun w h => List.mem_cons_of_mem _ (wi_J w h)) wx_tJ wx_toJ wx_nJ hown hK hP hD hS 0 rfl rfl 0 (by decide) (wx_hw hts wt_39) (fun _ h9 => h9) rfl hin rfl (by decide +kernel) rfl rfl (Nat.le_of_ble_eq_true rfl) wd_J_init_9 (fun H locs hP hD hS => ?_)
  have hP : va_P D wx_cl [(h0, .inr (2, [.ref q1, .null, .null, .int 0])), (q1, .inl (cI, 8, .inl (fun _ => 0)))] H := hP
  have hD : va_D A [(h0, .inr (2, [.ref q1, .null, .null, .int 0])), (q1, .inl (cI, 8, .inl (fun _ => 0)))] := hD
  refine lv_aload_n hx hb wd_J_init_12 rfl (lv_at hl 0 rfl) ?_
  refine lv_bipush (v := 8) hx hb wd_J_init_13 (by decide) ?_
  refine wn_newI (N' := 8) hx hb hts wt_53 hK hP hD hS hA (by decide) rfl (Nat.le_of_ble_eq_true rfl) (Nat.le_of_ble_eq_true rfl) (Nat.le_of_ble_eq_true rfl) wd_J_init_15 (fun q2 H hP hD hS => ?_)
  have hP : va_P D wx_cl [(h0, .inr (2, [.ref q1, .null, .null, .int 0])), (q1, .inl (cI, 8, .inl (fun _ => 0))), (q2, .inl (cI, 8, .inl (fun _ => 0)))] H := hP
  have hD : va_D A [(h0, .inr (2, [.ref q1, .null, .null, .int 0])), (q1, .inl (cI, 8, .inl (fun _ => 0))), (q2, .inl (cI, 8, .inl (fun _ => 0)))] := hD
  refine W.widen (k := 2) (n := 16) (by omega) (by omega) ?_
  refine va_putF (D := D) (ci := 2) (v := .ref q2) (ty := (.array .int)) (C := "WidthCampaigns$JumpTable") (T := wx_TJ) (N := 4) hx hb hts (fun w h => List.mem_cons_of_mem _ (wi_J w h)) wx_tJ wx_toJ wx_nJ hown hK hP hD hS 0 rfl rfl 1 (by decide) (wx_hw hts wt_40) (fun _ h9 => h9) rfl hin rfl (by decide +kernel) rfl rfl (Nat.le_of_ble_eq_true rfl) wd_J_init_17 (fun H locs hP hD hS => ?_)
  have hP : va_P D wx_cl [(h0, .inr (2, [.ref q1, .ref q2, .null, .int 0])), (q1, .inl (cI, 8, .inl (fun _ => 0))), (q2, .inl (cI, 8, .inl (fun _ => 0)))] H := hP
  have hD : va_D A [(h0, .inr (2, [.ref q1, .ref q2, .null, .int 0])), (q1, .inl (cI, 8, .inl (fun _ => 0))), (q2, .inl (cI, 8, .inl (fun _ => 0)))] := hD
  refine lv_aload_n hx hb wd_J_init_20 rfl (lv_at hl 0 rfl) ?_
  refine lv_bipush (v := 8) hx hb wd_J_init_21 (by decide) ?_
  refine wn_newI (N' := 8) hx hb hts wt_53 hK hP hD hS hA (by decide) rfl (Nat.le_of_ble_eq_true rfl) (Nat.le_of_ble_eq_true rfl) (Nat.le_of_ble_eq_true rfl) wd_J_init_23 (fun q3 H hP hD hS => ?_)
  have hP : va_P D wx_cl [(h0, .inr (2, [.ref q1, .ref q2, .null, .int 0])), (q1, .inl (cI, 8, .inl (fun _ => 0))), (q2, .inl (cI, 8, .inl (fun _ => 0))), (q3, .inl (cI, 8, .inl (fun _ => 0)))] H := hP
  have hD : va_D A [(h0, .inr (2, [.ref q1, .ref q2, .null, .int 0])), (q1, .inl (cI, 8, .inl (fun _ => 0))), (q2, .inl (cI, 8, .inl (fun _ => 0))), (q3, .inl (cI, 8, .inl (fun _ => 0)))] := hD
  refine W.widen (k := 3) (n := 24) (by omega) (by omega) ?_
  refine va_putF (D := D) (ci := 2) (v := .ref q3) (ty := (.array .int)) (C := "WidthCampaigns$JumpTable") (T := wx_TJ) (N := 4) hx hb hts (fun w h => List.mem_cons_of_mem _ (wi_J w h)) wx_tJ wx_toJ wx_nJ hown hK hP hD hS 0 rfl rfl 2 (by decide) (wx_hw hts wt_41) (fun _ h9 => h9) rfl hin rfl (by decide +kernel) rfl rfl (Nat.le_of_ble_eq_true rfl) wd_J_init_25 (fun H locs hP hD hS => ?_)
  have hP : va_P D wx_cl [(h0, .inr (2, [.ref q1, .ref q2, .ref q3, .int 0])), (q1, .inl (cI, 8, .inl (fun _ => 0))), (q2, .inl (cI, 8, .inl (fun _ => 0))), (q3, .inl (cI, 8, .inl (fun _ => 0)))] H := hP
  have hD : va_D A [(h0, .inr (2, [.ref q1, .ref q2, .ref q3, .int 0])), (q1, .inl (cI, 8, .inl (fun _ => 0))), (q2, .inl (cI, 8, .inl (fun _ => 0))), (q3, .inl (cI, 8, .inl (fun _ => 0)))] := hD
  obtain ⟨uu, huu⟩ : ∃ uu : Nat → Nat, uu = (fun k => ([h0, q1, q2, q3] : List Nat).getD k 0) := ⟨_, rfl⟩
  have hP2 : va_P D wx_cl [(h0, .inr (2, [.ref (uu 1), .ref (uu 2), .ref (uu 3), .int 0])), ((uu 1), .inl (cI, 8, .inl (fun _ => 0))), ((uu 2), .inl (cI, 8, .inl (fun _ => 0))), ((uu 3), .inl (cI, 8, .inl (fun _ => 0)))] H := hP.sub [0, 1, 2, 3] (by subst huu; rfl)
  have hD2 : va_D A [(h0, .inr (2, [.ref (uu 1), .ref (uu 2), .ref (uu 3), .int 0])), ((uu 1), .inl (cI, 8, .inl (fun _ => 0))), ((uu 2), .inl (cI, 8, .inl (fun _ => 0))), ((uu 3), .inl (cI, 8, .inl (fun _ => 0)))] := hD.sub [0, 1, 2, 3] (by decide) (by subst huu; rfl)
  exact W.vret hx hb hr (fun t ht hW => ⟨⟨uu, rfl, trivial, by rw [ht]; exact hP2, hD2⟩, hS.F ht⟩) hS.2.2 wd_J_init_28
set_option maxHeartbeats 8000000 in
set_option maxRecDepth 100000 in
theorem wm_G_init (l : Launch) (D : va_G) (cI cZ cJ cG : ClassId) (sz h0 : Nat) : Met l wy_G_init ((.code ⟨"WidthCampaigns$WidthGroups", "<init>", "()V"⟩ prog_6_method_1_code 1 (Option.none : Option Jvm.ClassFile.FieldType) : Cond) :: wx_all) ({ frames := 1, cells := 3, slots := 12, locals := 24 }) (va_Pc [.ref h0] (wn_pre D cI cZ cJ cG [(h0, .inr (3, [.null, .null, .null, .int 0]))] sz)) (va_Qv (fun _ : Nat → Nat => True) (fun u t => va_P D wx_cl [(h0, .inr (3, [.ref (u 1), .ref (u 2), .ref (u 3), .int 0])), ((u 1), .inl (cI, 4, .inl (fun _ => 0))), ((u 2), .inl (cI, 4, .inl (fun _ => 0))), ((u 3), .inl (cI, 4, .inl (fun _ => 0)))] t.heap ∧ va_D (va_A [(h0, .inr (3, [.null, .null, .null, .int 0]))] sz) [(h0, .inr (3, [.ref (u 1), .ref (u 2), .ref (u 3), .int 0])), ((u 1), .inl (cI, 4, .inl (fun _ => 0))), ((u 2), .inl (cI, 4, .inl (fun _ => 0))), ((u 3), .inl (cI, 4, .inl (fun _ => 0)))]) (va_A [(h0, .inr (3, [.null, .null, .null, .int 0]))] sz)) 3 12 (va_A [(h0, .inr (3, [.null, .null, .null, .int 0]))] sz) := by
  refine Met.ofW (cc := prog_6_method_1_code) (maxL := 1) (ret := none) (by decide) rfl ?_
  intro p e s m args below meth c s₁ B hml hv
  obtain ⟨rfl, hsz, hP, hK, hD0, hC, hO⟩ := hv
  have hx := B.exec
  have hb := B.bytes
  have hr := B.returns
  have hts := atoms_spec (ws := (.code ⟨"WidthCampaigns$WidthGroups", "<init>", "()V"⟩ prog_6_method_1_code 1 (Option.none : Option Jvm.ClassFile.FieldType) : Cond) :: wx_all) B.pre
  have hown : s.vm.findClass "WidthCampaigns$WidthGroups" = some m.cls := findClass_of_methodNamed B.named
  have hlocks := B.notSynchronized
  have hin : meth.name = "<init>" := (name_of_methodNamed B.named B.method).1
  subst hsz
  have hN := hC.now
  have hD := hD0.self (sz := s.heap.size)
  generalize hAe : va_A [(h0, .inr (3, [.null, .null, .null, .int 0]))] s.heap.size = A at hD hC ⊢
  have hA : ∀ q : Nat, s.heap.size ≤ q → A q := fun q h => by rw [← hAe]; exact Or.inr h
  have hS : va_S A s.heap s.heap [] := va_S.rf
  have hl := lv_entry ([.ref h0]) (n := 1) (Nat.le_of_ble_eq_true rfl)
  rw [lg_entry_eq]
  generalize (lg_sl ([.ref h0]) ++ List.replicate (1 - (lg_sl ([.ref h0])).length) Slot.unset).toArray = ls at hl ⊢
  have hl : lv_has ls 1 [(0, .ref h0)] := hl
  refine lv_aload_n hx hb wd_G_init_0 rfl (lv_at hl 0 rfl) ?_
  refine W.objInit hx hb hown (wx_hw hts wt_59) (wx_hw hts wt_23) (wx_hw hts wt_24) rfl (by rw [hml]; exact hl.1) rfl wd_G_init_1 (Nat.le_of_ble_eq_true rfl) (Nat.le_of_ble_eq_true rfl) ?_
  refine lv_aload_n hx hb wd_G_init_4 rfl (lv_at hl 0 rfl) ?_
  refine lv_iconst (v := 4) hx hb wd_G_init_5 (by decide) ?_
  refine wn_newI (N' := 4) hx hb hts wt_53 hK hP hD hS hA (by decide) rfl (Nat.le_of_ble_eq_true rfl) (Nat.le_of_ble_eq_true rfl) (Nat.le_of_ble_eq_true rfl) wd_G_init_6 (fun q1 H hP hD hS => ?_)
  have hP : va_P D wx_cl [(h0, .inr (3, [.null, .null, .null, .int 0])), (q1, .inl (cI, 4, .inl (fun _ => 0)))] H := hP
  have hD : va_D A [(h0, .inr (3, [.null, .null, .null, .int 0])), (q1, .inl (cI, 4, .inl (fun _ => 0)))] := hD
  refine W.widen (k := 1) (n := 4) (by omega) (by omega) ?_
  refine va_putF (D := D) (ci := 3) (v := .ref q1) (ty := (.array .int)) (C := "WidthCampaigns$WidthGroups") (T := wx_TG) (N := 4) hx hb hts (fun w h => List.mem_cons_of_mem _ (wi_G w h)) wx_tG wx_toG wx_nG hown hK hP hD hS 0 rfl rfl 0 (by decide) (wx_hw hts wt_60) (fun _ h9 => h9) rfl hin rfl (by decide +kernel) rfl rfl (Nat.le_of_ble_eq_true rfl) wd_G_init_8 (fun H locs hP hD hS => ?_)
  have hP : va_P D wx_cl [(h0, .inr (3, [.ref q1, .null, .null, .int 0])), (q1, .inl (cI, 4, .inl (fun _ => 0)))] H := hP
  have hD : va_D A [(h0, .inr (3, [.ref q1, .null, .null, .int 0])), (q1, .inl (cI, 4, .inl (fun _ => 0)))] := hD
  refine lv_aload_n hx hb wd_G_init_11 rfl (lv_at hl 0 rfl) ?_
  refine lv_iconst (v := 4) hx hb wd_G_init_12 (by decide) ?_
  refine wn_newI (N' := 4) hx hb hts wt_53 hK hP hD hS hA (by decide) rfl (Nat.le_of_ble_eq_true rfl) (Nat.le_of_ble_eq_true rfl) (Nat.le_of_ble_eq_true rfl) wd_G_init_13 (fun q2 H hP hD hS => ?_)
  have hP : va_P D wx_cl [(h0, .inr (3, [.ref q1, .null, .null, .int 0])), (q1, .inl (cI, 4, .inl (fun _ => 0))), (q2, .inl (cI, 4, .inl (fun _ => 0)))] H := hP
  have hD : va_D A [(h0, .inr (3, [.ref q1, .null, .null, .int 0])), (q1, .inl (cI, 4, .inl (fun _ => 0))), (q2, .inl (cI, 4, .inl (fun _ => 0)))] := hD
  refine W.widen (k := 2) (n := 8) (by omega) (by omega) ?_
  refine va_putF (D := D) (ci := 3) (v := .ref q2) (ty := (.array .int)) (C := "WidthCampaigns$WidthGroups") (T := wx_TG) (N := 4) hx hb hts (fun w h => List.mem_cons_of_mem _ (wi_G w h)) wx_tG wx_toG wx_nG hown hK hP hD hS 0 rfl rfl 1 (by decide) (wx_hw hts wt_62) (fun _ h9 => h9) rfl hin rfl (by decide +kernel) rfl rfl (Nat.le_of_ble_eq_true rfl) wd_G_init_15 (fun H locs hP hD hS => ?_)
  have hP : va_P D wx_cl [(h0, .inr (3, [.ref q1, .ref q2, .null, .int 0])), (q1, .inl (cI, 4, .inl (fun _ => 0))), (q2, .inl (cI, 4, .inl (fun _ => 0)))] H := hP
  have hD : va_D A [(h0, .inr (3, [.ref q1, .ref q2, .null, .int 0])), (q1, .inl (cI, 4, .inl (fun _ => 0))), (q2, .inl (cI, 4, .inl (fun _ => 0)))] := hD
  refine lv_aload_n hx hb wd_G_init_18 rfl (lv_at hl 0 rfl) ?_
  refine lv_iconst (v := 4) hx hb wd_G_init_19 (by decide) ?_
  refine wn_newI (N' := 4) hx hb hts wt_53 hK hP hD hS hA (by decide) rfl (Nat.le_of_ble_eq_true rfl) (Nat.le_of_ble_eq_true rfl) (Nat.le_of_ble_eq_true rfl) wd_G_init_20 (fun q3 H hP hD hS => ?_)
  have hP : va_P D wx_cl [(h0, .inr (3, [.ref q1, .ref q2, .null, .int 0])), (q1, .inl (cI, 4, .inl (fun _ => 0))), (q2, .inl (cI, 4, .inl (fun _ => 0))), (q3, .inl (cI, 4, .inl (fun _ => 0)))] H := hP
  have hD : va_D A [(h0, .inr (3, [.ref q1, .ref q2, .null, .int 0])), (q1, .inl (cI, 4, .inl (fun _ => 0))), (q2, .inl (cI, 4, .inl (fun _ => 0))), (q3, .inl (cI, 4, .inl (fun _ => 0)))] := hD
  refine W.widen (k := 3) (n := 12) (by omega) (by omega) ?_
  refine va_putF (D := D) (ci := 3) (v := .ref q3) (ty := (.array .int)) (C := "WidthCampaigns$WidthGroups") (T := wx_TG) (N := 4) hx hb hts (fun w h => List.mem_cons_of_mem _ (wi_G w h)) wx_tG wx_toG wx_nG hown hK hP hD hS 0 rfl rfl 2 (by decide) (wx_hw hts wt_64) (fun _ h9 => h9) rfl hin rfl (by decide +kernel) rfl rfl (Nat.le_of_ble_eq_true rfl) wd_G_init_22 (fun H locs hP hD hS => ?_)
  have hP : va_P D wx_cl [(h0, .inr (3, [.ref q1, .ref q2, .ref q3, .int 0])), (q1, .inl (cI, 4, .inl (fun _ => 0))), (q2, .inl (cI, 4, .inl (fun _ => 0))), (q3, .inl (cI, 4, .inl (fun _ => 0)))] H := hP
  have hD : va_D A [(h0, .inr (3, [.ref q1, .ref q2, .ref q3, .int 0])), (q1, .inl (cI, 4, .inl (fun _ => 0))), (q2, .inl (cI, 4, .inl (fun _ => 0))), (q3, .inl (cI, 4, .inl (fun _ => 0)))] := hD
  obtain ⟨uu, huu⟩ : ∃ uu : Nat → Nat, uu = (fun k => ([h0, q1, q2, q3] : List Nat).getD k 0) := ⟨_, rfl⟩
  have hP2 : va_P D wx_cl [(h0, .inr (3, [.ref (uu 1), .ref (uu 2), .ref (uu 3), .int 0])), ((uu 1), .inl (cI, 4, .inl (fun _ => 0))), ((uu 2), .inl (cI, 4, .inl (fun _ => 0))), ((uu 3), .inl (cI, 4, .inl (fun _ => 0)))] H := hP.sub [0, 1, 2, 3] (by subst huu; rfl)
  have hD2 : va_D A [(h0, .inr (3, [.ref (uu 1), .ref (uu 2), .ref (uu 3), .int 0])), ((uu 1), .inl (cI, 4, .inl (fun _ => 0))), ((uu 2), .inl (cI, 4, .inl (fun _ => 0))), ((uu 3), .inl (cI, 4, .inl (fun _ => 0)))] := hD.sub [0, 1, 2, 3] (by decide) (by subst huu; rfl)
  exact W.vret hx hb hr (fun t ht hW => ⟨⟨uu, rfl, trivial, by rw [ht]; exact hP2, hD2⟩, hS.F ht⟩) hS.2.2 wd_G_init_25
set_option maxHeartbeats 8000000 in
set_option maxRecDepth 100000 in
theorem wm_S_init (l : Launch) (D : va_G) (cI cZ cJ cG : ClassId) (sz h0 : Nat) (pl : Nat) (ln : Nat) : Met l wy_S_init ((.code ⟨"WidthCampaigns$Search", "<init>", "(LWidthCampaigns$Plant;LWidthCampaigns$Line;)V"⟩ prog_5_method_1_code 3 (Option.none : Option Jvm.ClassFile.FieldType) : Cond) :: wx_all) ({ frames := 1, cells := 1, slots := 9, locals := 24 }) (va_Pc [.ref h0, .ref pl, .ref ln] (wn_pre D cI cZ cJ cG [(h0, .inr (5, [.null, .null, .null, .int 0, .int 0, .int 0, .int 0]))] sz)) (va_Qv (fun _ : Nat → Nat => True) (fun u t => va_P D wx_cl [(h0, .inr (5, [.ref pl, .ref ln, .ref (u 1), .int 0, .int 0, .int 0, .int 0])), ((u 1), .inl (cI, 9, .inl (fun _ => 0)))] t.heap ∧ va_D (va_A [(h0, .inr (5, [.null, .null, .null, .int 0, .int 0, .int 0, .int 0]))] sz) [(h0, .inr (5, [.ref pl, .ref ln, .ref (u 1), .int 0, .int 0, .int 0, .int 0])), ((u 1), .inl (cI, 9, .inl (fun _ => 0)))]) (va_A [(h0, .inr (5, [.null, .null, .null, .int 0, .int 0, .int 0, .int 0]))] sz)) 1 9 (va_A [(h0, .inr (5, [.null, .null, .null, .int 0, .int 0, .int 0, .int 0]))] sz) := by
  refine Met.ofW (cc := prog_5_method_1_code) (maxL := 3) (ret := none) (by decide) rfl ?_
  intro p e s m args below meth c s₁ B hml hv
  obtain ⟨rfl, hsz, hP, hK, hD0, hC, hO⟩ := hv
  have hx := B.exec
  have hb := B.bytes
  have hr := B.returns
  have hts := atoms_spec (ws := (.code ⟨"WidthCampaigns$Search", "<init>", "(LWidthCampaigns$Plant;LWidthCampaigns$Line;)V"⟩ prog_5_method_1_code 3 (Option.none : Option Jvm.ClassFile.FieldType) : Cond) :: wx_all) B.pre
  have hown : s.vm.findClass "WidthCampaigns$Search" = some m.cls := findClass_of_methodNamed B.named
  have hlocks := B.notSynchronized
  have hin : meth.name = "<init>" := (name_of_methodNamed B.named B.method).1
  subst hsz
  have hN := hC.now
  have hD := hD0.self (sz := s.heap.size)
  generalize hAe : va_A [(h0, .inr (5, [.null, .null, .null, .int 0, .int 0, .int 0, .int 0]))] s.heap.size = A at hD hC ⊢
  have hA : ∀ q : Nat, s.heap.size ≤ q → A q := fun q h => by rw [← hAe]; exact Or.inr h
  have hS : va_S A s.heap s.heap [] := va_S.rf
  have hl := lv_entry ([.ref h0, .ref pl, .ref ln]) (n := 3) (Nat.le_of_ble_eq_true rfl)
  rw [lg_entry_eq]
  generalize (lg_sl ([.ref h0, .ref pl, .ref ln]) ++ List.replicate (3 - (lg_sl ([.ref h0, .ref pl, .ref ln])).length) Slot.unset).toArray = ls at hl ⊢
  have hl : lv_has ls 3 [(0, .ref h0), (1, .ref pl), (2, .ref ln)] := hl
  refine lv_aload_n hx hb wd_S_init_0 rfl (lv_at hl 0 rfl) ?_
  refine W.objInit hx hb hown (wx_hw hts wt_193) (wx_hw hts wt_23) (wx_hw hts wt_24) rfl (by rw [hml]; exact hl.1) rfl wd_S_init_1 (Nat.le_of_ble_eq_true rfl) (Nat.le_of_ble_eq_true rfl) ?_
  refine lv_aload_n hx hb wd_S_init_4 rfl (lv_at hl 0 rfl) ?_
  refine lv_bipush (v := 9) hx hb wd_S_init_5 (by decide) ?_
  refine wn_newI (N' := 9) hx hb hts wt_53 hK hP hD hS hA (by decide) rfl (Nat.le_of_ble_eq_true rfl) (Nat.le_of_ble_eq_true rfl) (Nat.le_of_ble_eq_true rfl) wd_S_init_7 (fun q1 H hP hD hS => ?_)
  have hP : va_P D wx_cl [(h0, .inr (5, [.null, .null, .null, .int 0, .int 0, .int 0, .int 0])), (q1, .inl (cI, 9, .inl (fun _ => 0)))] H := hP
  have hD : va_D A [(h0, .inr (5, [.null, .null, .null, .int 0, .int 0, .int 0, .int 0])), (q1, .inl (cI, 9, .inl (fun _ => 0)))] := hD
  refine W.widen (k := 1) (n := 9) (by omega) (by omega) ?_
  refine va_putF (D := D) (ci := 5) (v := .ref q1) (ty := (.array .int)) (C := "WidthCampaigns$Search") (T := wx_TS) (N := 7) hx hb hts (fun w h => List.mem_cons_of_mem _ (wi_S w h)) wx_tS wx_toS wx_nS hown hK hP hD hS 0 rfl rfl 2 (by decide) (wx_hw hts wt_196) (fun _ h9 => h9) rfl hin rfl (by decide +kernel) rfl rfl (Nat.le_of_ble_eq_true rfl) wd_S_init_9 (fun H locs hP hD hS => ?_)
  have hP : va_P D wx_cl [(h0, .inr (5, [.null, .null, .ref q1, .int 0, .int 0, .int 0, .int 0])), (q1, .inl (cI, 9, .inl (fun _ => 0)))] H := hP
  have hD : va_D A [(h0, .inr (5, [.null, .null, .ref q1, .int 0, .int 0, .int 0, .int 0])), (q1, .inl (cI, 9, .inl (fun _ => 0)))] := hD
  refine lv_aload_n hx hb wd_S_init_12 rfl (lv_at hl 0 rfl) ?_
  refine lv_aload_n hx hb wd_S_init_13 rfl (lv_at hl 1 rfl) ?_
  refine va_putF (D := D) (ci := 5) (v := .ref pl) (ty := (.object "WidthCampaigns$Plant")) (C := "WidthCampaigns$Search") (T := wx_TS) (N := 7) hx hb hts (fun w h => List.mem_cons_of_mem _ (wi_S w h)) wx_tS wx_toS wx_nS hown hK hP hD hS 0 rfl rfl 0 (by decide) (wx_hw hts wt_194) (fun _ h9 => h9) rfl hin rfl (by decide +kernel) rfl rfl (Nat.le_of_ble_eq_true rfl) wd_S_init_14 (fun H locs hP hD hS => ?_)
  have hP : va_P D wx_cl [(h0, .inr (5, [.ref pl, .null, .ref q1, .int 0, .int 0, .int 0, .int 0])), (q1, .inl (cI, 9, .inl (fun _ => 0)))] H := hP
  have hD : va_D A [(h0, .inr (5, [.ref pl, .null, .ref q1, .int 0, .int 0, .int 0, .int 0])), (q1, .inl (cI, 9, .inl (fun _ => 0)))] := hD
  refine lv_aload_n hx hb wd_S_init_17 rfl (lv_at hl 0 rfl) ?_
  refine lv_aload_n hx hb wd_S_init_18 rfl (lv_at hl 2 rfl) ?_
  refine va_putF (D := D) (ci := 5) (v := .ref ln) (ty := (.object "WidthCampaigns$Line")) (C := "WidthCampaigns$Search") (T := wx_TS) (N := 7) hx hb hts (fun w h => List.mem_cons_of_mem _ (wi_S w h)) wx_tS wx_toS wx_nS hown hK hP hD hS 0 rfl rfl 1 (by decide) (wx_hw hts wt_195) (fun _ h9 => h9) rfl hin rfl (by decide +kernel) rfl rfl (Nat.le_of_ble_eq_true rfl) wd_S_init_19 (fun H locs hP hD hS => ?_)
  have hP : va_P D wx_cl [(h0, .inr (5, [.ref pl, .ref ln, .ref q1, .int 0, .int 0, .int 0, .int 0])), (q1, .inl (cI, 9, .inl (fun _ => 0)))] H := hP
  have hD : va_D A [(h0, .inr (5, [.ref pl, .ref ln, .ref q1, .int 0, .int 0, .int 0, .int 0])), (q1, .inl (cI, 9, .inl (fun _ => 0)))] := hD
  obtain ⟨uu, huu⟩ : ∃ uu : Nat → Nat, uu = (fun k => ([h0, q1] : List Nat).getD k 0) := ⟨_, rfl⟩
  have hP2 : va_P D wx_cl [(h0, .inr (5, [.ref pl, .ref ln, .ref (uu 1), .int 0, .int 0, .int 0, .int 0])), ((uu 1), .inl (cI, 9, .inl (fun _ => 0)))] H := hP.sub [0, 1] (by subst huu; rfl)
  have hD2 : va_D A [(h0, .inr (5, [.ref pl, .ref ln, .ref (uu 1), .int 0, .int 0, .int 0, .int 0])), ((uu 1), .inl (cI, 9, .inl (fun _ => 0)))] := hD.sub [0, 1] (by decide) (by subst huu; rfl)
  exact W.vret hx hb hr (fun t ht hW => ⟨⟨uu, rfl, trivial, by rw [ht]; exact hP2, hD2⟩, hS.F ht⟩) hS.2.2 wd_S_init_22
