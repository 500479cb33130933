/-! words that rows use -/
theorem wt_17 : (.classLink "WidthCampaignsLaw" 8 "WidthCampaigns" : Cond) ∈ wx_all := wx_mem 61 (by decide +kernel) (by decide +kernel)
theorem wt_18 : (.instantiable "WidthCampaigns" 7 : Cond) ∈ wx_all := wx_mem 62 (by decide +kernel) (by decide +kernel)
theorem wt_19 : (.methodLink "WidthCampaignsLaw" 68 ⟨"WidthCampaigns", "<init>", "()V"⟩ : Cond) ∈ wx_all := wx_mem 63 (by decide +kernel) (by decide +kernel)
theorem wt_20 : (.instanceMethod ⟨"WidthCampaigns", "<init>", "()V"⟩ : Cond) ∈ wx_all := wx_mem 64 (by decide +kernel) (by decide +kernel)
theorem wt_21 : (.code ⟨"WidthCampaigns", "<init>", "()V"⟩ prog_1_method_1_code 1 (Option.none : Option Jvm.ClassFile.FieldType) : Cond) ∈ wx_all := wx_mem 65 (by decide +kernel) (by decide +kernel)
theorem wt_624 : (.classLink "WidthCampaignsLaw" 69 "WidthCampaignsModel" : Cond) ∈ wx_all := wx_mem 668 (by decide +kernel) (by decide +kernel)
theorem wt_625 : (.instantiable "WidthCampaignsModel" 29 : Cond) ∈ wx_all := wx_mem 669 (by decide +kernel) (by decide +kernel)
theorem wt_626 : (.methodLink "WidthCampaignsLaw" 71 ⟨"WidthCampaignsModel", "<init>", "()V"⟩ : Cond) ∈ wx_all := wx_mem 670 (by decide +kernel) (by decide +kernel)
theorem wt_627 : (.instanceMethod ⟨"WidthCampaignsModel", "<init>", "()V"⟩ : Cond) ∈ wx_all := wx_mem 671 (by decide +kernel) (by decide +kernel)
theorem wt_628 : (.code ⟨"WidthCampaignsModel", "<init>", "()V"⟩ prog_8_method_1_code 1 (Option.none : Option Jvm.ClassFile.FieldType) : Cond) ∈ wx_all := wx_mem 672 (by decide +kernel) (by decide +kernel)
theorem wt_836 : (.arrayClass Jvm.ClassFile.FieldType.long : Cond) ∈ wx_all := wx_mem 880 (by decide +kernel) (by decide +kernel)

theorem wd_K_law_0 : decode code 0 = .ok (.new 8, 3) := by decide +kernel
theorem wd_K_law_3 : decode code 3 = .ok (.dup, 1) := by decide +kernel
theorem wd_K_law_4 : decode code 4 = .ok (.invokespecial 68, 3) := by decide +kernel
theorem wd_K_law_7 : decode code 7 = .ok (.astore_n 1, 1) := by decide +kernel
theorem wd_K_law_8 : decode code 8 = .ok (.new 69, 3) := by decide +kernel
theorem wd_K_law_11 : decode code 11 = .ok (.dup, 1) := by decide +kernel
theorem wd_K_law_12 : decode code 12 = .ok (.invokespecial 71, 3) := by decide +kernel
theorem wd_K_law_15 : decode code 15 = .ok (.astore_n 2, 1) := by decide +kernel
theorem wd_K_law_16 : decode code 16 = .ok (.iconst 1, 1) := by decide +kernel
theorem wd_K_law_17 : decode code 17 = .ok (.newarray .long, 2) := by decide +kernel
theorem wd_K_law_19 : decode code 19 = .ok (.astore_n 3, 1) := by decide +kernel
theorem wd_K_law_20 : decode code 20 = .ok (.iconst 0, 1) := by decide +kernel
theorem wd_K_law_21 : decode code 21 = .ok (.istore 4, 2) := by decide +kernel
/-! what the Statement gives at the law's start -/
def wl_kind : Cond → Bool
  | .fieldLinkNest _ _ _ _ _ _ => true
  | .methodLinkNest _ _ _ _ => true
  | .castable _ _ => true
  | .declares _ => true
  | .laysStatic _ _ _ => true
  | _ => false
theorem wl_lays {s T : State} {C n d : String} {a : Array Value} (hl : (Cond.laysStatic C n d).before a s = true) (hal : s.vm.Alike T.vm) (hq : ∀ q : Nat, q < s.heap.size → T.heap[q]? = s.heap[q]?) (a' : Array Value) : (Cond.laysStatic C n d).before a' T = true := by
  obtain ⟨c, k, i, f, x, cell, h1, h2, h3, h4, h5, h6, h7, h8, h9⟩ := Cond.laysStatic_spec hl
  obtain ⟨k', hi', he⟩ := State.fieldFound?_setVm hal h2
  exact Cond.laysStatic_of (s := T) (by rw [hal.findClass]; exact h1) hi' h3 (by rw [he]; exact h4) (by rw [hq x (Array.getElem?_eq_some_iff.mp h5).1]; exact h5) h6 h7 h8 (by rw [he]; exact h9)
theorem wl_isRef {s T : State} {C n d : String} {a : Array Value} (hl : (Cond.laysStatic C n d).before a s = true) (hini : (Cond.initialized C).before a s = true) (h : (Cond.isRef (.static C n d)).before a s = true) (hal : s.vm.Alike T.vm) (hq : ∀ q : Nat, q < s.heap.size → T.heap[q]? = s.heap[q]?) (a' : Array Value) : (Cond.isRef (.static C n d)).before a' T = true := by
  have hz := (va_Zq.moved hal (va_Zqof (A := fun q => s.heap.size ≤ q) hl hini h (fun x hx => Nat.not_le.mpr hx))).kept (H1 := T.heap) (fun x hx _ => hq x hx)
  have key : ∀ v : Value, v.isRef = true → va_Z C n d v (fun q => s.heap.size ≤ q) T T.heap → (Cond.isRef (.static C n d)).before a' T = true := by
    intro v hv hZ
    obtain ⟨cf, kf, fi, f, x, cell, g1, g2, g3, g4, g5, g6, g7, -⟩ := hZ
    have he : (Term.static C n d).eval a' T none [] T = some v := by simp [Term.eval, State.fieldNamed?, g1, g2, g4, g5, g6, g7]
    simp only [Cond.before, Cond.holds, Cond.value, he]
    cases v <;> simp_all [Value.isRef]
  rcases hz with hz | ⟨t, hz⟩
  · exact key _ rfl hz
  · exact key _ rfl hz
theorem wl_bad {s T : State} {w : Cond} {a : Array Value} (hk : wl_kind w = true) (h : w.before a s = true) (hW : s.WarmedH T.vm) (hq : ∀ q : Nat, q < s.heap.size → T.heap[q]? = s.heap[q]?) (a' : Array Value) : w.before a' T = true := by
  cases w <;> first
    | exact va_Nw.use rfl (va_Nw.warmF hW (va_Nw.of rfl h))
    | exact va_Nw.use rfl (va_Nw.warmM hW (va_Nw.of rfl h))
    | exact va_Nw.use rfl (va_Nw.warmC hW (va_Nw.of rfl h))
    | exact va_Nw.use rfl (va_Nw.warmD hW (va_Nw.of rfl h))
    | exact wl_lays h hW.alike hq a'
    | (exact absurd hk (by intro h9; cases h9))
theorem wl_kinds : ∀ w ∈ wx_bad, (wl_kind w = true ∧ w ∈ lw_tbl) ∨ (w = .isRef (.static "java/lang/Throwable" "UNASSIGNED_STACK" "[Ljava/lang/StackTraceElement;") ∨ w = .isRef (.static "java/lang/Throwable" "SUPPRESSED_SENTINEL" "Ljava/util/List;")) := by decide +kernel
theorem wl_strs : ∀ q ∈ wx_strs, Cond.stringRef "WidthCampaigns" q.1 q.2 ∈ lw_tbl := by decide +kernel
theorem wl_nots : ∀ q ∈ wx_nots, Cond.not (.castable q.1 q.2) ∈ flatC (Jvm.Cond.and given_1 narrow_1) := by decide +kernel
theorem wl_refs : Cond.isRef (.static "java/lang/Throwable" "UNASSIGNED_STACK" "[Ljava/lang/StackTraceElement;") ∈ flatC (Jvm.Cond.and given_1 narrow_1) ∧ Cond.isRef (.static "java/lang/Throwable" "SUPPRESSED_SENTINEL" "Ljava/util/List;") ∈ flatC (Jvm.Cond.and given_1 narrow_1) := by decide +kernel
theorem wl_stat : Cond.laysStatic "java/lang/Throwable" "UNASSIGNED_STACK" "[Ljava/lang/StackTraceElement;" ∈ lw_tbl ∧ Cond.laysStatic "java/lang/Throwable" "SUPPRESSED_SENTINEL" "Ljava/util/List;" ∈ lw_tbl ∧ Cond.initialized "java/lang/Throwable" ∈ lw_tbl ∧ Cond.instantiable "WidthCampaigns" 7 ∈ lw_tbl := by decide +kernel
theorem wl_C {a : Array Value} {s : State} (hts : ∀ w ∈ lw_tbl, w.before a s = true) (hgv : (Jvm.Cond.and given_1 narrow_1).before a s = true) : wx_C (fun q => s.heap.size ≤ q) s s.heap := by
  intro T hW hz hq0
  have hq : ∀ q : Nat, q < s.heap.size → T.heap[q]? = s.heap[q]? := fun q h => hq0 q h (Nat.not_le.mpr h)
  have hfl := flat_of_before _ hgv
  refine ⟨fun w hw a' => ?_, fun q hq1 => ?_, fun q hq1 => va_Nc.moved hW.alike (va_Nc.of (hfl _ (wl_nots q hq1)))⟩
  · rcases wl_kinds w hw with ⟨h1, h2⟩ | rfl | rfl
    · exact wl_bad h1 (hts w h2) hW hq a'
    · exact wl_isRef (hts _ wl_stat.1) (hts _ wl_stat.2.2.1) (hfl _ wl_refs.1) hW.alike hq a'
    · exact wl_isRef (hts _ wl_stat.2.1) (hts _ wl_stat.2.2.1) (hfl _ wl_refs.2) hW.alike hq a'
  · obtain ⟨cur, kC, hfc, -⟩ := Cond.instantiable_spec (hts _ wl_stat.2.2.2)
    have h := hts _ (wl_strs q hq1)
    obtain ⟨k, cf, i, sa, -, -, -, -, -, hev⟩ := Cond.stringRef_spec hfc h
    exact ⟨sa, vk_R.warm hW (vk_R.of h hev)⟩
/-- an array class by its word -/
theorem wl_arr {a : Array Value} {s : State} {ty : FieldType} (h : (Cond.arrayClass ty).before a s = true) : ∃ c : ClassId, ArrOfT s c ty ∧ s.vm.findClass ("[" ++ ty.toString) = some c := by
  obtain ⟨c, k, comp, h1, h2, h3⟩ := Cond.arrayClass_spec h
  exact ⟨c, fun n z => ⟨fun k h => (by cases h), k, h2, comp, h3⟩, h1⟩
theorem wl_grid {a : Array Value} {s : State} (h : (Cond.arrayOver (.array .int)).before a s = true) : ∃ c : ClassId, ArrOfT s c (.array .int) ∧ s.vm.findClass ("[" ++ (FieldType.array .int).toString) = some c := by
  obtain ⟨comp, c, k, -, -, h2, h3, h1⟩ := arrayOverA_spec h
  exact ⟨c, fun n z => ⟨fun k h => (by cases h), k, h2, comp, h3⟩, h1⟩
theorem wl_words : Cond.arrayClass .int ∈ lw_tbl ∧ Cond.arrayClass .boolean ∈ lw_tbl ∧ Cond.arrayClass .long ∈ lw_tbl ∧ Cond.arrayOver (.array .int) ∈ lw_tbl := by decide +kernel
theorem wl_inst : Cond.instantiable "WidthCampaigns" 7 ∈ lw_tbl ∧ Cond.instantiable "WidthCampaigns$Plant" 15 ∈ lw_tbl ∧ Cond.instantiable "WidthCampaigns$JumpTable" 4 ∈ lw_tbl ∧ Cond.instantiable "WidthCampaigns$WidthGroups" 4 ∈ lw_tbl ∧ Cond.instantiable "WidthCampaigns$Line" 10 ∈ lw_tbl ∧ Cond.instantiable "WidthCampaigns$Search" 7 ∈ lw_tbl ∧ Cond.instantiable "WidthCampaignsModel" 29 ∈ lw_tbl := by decide +kernel
theorem wl_K {a : Array Value} {s : State} (hts : ∀ w ∈ lw_tbl, w.before a s = true) : ∃ (D : va_G) (cI cZ cJ cG : ClassId), va_K D wx_cl (wx_ty cI cZ cJ cG) s := by
  obtain ⟨h0, h1, h2, h3, h4, h5, h6⟩ := wl_inst
  obtain ⟨c0, i0, k0⟩ := u_known (C := "WidthCampaigns") (T := wx_TW) (N := 7) (n := 7) hts wj_W (hts _ h0)
  obtain ⟨c1, i1, k1⟩ := u_known (C := "WidthCampaigns$Plant") (T := wx_TP) (N := 15) (n := 15) hts wj_P (hts _ h1)
  obtain ⟨c2, i2, k2⟩ := u_known (C := "WidthCampaigns$JumpTable") (T := wx_TJ) (N := 4) (n := 4) hts wj_J (hts _ h2)
  obtain ⟨c3, i3, k3⟩ := u_known (C := "WidthCampaigns$WidthGroups") (T := wx_TG) (N := 4) (n := 4) hts wj_G (hts _ h3)
  obtain ⟨c4, i4, k4⟩ := u_known (C := "WidthCampaigns$Line") (T := wx_TL) (N := 10) (n := 10) hts wj_L (hts _ h4)
  obtain ⟨c5, i5, k5⟩ := u_known (C := "WidthCampaigns$Search") (T := wx_TS) (N := 7) (n := 7) hts wj_S (hts _ h5)
  obtain ⟨c6, i6, k6⟩ := u_known (C := "WidthCampaignsModel") (T := wx_TM) (N := 29) (n := 29) hts wj_M (hts _ h6)
  obtain ⟨w1, w2, w3, w4⟩ := wl_words
  obtain ⟨cI, a1, b1⟩ := wl_arr (hts _ w1)
  obtain ⟨cZ, a2, b2⟩ := wl_arr (hts _ w2)
  obtain ⟨cJ, a3, b3⟩ := wl_arr (hts _ w3)
  obtain ⟨cG, a4, b4⟩ := wl_grid (hts _ w4)
  refine ⟨(fun k => [c0, c1, c2, c3, c4, c5, c6].getD k 0, fun k => [i0, i1, i2, i3, i4, i5, i6].getD k i0), cI, cZ, cJ, cG, fun k q hq => ?_, fun k q hq => ?_⟩
  · match k, hq with
    | 0, hq => cases hq; exact k0
    | 1, hq => cases hq; exact k1
    | 2, hq => cases hq; exact k2
    | 3, hq => cases hq; exact k3
    | 4, hq => cases hq; exact k4
    | 5, hq => cases hq; exact k5
    | 6, hq => cases hq; exact k6
    | k + 7, hq => simp [wx_cl] at hq
  · match k, hq with
    | 0, hq => cases hq; exact ⟨a1, b1⟩
    | 1, hq => cases hq; exact ⟨a2, b2⟩
    | 2, hq => cases hq; exact ⟨a3, b3⟩
    | 3, hq => cases hq; exact ⟨a4, b4⟩
    | k + 4, hq => simp [wx_ty] at hq
/-- the state of a new object of the class, of a new reference, of out -/
def wc_0 : wc_S := fun k i => if k = 1 then (if i = 11 then 2 else if i = 12 then 1000 else if i = 13 then 100 else 0) else if k = 71 then (if i = 16 then 2 else if i = 17 then 1000 else if i = 18 then 100 else 0) else 0
