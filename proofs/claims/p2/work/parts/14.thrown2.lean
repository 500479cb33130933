/-! .. and these over the world of this proof -/
abbrev wx_Qix (D : va_G) (ad : Nat → Nat) (cI cZ cJ cG : ClassId) (res : wc_X (Int32 × wc_S)) (A : Nat → Prop) := va_Qi (fun x u => Sum.inr (x, u) = res) (wx_B D ad cI cZ cJ cG) A
abbrev wx_Qvx (D : va_G) (ad : Nat → Nat) (cI cZ cJ cG : ClassId) (res : wc_X wc_S) (A : Nat → Prop) := va_Qv (fun u => Sum.inr u = res) (wx_B D ad cI cZ cJ cG) A
def wx_XC (D : va_G) (ad : Nat → Nat) (cI cZ cJ cG : ClassId) {α : Type} (res : wc_X α) (A : Nat → Prop) : String → State → State → Prop := fun E st t => ∃ u : Nat × wc_S, Sum.inl u = res ∧ E = wx_E u.1 ∧ wx_B D ad cI cZ cJ cG u.2 t ∧ va_F A st t
section WZX
variable {p : Program} {l : Launch} {e : Env} {R : Room} {s : State} {m : MethodId} {args : Array Value} {below : List Frame} {meth : Method} {c : Code} {H : Heap} {locs : List Loc} {cells slots : Nat} {Q : State → Prop}
variable {cc : ByteArray} {pc : Nat} {ls : Array Slot} {rest st0 : List Value} {D : va_G} {ad : Nat → Nat} {cI cZ cJ cG : ClassId} {σ τ : wc_S} {A : Nat → Prop} {H0 : Heap} {mc ms : Nat}
theorem wx_callix {q : wc_X (Int32 × wc_S)} {a : Array Value} (hr : wz_Run p l e R s m args below meth c H locs cells slots mc ms (F0 m pc ls st0) rest (wx_Qix D ad cI cZ cJ cG q (va_A (wx_W ad cI cZ cJ cG σ) H.size) a) (wx_XC D ad cI cZ cJ cG q (va_A (wx_W ad cI cZ cJ cG σ) H.size)) (va_A (wx_W ad cI cZ cJ cG σ) H.size)) (hD : va_D A (wx_W ad cI cZ cJ cG σ)) (hS : va_S A H0 H locs) (hA : ∀ q, H0.size ≤ q → A q)
    (kx : ∀ (E : String) (q9 : Addr) (ce : Cell) (k9 : Nat) (τ : wc_S) (H1 : Heap) (locs1 : List Loc), Sum.inl (k9, τ) = q → E = wx_E k9 → va_P D wx_cl (wx_W ad cI cZ cJ cG τ) H1 → va_D A (wx_W ad cI cZ cJ cG τ) → va_S A H0 H1 locs1 → H1[q9]? = some ce → ce.vm = .none → s.vm.findClass E = some ce.cls → wz_W p l e R s m args below meth c H1 locs1 (cells + mc) (slots + ms) Q (F0 m pc ls rest) q9)
    (kk : ∀ (r : Int32) (τ : wc_S) (H1 : Heap) (locs1 : List Loc), Sum.inr (r, τ) = q → va_P D wx_cl (wx_W ad cI cZ cJ cG τ) H1 → va_D A (wx_W ad cI cZ cJ cG τ) → va_S A H0 H1 locs1 → W p l e R s m args below meth c H1 locs1 (cells + mc) (slots + ms) Q (F0 m (pc + 3) ls (.int r :: rest))) : W p l e R s m args below meth c H locs cells slots Q (F0 m pc ls st0) := by
  refine hr Q (fun q9 E ce L st₀ t T' h0 e1 e2 hx hce hcv hcl hL X => ?_) (fun v L st₀ t T' h0 e1 e2 hq hL X => ?_)
  · obtain ⟨u, hu, hE, hB, hF⟩ := hx
    exact kx E q9 ce u.1 u.2 T'.heap (locs ++ L) hu hE (by rw [e1]; exact hB) (wc_D hD) (wz_S h0 e1 hS (wx_fr hD hS hA) hL hF) (by rw [e1]; exact hce) hcv hcl T' rfl X
  · obtain ⟨⟨r, u, hv, hu, hB⟩, hF⟩ := hq
    cases hv
    exact kk r u T'.heap (locs ++ L) hu (by rw [e1]; exact hB) (wc_D hD) (wz_S h0 e1 hS (wx_fr hD hS hA) hL hF) T' rfl X
theorem wx_callvx {q : wc_X wc_S} {a : Array Value} (hr : wz_Run p l e R s m args below meth c H locs cells slots mc ms (F0 m pc ls st0) rest (wx_Qvx D ad cI cZ cJ cG q (va_A (wx_W ad cI cZ cJ cG σ) H.size) a) (wx_XC D ad cI cZ cJ cG q (va_A (wx_W ad cI cZ cJ cG σ) H.size)) (va_A (wx_W ad cI cZ cJ cG σ) H.size)) (hD : va_D A (wx_W ad cI cZ cJ cG σ)) (hS : va_S A H0 H locs) (hA : ∀ q, H0.size ≤ q → A q)
    (kx : ∀ (E : String) (q9 : Addr) (ce : Cell) (k9 : Nat) (τ : wc_S) (H1 : Heap) (locs1 : List Loc), Sum.inl (k9, τ) = q → E = wx_E k9 → va_P D wx_cl (wx_W ad cI cZ cJ cG τ) H1 → va_D A (wx_W ad cI cZ cJ cG τ) → va_S A H0 H1 locs1 → H1[q9]? = some ce → ce.vm = .none → s.vm.findClass E = some ce.cls → wz_W p l e R s m args below meth c H1 locs1 (cells + mc) (slots + ms) Q (F0 m pc ls rest) q9)
    (kk : ∀ (τ : wc_S) (H1 : Heap) (locs1 : List Loc), Sum.inr τ = q → va_P D wx_cl (wx_W ad cI cZ cJ cG τ) H1 → va_D A (wx_W ad cI cZ cJ cG τ) → va_S A H0 H1 locs1 → W p l e R s m args below meth c H1 locs1 (cells + mc) (slots + ms) Q (F0 m (pc + 3) ls rest)) : W p l e R s m args below meth c H locs cells slots Q (F0 m pc ls st0) := by
  refine hr Q (fun q9 E ce L st₀ t T' h0 e1 e2 hx hce hcv hcl hL X => ?_) (fun v L st₀ t T' h0 e1 e2 hq hL X => ?_)
  · obtain ⟨u, hu, hE, hB, hF⟩ := hx
    exact kx E q9 ce u.1 u.2 T'.heap (locs ++ L) hu hE (by rw [e1]; exact hB) (wc_D hD) (wz_S h0 e1 hS (wx_fr hD hS hA) hL hF) (by rw [e1]; exact hce) hcv hcl T' rfl X
  · obtain ⟨⟨u, hv, hu, hB⟩, hF⟩ := hq
    cases hv
    exact kk u T'.heap (locs ++ L) hu (by rw [e1]; exact hB) (wc_D hD) (wz_S h0 e1 hS (wx_fr hD hS hA) hL hF) T' rfl X
theorem wx_iretx {v : Int32} {res : wc_X (Int32 × wc_S)} (hx : p.tables.exec = Jvm.exec) (hb : c.code = cc) (hr : meth.sig.returnType = some .int) (hlocks : meth.locks = false) (hf : some (Sum.inr (v, σ)) = some res) (hP : va_P D wx_cl (wx_W ad cI cZ cJ cG σ) H) (hS : va_S A s.heap H locs) (hdg : decode cc pc = .ok (.ireturn, 1)) : W p l e R s m args below meth c H locs cells slots (MQ below (wx_Qix D ad cI cZ cJ cG res A) args s cells slots A) (F0 m pc ls [.int v]) :=
  W.iret (v := v) hx hb hr (fun t ht hW => ⟨⟨v, σ, rfl, Option.some.inj hf, by unfold wx_B; rw [ht]; exact hP⟩, hS.F ht⟩) hS.2.2 hdg
theorem wx_zretx {v : Int32} {res : wc_X (Int32 × wc_S)} (hx : p.tables.exec = Jvm.exec) (hb : c.code = cc) (hr : meth.sig.returnType = some .boolean) (hn : narrow .boolean (.int v) = .int v) (hlocks : meth.locks = false) (hf : some (Sum.inr (v, σ)) = some res) (hP : va_P D wx_cl (wx_W ad cI cZ cJ cG σ) H) (hS : va_S A s.heap H locs) (hdg : decode cc pc = .ok (.ireturn, 1)) : W p l e R s m args below meth c H locs cells slots (MQ below (wx_Qix D ad cI cZ cJ cG res A) args s cells slots A) (F0 m pc ls [.int v]) :=
  W.zret (v := v) hx hb hr hn (fun t ht hW => ⟨⟨v, σ, rfl, Option.some.inj hf, by unfold wx_B; rw [ht]; exact hP⟩, hS.F ht⟩) hS.2.2 hdg
theorem wx_vretx {res : wc_X wc_S} (hx : p.tables.exec = Jvm.exec) (hb : c.code = cc) (hr : meth.sig.returnType = none) (hlocks : meth.locks = false) (hf : some (Sum.inr σ) = some res) (hP : va_P D wx_cl (wx_W ad cI cZ cJ cG σ) H) (hS : va_S A s.heap H locs) (hdg : decode cc pc = .ok (.return_, 1)) : W p l e R s m args below meth c H locs cells slots (MQ below (wx_Qvx D ad cI cZ cJ cG res A) args s cells slots A) (F0 m pc ls []) :=
  W.vret hx hb hr (fun t ht hW => ⟨⟨σ, rfl, Option.some.inj hf, by unfold wx_B; rw [ht]; exact hP⟩, hS.F ht⟩) hS.2.2 hdg
/-- thrown by a callee, not caught here -/
theorem wx_outx {α : Type} {Qr : Array Value → State → Outcome → State → Prop} {res : wc_X α} {E : String} {ce : Cell} {q9 : Addr} {k9 : Nat} (ht : ∀ x ∈ c.exceptionTable.toList, False) (hlocks : meth.locks = false) (hc1 : H[q9]? = some ce) (hc2 : ce.vm = .none) (hc3 : s.vm.findClass E = some ce.cls) (hE : E = wx_E k9) (hres : Sum.inl (k9, σ) = res) (hP : va_P D wx_cl (wx_W ad cI cZ cJ cG σ) H) (hS : va_S A s.heap H locs) (h1 : cells ≤ mc) (h2 : slots ≤ ms) : wz_W p l e R s m args below meth c H locs cells slots (wz_MQ below Qr (wx_XC D ad cI cZ cJ cG res A) args s mc ms A) (F0 m pc ls rest) q9 := by
  intro T hT X
  obtain ⟨st1, hrun, hend, hW, hsm⟩ := X.leaveThrown q9 (g := F0 m pc ls rest) rfl rfl rfl (fun x hx => (ht x hx).elim) hlocks
  exact ⟨_, st1, .threw q9, hrun, hend, Or.inr ⟨q9, E, ce, locs, rfl, ⟨(k9, σ), hres, hE, (show va_P D wx_cl (wx_W ad cI cZ cJ cG σ) T.heap by rw [hT]; exact hP), hS.F (show T.heap = H from hT)⟩, ⟨(show T.heap[q9]? = some ce by rw [hT]; exact hc1), hc2, hc3⟩, hW, hsm.mono h1 h2, hS.2.2⟩⟩
theorem wx_ofX {y : MethodName} {ws ws' : List Cond} {rm : Room} {maxL : Nat} {ret : Option FieldType} {sz : Nat} {Qc : (Nat → Prop) → Array Value → State → Outcome → State → Prop} {XC : (Nat → Prop) → String → State → State → Prop} (av : List Value) (hy : plainName y.cls = true) (hw : ws = Cond.code y cc maxL ret :: ws') (hle : (lg_sl av).length ≤ maxL)
    (body : ∀ (p : Program) (e : Env) (s : State) (m : MethodId) (args : Array Value) (below : List Frame) (meth : Method) (c : Code) (A : Nat → Prop) (ls : Array Slot), wx_In p s m args meth c D ad cI cZ cJ cG A σ cc maxL ret ws y.cls → (∀ x ∈ c.exceptionTable.toList, False) → lv_has ls maxL (lv_args 0 av) →
      W p l e rm s m args below meth c s.heap [] 0 0 (wz_MQ below (Qc A) (XC A) args s mc ms A) (F0 m 0 ls [])) :
    wz_Met l y ws rm (va_Pc av (wx_pre D ad cI cZ cJ cG σ sz)) (Qc (va_A (wx_W ad cI cZ cJ cG σ) sz)) (XC (va_A (wx_W ad cI cZ cJ cG σ) sz)) mc ms (va_A (wx_W ad cI cZ cJ cG σ) sz) := by
  refine wz_ofW (cc := cc) (maxL := maxL) (ret := ret) hy hw ?_
  intro p e s m args below meth c s₁ B hml ht hv
  obtain ⟨rfl, hsz, hP, hK, hD0, hC⟩ := hv
  subst hsz
  have hl := lv_entry av (n := maxL) hle
  rw [lg_entry_eq]
  exact body p e s m _ below meth c _ _ ⟨B.exec, B.bytes, B.returns, atoms_spec (ws := ws) B.pre, findClass_of_methodNamed B.named, B.notSynchronized, hml, fun q h => Or.inr h, hP, hK, hD0.self, hC, hC.now, va_S.rf⟩ ht hl
/-- a method with an exception table that always returns -/
theorem wx_ofH {y : MethodName} {ws ws' : List Cond} {rm : Room} {maxL : Nat} {ret : Option FieldType} {hh : List (Nat × Nat × Nat × Nat)} {sz : Nat} {Qc : (Nat → Prop) → Array Value → State → Outcome → State → Prop} (av : List Value) (hy : plainName y.cls = true) (hw : ws = Cond.codeWith y cc maxL ret hh :: ws') (hle : (lg_sl av).length ≤ maxL)
    (body : ∀ (p : Program) (e : Env) (s : State) (m : MethodId) (args : Array Value) (below : List Frame) (meth : Method) (c : Code) (A : Nat → Prop) (ls : Array Slot), wx_In p s m args meth c D ad cI cZ cJ cG A σ cc maxL ret ws y.cls → c.exceptionTable.toList = tableOf hh → lv_has ls maxL (lv_args 0 av) →
      W p l e rm s m args below meth c s.heap [] 0 0 (MQ below (Qc A) args s mc ms A) (F0 m 0 ls [])) :
    Met l y ws rm (va_Pc av (wx_pre D ad cI cZ cJ cG σ sz)) (Qc (va_A (wx_W ad cI cZ cJ cG σ) sz)) mc ms (va_A (wx_W ad cI cZ cJ cG σ) sz) := by
  refine va_MetW (cc := cc) (maxL := maxL) (ret := ret) (hh := hh) hy hw ?_
  intro p e s m args below meth c s₁ B hml hv
  obtain ⟨rfl, hsz, hP, hK, hD0, hC⟩ := hv
  subst hsz
  have hl := lv_entry av (n := maxL) hle
  have hts := atoms_spec (ws := ws) B.pre
  have ht : c.exceptionTable.toList = tableOf hh := by
    obtain ⟨m9, meth9, c9, hn9, h1, h2, -, -, h6, -⟩ := Cond.codeWith_spec (hts (Cond.codeWith y cc maxL ret hh) (by rw [hw]; exact List.mem_cons_self))
    cases Option.some.inj (hn9.symm.trans B.named)
    cases Option.some.inj (h1.symm.trans B.method)
    cases Option.some.inj (h2.symm.trans (Stand.of_body B).code)
    rw [← h6, table_eq]
  rw [lg_entry_eq]
  exact body p e s m _ below meth c _ _ ⟨B.exec, B.bytes, B.returns, hts, findClass_of_methodNamed B.named, B.notSynchronized, hml, fun q h => Or.inr h, hP, hK, hD0.self, hC, hC.now, va_S.rf⟩ ht hl
/-- 'throw new E("text")', not caught here -/
theorem wz_throw {α : Type} {Qr : Array Value → State → Outcome → State → Prop} {res : wc_X α} {c0 : Cond} {k ik is ic : Nat} {text : String} (hx : p.tables.exec = Jvm.exec) (hb : c.code = cc) (htr : l.stackTraces = false) (hown : s.vm.findClass "WidthCampaigns" = some m.cls) (hts : ∀ w ∈ c0 :: wx_all, w.before args s = true) (hC : wx_C A s s.heap)
    (hk : Cond.classLink "WidthCampaigns" ik (wx_E k) ∈ wx_all) (hini : Cond.initialized (wx_E k) ∈ wx_all) (hstr : (is, text) ∈ wx_strs) (hat : Bundle.fit (wx_E k) = true ∧ ∀ w ∈ Bundle.ownAtoms "WidthCampaigns" ic (wx_E k) ["java/lang/RuntimeException", "java/lang/Exception"], (w ∈ lw_tbl ∧ goodWord w = true) ∨ w ∈ wx_bad)
    (hS : va_S A s.heap H locs) (hsize : ls.size = c.maxLocals)
    (d0 : decode cc pc = .ok (.new ik, 3)) (d3 : decode cc (pc + 3) = .ok (.dup, 1)) (d4 : decode cc (pc + 4) = .ok (.ldc is, 2)) (d6 : decode cc (pc + 6) = .ok (.invokespecial ic, 3)) (d9 : decode cc (pc + 9) = .ok (.athrow, 1)) (ht : ∀ x ∈ c.exceptionTable.toList, False)
    (hRf : 5 < R.frames) (hRl : (rest.map fun v => v.category).sum + 82 ≤ R.locals) (hRc : cells + 1 ≤ R.cells) (hRs : slots + 6 ≤ R.slots) (hlocks : meth.locks = false) (hP : va_P D wx_cl (wx_W ad cI cZ cJ cG σ) H) (hres : Sum.inl (k, σ) = res) (h1 : cells + 1 ≤ mc) (h2 : slots + 6 ≤ ms) :
    W p l e R s m args below meth c H locs cells slots (wz_MQ below Qr (wx_XC D ad cI cZ cJ cG res A) args s mc ms A) (F0 m pc ls rest) := by
  intro T hT X
  have htr' : e.platform.stackTraces = false := (show e.platform.stackTraces = l.stackTraces by rw [X.admits.platform]).trans htr
  have Y := wz_base X hRc hRs
  obtain ⟨z, hz⟩ : ∃ z, z = (T.setVm s.vm).setFrames (.invoking m args :: below) := ⟨_, rfl⟩
  rw [← hz] at Y
  have zv : z.vm = s.vm := by rw [hz]; rfl
  have zh : z.heap = H := by rw [hz]; exact hT
  have hWz : s.WarmedH z.vm := by rw [zv]; exact State.WarmedH.refl s
  have hfz : wx_facts z := hC z hWz (by rw [zh]; exact hS.1) (fun q h1 h2 => by rw [zh]; exact hS.2.1 q h1 h2)
  have good : ∀ w, w ∈ wx_all → w.before args z = true := fun w hw => word_at hWz (good_of_word (List.mem_filter.mp hw).2) (wx_hw hts hw)
  have atoms : ∀ w ∈ Bundle.ownAtoms "WidthCampaigns" ic (wx_E k) ["java/lang/RuntimeException", "java/lang/Exception"], w.before args z = true := fun w hw => by
    rcases hat.2 w hw with h | h
    · exact good w (List.mem_filter.mpr h)
    · exact hfz.1 w h args
  have hownz : z.vm.findClass "WidthCampaigns" = some m.cls := by rw [zv]; exact hown
  obtain ⟨vm1, cX, kX, hfX, hkX, -, -, X1, st1⟩ := Y.newCold hx (own := "WidthCampaigns") (C := wx_E k) (index := ik) (n := 6) hownz (good _ hk) (atoms _ (by simp [Bundle.ownAtoms])) (good _ hini) (g := F0 m pc ls rest) rfl (by rw [hb]; exact d0) (Nat.le_refl _) (Nat.le_refl _)
  obtain ⟨T1, hT1⟩ : ∃ T1, T1 = (T.setVm vm1).pushCell { cls := cX, slots := kX.instanceTypes.map defaultValue, vm := .none } := ⟨_, rfl⟩
  rw [← hT1] at X1 st1
  have hcell : T1.heap[T.heap.size]? = some (freshCell cX kX) := by rw [hT1]; exact State.heap_pushCell_size _ _
  obtain ⟨sa, hsa⟩ := hfz.2.1 _ hstr
  obtain ⟨U, run, hrun, hend, hWU, hsm, ce, hce, hO⟩ := X1.ctorThrowS hx htr' (own := "WidthCampaigns") (cls := wx_E k) (names := ["java/lang/RuntimeException", "java/lang/Exception"]) (ic := ic) hownz hat.1 (by decide +kernel) atoms (fun x hx => nomatch hx) hfX hkX hcell (by rw [zh, hT]; exact Nat.le_refl _) (msg := .ref sa) rfl
    (g := { method := m, pc := pc + 6, locals := ls, stack := .ref sa :: .ref T.heap.size :: .ref T.heap.size :: rest, locked := none }) rfl hsize rfl rfl (rest := rest) rfl (by rw [hb]; exact d6) (by rw [hb]; exact d9) (fun x hx => (ht x hx).elim) hRf (by simp only [List.map_cons, List.sum_cons, Value.category]; show 2 * 0 + (1 + (rest.map fun v => v.category).sum) + (13 * (2 + 1) + 42) ≤ R.locals; omega) hlocks
  obtain ⟨f1, f2⟩ := wz_old hsm
  rw [zh] at f1 f2
  have hWs : s.WarmedH U.vm := State.WarmedH.trans hWz hWU
  have hall : s.sameButNew ({ U with vm := s.vm } : State) locs mc ms := by
    subst hz
    obtain ⟨e1, e2⟩ := hsm
    rw [State.setFrames_setFrames] at e1
    have h3 := X.same.trans (show (T.setVm s.vm).sameButNew ({ U with vm := s.vm } : State) [] (0 + 1) (0 + 6) from ⟨e1, e2⟩)
    rw [List.append_nil] at h3
    exact h3.mono h1 h2
  refine ⟨U, ?_, .threw T.heap.size, hrun, hend, Or.inr ⟨T.heap.size, wx_E k, ce, locs, rfl, ⟨(k, σ), hres, rfl, hP.kept (fun j q hq => f2 q.1 (hP j q hq).lt), Nat.le_trans hS.1 f1, fun q h1 h2 => (f2 q (Nat.lt_of_lt_of_le h1 hS.1)).trans (hS.2.1 q h1 h2)⟩, ⟨hce, hO.vm, by have h9 := hO.cls; rw [zv] at h9; exact h9⟩, hWs, hall, hS.2.2⟩⟩
  refine st1 _ ?_
  have d3' : decode c.code (pc + 3) = .ok (.dup, 1) := by rw [hb]; exact d3
  show Steps p.tables e below (T1.setTop { method := m, pc := pc + 3, locals := ls, stack := .ref T.heap.size :: rest, locked := none }) _
  jvm_step X1.here [X1.here.top, hx, d3', Value.category]
  exact X1.ldcString hx (own := "WidthCampaigns") (text := text) (index := is) (a := sa) hownz hsa.1 hsa.2 (g := { method := m, pc := pc + 4, locals := ls, stack := .ref T.heap.size :: .ref T.heap.size :: rest, locked := none }) rfl (by rw [hb]; exact d4) _ run
/-- caught by the row x of the method's table, behind rows that let it by -/
theorem wz_catch {own E : String} {c0 : Cond} {ce : Cell} {q : Addr} (pre : List ExceptionTableEntry) (x : ExceptionTableEntry) (suf : List ExceptionTableEntry) (hown : s.vm.findClass own = some m.cls) (hts : ∀ w ∈ c0 :: wx_all, w.before args s = true) (hN : wx_facts s) (hsplit : c.exceptionTable.toList = pre ++ x :: suf)
    (hpass : ∀ z ∈ pre, z.catchType ≠ 0 ∧ ∃ nm : String, Cond.classLink own z.catchType nm ∈ wx_all ∧ (E, nm) ∈ wx_nots) (hcov : covers x pc = true) (h0 : x.catchType ≠ 0) (hlink : Cond.classLink own x.catchType E ∈ wx_all) (hcast : Cond.castable E E ∈ wx_bad) (hcell : H[q]? = some ce) (hv : ce.vm = .none) (hcl : s.vm.findClass E = some ce.cls)
    (kk : W p l e R s m args below meth c H locs cells slots Q (F0 m x.handlerPc ls [.ref q])) : wz_W p l e R s m args below meth c H locs cells slots Q (F0 m pc ls rest) q := by
  intro T hT X
  have hpl : e.platform.magicAccessors = ({} : Platform).magicAccessors := by rw [X.admits.platform]
  obtain ⟨c3, c4, hc3, hc4, hasg⟩ := Cond.castable_spec (hN.1 _ hcast args)
  cases Option.some.inj (hc3.symm.trans hcl)
  obtain ⟨c5, hc5, hcl5⟩ := Cond.classLink_spec hown (wx_hw hts hlink) e.platform hpl
  cases Option.some.inj (hc4.symm.trans hc5)
  obtain ⟨vm', X', st⟩ := X.thenCaughtThrough q (g := F0 m pc ls rest) rfl (Steps.refl _) (by rw [hT]; exact hcell) (by rw [hv]; rfl) (by obtain ⟨k9, h9, -⟩ := Vm.findClass_spec hcl; exact ⟨k9, h9⟩) pre x suf hsplit
    (fun z hz => by
      obtain ⟨hz0, nm, hl1, hn1⟩ := hpass z hz
      obtain ⟨c6, hc6, hcl6⟩ := Cond.classLink_spec hown (wx_hw hts hl1) e.platform hpl
      obtain ⟨a8, b8, g1, g2, g3⟩ := hN.2.2 _ hn1
      cases Option.some.inj (g1.symm.trans hcl)
      cases Option.some.inj (g2.symm.trans hc6)
      exact Or.inr ⟨hz0, _, hcl6, g3⟩) hcov (Or.inr ⟨h0, c4, hcl5, hasg⟩)
  obtain ⟨t, a1, b1⟩ := kk (T.setVm vm') hT X'
  exact ⟨t, st.trans a1, b1⟩
end WZX
