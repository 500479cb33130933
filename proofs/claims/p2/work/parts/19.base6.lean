/-! constructors: what they start from, new arrays -/
section WN
def wn_pre (D : va_G) (cI cZ cJ cG : ClassId) (st : va_W) (sz : Nat) : State → Prop := fun U => U.heap.size = sz ∧ va_P D wx_cl st U.heap ∧ va_K D wx_cl (wx_ty cI cZ cJ cG) U ∧ va_D (fun _ => True) st ∧ wx_C (va_A st sz) U U.heap ∧ (Cond.arrayOver (.array .int)).before #[] U = true
variable {p : Program} {l : Launch} {e : Env} {R : Room} {s : State} {m : MethodId} {args : Array Value} {below : List Frame} {meth : Method} {c : Code} {H : Heap} {locs : List Loc} {cells slots : Nat} {Q : State → Prop}
variable {cc : ByteArray} {pc : Nat} {ls : Array Slot} {rest : List Value} {D : va_G} {cI cZ cJ cG : ClassId} {A : Nat → Prop} {H0 : Heap} {ws st : va_W} {c0 : Cond}
theorem wn_preS {av : List Value} (hK : va_K D wx_cl (wx_ty cI cZ cJ cG) s) (hP : va_P D wx_cl st H) (hD : va_D A st) (hS : va_S A s.heap H locs) (hF : ∀ q, va_A st H.size q → A q) (hC : wx_C A s s.heap) (hO : (Cond.arrayOver (.array .int)).before #[] s = true) : PreS s H (va_Pc av (wn_pre D cI cZ cJ cG st H.size)) av := by
  refine ⟨fun a U g mk q => ?_, fun U hU hW => ?_⟩
  · obtain ⟨q0, q1, qP, qK, qD, qC, qO⟩ := q
    exact ⟨q0, q1, qP, va_K.moved (u := U) (U := U.calling g mk a) (Vm.Alike.refl U.vm) qK, qD, qC, over_moved (u := U) (E := U.calling g mk a) (Vm.Alike.refl U.vm) qO⟩
  · exact ⟨rfl, by rw [hU], by rw [hU]; exact hP, va_K.moved hW.alike hK, hD.weaken (fun _ _ _ _ => trivial), by rw [hU]; exact wx_C.go hW hS hF hC, over_moved hW.alike hO⟩
theorem wn_newI (hx : p.tables.exec = Jvm.exec) (hb : c.code = cc) (hts : ∀ w ∈ c0 :: wx_all, w.before args s = true) (harr : Cond.arrayClass .int ∈ wx_all) (hK : va_K D wx_cl (wx_ty cI cZ cJ cG) s) (hP : va_P D wx_cl ws H) (hD : va_D A ws) (hS : va_S A H0 H locs) (hA : ∀ q, H0.size ≤ q → A q) {n : Int32} {N' : Nat} (hn : ¬ n < 0) (hN : n.toNatClampNeg = N') (hbytes : N' * 4 ≤ 536870912) (hc : cells + 1 ≤ R.cells) (hs : slots + N' ≤ R.slots) (hdg : decode cc pc = .ok (.newarray .int, 2))
    (kk : ∀ (q : Nat) (H1 : Heap), va_P D wx_cl (ws ++ [(q, .inl (cI, N', .inl (fun _ => 0)))]) H1 → va_D A (ws ++ [(q, .inl (cI, N', .inl (fun _ => 0)))]) → va_S A H0 H1 locs → W p l e R s m args below meth c H1 locs (cells + 1) (slots + N') Q (F0 m (pc + 2) ls (.ref q :: rest))) : W p l e R s m args below meth c H locs cells slots Q (F0 m pc ls (.int n :: rest)) := by
  refine va_newa (atype := .int) (ty := .int) (a0 := (N', .inl (fun _ => 0))) hx hb (wx_hw hts harr) rfl hK hP hD hS hA (fun cA => rfl) hn hN hbytes hc hs hdg (fun q cA H1 hK1 hP1 hD1 hS1 => ?_)
  have e1 : s.vm.findClass ("[" ++ FieldType.int.toString) = some cA := (hK1.2 4 (cA, .int) rfl).2
  have e2 : s.vm.findClass ("[" ++ FieldType.int.toString) = some cI := (hK.2 0 (cI, .int) rfl).2
  cases Option.some.inj (e1.symm.trans e2)
  exact kk q H1 hP1 hD1 hS1
theorem wn_newZ (hx : p.tables.exec = Jvm.exec) (hb : c.code = cc) (hts : ∀ w ∈ c0 :: wx_all, w.before args s = true) (harr : Cond.arrayClass .boolean ∈ wx_all) (hK : va_K D wx_cl (wx_ty cI cZ cJ cG) s) (hP : va_P D wx_cl ws H) (hD : va_D A ws) (hS : va_S A H0 H locs) (hA : ∀ q, H0.size ≤ q → A q) {n : Int32} {N' : Nat} (hn : ¬ n < 0) (hN : n.toNatClampNeg = N') (hbytes : N' * 1 ≤ 536870912) (hc : cells + 1 ≤ R.cells) (hs : slots + N' ≤ R.slots) (hdg : decode cc pc = .ok (.newarray .boolean, 2))
    (kk : ∀ (q : Nat) (H1 : Heap), va_P D wx_cl (ws ++ [(q, .inl (cZ, N', .inl (fun _ => 0)))]) H1 → va_D A (ws ++ [(q, .inl (cZ, N', .inl (fun _ => 0)))]) → va_S A H0 H1 locs → W p l e R s m args below meth c H1 locs (cells + 1) (slots + N') Q (F0 m (pc + 2) ls (.ref q :: rest))) : W p l e R s m args below meth c H locs cells slots Q (F0 m pc ls (.int n :: rest)) := by
  refine va_newa (atype := .boolean) (ty := .boolean) (a0 := (N', .inl (fun _ => 0))) hx hb (wx_hw hts harr) rfl hK hP hD hS hA (fun cA => rfl) hn hN hbytes hc hs hdg (fun q cA H1 hK1 hP1 hD1 hS1 => ?_)
  have e1 : s.vm.findClass ("[" ++ FieldType.boolean.toString) = some cA := (hK1.2 4 (cA, .boolean) rfl).2
  have e2 : s.vm.findClass ("[" ++ FieldType.boolean.toString) = some cZ := (hK.2 1 (cZ, .boolean) rfl).2
  cases Option.some.inj (e1.symm.trans e2)
  exact kk q H1 hP1 hD1 hS1
theorem wn_newJ (hx : p.tables.exec = Jvm.exec) (hb : c.code = cc) (hts : ∀ w ∈ c0 :: wx_all, w.before args s = true) (harr : Cond.arrayClass .long ∈ wx_all) (hK : va_K D wx_cl (wx_ty cI cZ cJ cG) s) (hP : va_P D wx_cl ws H) (hD : va_D A ws) (hS : va_S A H0 H locs) (hA : ∀ q, H0.size ≤ q → A q) {n : Int32} {N' : Nat} (hn : ¬ n < 0) (hN : n.toNatClampNeg = N') (hbytes : N' * 8 ≤ 536870912) (hc : cells + 1 ≤ R.cells) (hs : slots + N' ≤ R.slots) (hdg : decode cc pc = .ok (.newarray .long, 2))
    (kk : ∀ (q : Nat) (H1 : Heap), va_P D wx_cl (ws ++ [(q, .inl (cJ, N', .inr (.inl (fun _ => 0))))]) H1 → va_D A (ws ++ [(q, .inl (cJ, N', .inr (.inl (fun _ => 0))))]) → va_S A H0 H1 locs → W p l e R s m args below meth c H1 locs (cells + 1) (slots + N') Q (F0 m (pc + 2) ls (.ref q :: rest))) : W p l e R s m args below meth c H locs cells slots Q (F0 m pc ls (.int n :: rest)) := by
  refine va_newa (atype := .long) (ty := .long) (a0 := (N', .inr (.inl (fun _ => 0)))) hx hb (wx_hw hts harr) rfl hK hP hD hS hA (fun cA => rfl) hn hN hbytes hc hs hdg (fun q cA H1 hK1 hP1 hD1 hS1 => ?_)
  have e1 : s.vm.findClass ("[" ++ FieldType.long.toString) = some cA := (hK1.2 4 (cA, .long) rfl).2
  have e2 : s.vm.findClass ("[" ++ FieldType.long.toString) = some cJ := (hK.2 2 (cJ, .long) rfl).2
  cases Option.some.inj (e1.symm.trans e2)
  exact kk q H1 hP1 hD1 hS1
/-- the array of rows behind i of them -/
theorem wn_outer (cA : ClassId) (N h0 : Nat) : ∀ i : Nat, Jvm.Free.Multi.outerC cA N h0 i = arrV cA N (fun j => va_rf (if j < i then some (h0 + 1 + j) else none))
  | 0 => by
    show ({ cls := cA, slots := Array.replicate N .null, vm := .none } : Cell) = _
    rw [arrV_new]
    exact congrArg (arrV cA N) (funext fun j => by simp [va_rf])
  | i + 1 => by
    show (Jvm.Free.Multi.outerC cA N h0 i).setSlot i (.ref (h0 + 1 + i)) = _
    rw [wn_outer cA N h0 i, arrV_store]
    refine congrArg (arrV cA N) (funext fun j => ?_)
    rcases Nat.lt_trichotomy j i with h | h | h
    · simp [updV, Nat.ne_of_lt h, h, Nat.lt_succ_of_lt h]
    · subst h; simp [updV, va_rf]
    · simp [updV, Nat.ne_of_gt h, Nat.not_lt_of_gt h, show ¬ j < i + 1 by omega]
theorem wn_mna (hx : p.tables.exec = Jvm.exec) (hb : c.code = cc) {own : String} {index : Nat} (hown : s.vm.findClass own = some m.cls) (hts : ∀ w ∈ c0 :: wx_all, w.before args s = true) (hcl : Cond.classLink own index "[[I" ∈ wx_all) (hO : (Cond.arrayOver (.array .int)).before #[] s = true) (harr : Cond.arrayClass .int ∈ wx_all) (hK : va_K D wx_cl (wx_ty cI cZ cJ cG) s) (hP : va_P D wx_cl ws H) (hD : va_D A ws) (hS : va_S A H0 H locs) (hA : ∀ q, H0.size ≤ q → A q) {n k : Int32} {N' K' : Nat} (hn : ¬ n < 0) (hk : ¬ k < 0) (hN : n.toNatClampNeg = N') (hM : k.toNatClampNeg = K') (hb1 : N' * 4 ≤ 536870912) (hb2 : K' * 4 ≤ 536870912) (hb3 : K' ≤ 536870912) (hc : cells + (1 + N') ≤ R.cells) (hs : slots + (N' + N' * K') ≤ R.slots) (hdg : decode cc pc = .ok (.multianewarray index 2, 4))
    (kk : ∀ (q : Nat) (H1 : Heap), va_P D wx_cl (ws ++ ((q, .inl (cG, N', .inr (.inr (.inr (.inr (fun i => if i < N' then some (q + 1 + i) else none)))))) :: (List.range N').map (fun i => (q + 1 + i, .inl (cI, K', .inl (fun _ => 0)))))) H1 → va_D A (ws ++ ((q, .inl (cG, N', .inr (.inr (.inr (.inr (fun i => if i < N' then some (q + 1 + i) else none)))))) :: (List.range N').map (fun i => (q + 1 + i, .inl (cI, K', .inl (fun _ => 0)))))) → va_S A H0 H1 locs →
      W p l e R s m args below meth c H1 locs (cells + 1 + N') (slots + N' + N' * K') Q (F0 m (pc + 4) ls (.ref q :: rest))) : W p l e R s m args below meth c H locs cells slots Q (F0 m pc ls (.int k :: .int n :: rest)) := by
  subst hN
  subst hM
  intro T hT X
  obtain ⟨vm1, cA, comp, -, fA, fC, -, -, X1, step⟩ := X.multianewarray2F hx (own := own) (index := index) (ty := .int) hown (wx_hw hts hcl) (show (Cond.arrayOver (.array .int)).before args s = true from hO) (wx_hw hts harr) (g := F0 m pc ls (.int k :: .int n :: rest)) rfl (by rw [hb]; exact hdg) rfl hn hk hb1 hb2 hb3 rfl rfl hc hs
  have e1 : s.vm.findClass ("[" ++ (FieldType.array .int).toString) = some cG := (hK.2 3 (cG, .array .int) rfl).2
  have e2 : s.vm.findClass ("[" ++ FieldType.int.toString) = some cI := (hK.2 0 (cI, .int) rfl).2
  cases Option.some.inj (fA.symm.trans e1)
  cases Option.some.inj (fC.symm.trans e2)
  obtain ⟨F, hF⟩ : ∃ F, F = Jvm.Free.Multi.fill (T.setVm vm1) cG cI n.toNatClampNeg k.toNatClampNeg (defaultValue .int) n.toNatClampNeg := ⟨_, rfl⟩
  have hTh : (T.setVm vm1).heap = H := hT
  obtain ⟨f1, f2, -, -⟩ := Jvm.Free.Multi.fill_facts (T.setVm vm1) cG cI n.toNatClampNeg k.toNatClampNeg (defaultValue .int) n.toNatClampNeg
  rw [← hF, hTh] at f1 f2
  rw [← hF] at X1 step
  have old : ∀ x : Nat, x < H.size → F.heap[x]? = H[x]? := fun x hx => by
    have h := Jvm.Free.Multi.fill_old (T.setVm vm1) cG cI n.toNatClampNeg k.toNatClampNeg (defaultValue .int) (a := x) (by rw [hTh]; exact hx) n.toNatClampNeg
    rw [← hF, hTh] at h
    exact h
  have row : ∀ j : Nat, j < n.toNatClampNeg → F.heap[H.size + 1 + j]? = some (vp_cell cI (k.toNatClampNeg, .inl (fun _ => 0))) := fun j hj => by
    have h := Jvm.Free.Multi.fill_inner (T.setVm vm1) cG cI n.toNatClampNeg k.toNatClampNeg (defaultValue .int) n.toNatClampNeg j hj
    rw [← hF, hTh] at h
    rw [h]
    show some ({ cls := cI, slots := Array.replicate k.toNatClampNeg (.int 0), vm := .none } : Cell) = _
    rw [arrV_new]
    rfl
  rw [wn_outer] at f2
  have hP1 : va_P D wx_cl (ws ++ ((H.size, .inl (cG, n.toNatClampNeg, .inr (.inr (.inr (.inr (fun i => if i < n.toNatClampNeg then some (H.size + 1 + i) else none)))))) :: (List.range n.toNatClampNeg).map (fun i => (H.size + 1 + i, .inl (cI, k.toNatClampNeg, .inl (fun _ => 0)))))) F.heap := by
    refine (hP.kept (fun j x hx => old x.1 ((hP j x hx).lt))).app (fun j x hx => ?_)
    cases j with
    | zero => cases hx; exact f2
    | succ j =>
      rw [List.getElem?_cons_succ, List.getElem?_map] at hx
      by_cases hj : j < n.toNatClampNeg
      · rw [List.getElem?_range hj] at hx
        cases hx
        exact row j hj
      · rw [List.getElem?_eq_none (by rw [List.length_range]; omega)] at hx
        cases hx
  have adr : ∀ (j : Nat) (x : Nat × va_E), (((H.size, .inl (cG, n.toNatClampNeg, .inr (.inr (.inr (.inr (fun i => if i < n.toNatClampNeg then some (H.size + 1 + i) else none)))))) :: (List.range n.toNatClampNeg).map (fun i => (H.size + 1 + i, .inl (cI, k.toNatClampNeg, .inl (fun _ => 0))))) : va_W)[j]? = some x → x.1 = H.size + j := by
    intro j x hx
    cases j with
    | zero => cases hx; rfl
    | succ j =>
      rw [List.getElem?_cons_succ, List.getElem?_map] at hx
      by_cases hj : j < n.toNatClampNeg
      · rw [List.getElem?_range hj] at hx
        cases hx
        show H.size + 1 + j = _
        omega
      · rw [List.getElem?_eq_none (by rw [List.length_range]; omega)] at hx
        cases hx
  have hD1 : va_D A (ws ++ ((H.size, .inl (cG, n.toNatClampNeg, .inr (.inr (.inr (.inr (fun i => if i < n.toNatClampNeg then some (H.size + 1 + i) else none)))))) :: (List.range n.toNatClampNeg).map (fun i => (H.size + 1 + i, .inl (cI, k.toNatClampNeg, .inl (fun _ => 0)))))) := by
    refine va_D.app hD ⟨fun i j x y hi hj hxy => ?_, fun j x hj => ?_⟩ (fun i j x y hi hj hxy => ?_)
    · have h1 := adr i x hi
      have h2 := adr j y hj
      omega
    · exact hA _ (by have := adr j x hj; have := hS.1; omega)
    · have h1 := (hP i x hi).lt
      have h2 := adr j y hj
      omega
  obtain ⟨t, a1, b1⟩ := kk H.size F.heap hP1 hD1 ⟨Nat.le_trans hS.1 (by rw [f1]; omega), fun x h1 h2 => (old x (Nat.lt_of_lt_of_le h1 hS.1)).trans (hS.2.1 x h1 h2), hS.2.2⟩ F rfl X1
  exact ⟨t, step t (by rw [hT]; exact a1), b1⟩
end WN
section WNC
variable {R : Room} {s : State} {args : Array Value} {c0 : Cond}
theorem wn_cwI {own : String} {index maxL mc ms : Nat} {y : MethodName} {bytes : ByteArray} {rm : Room} (n : Nat) (hts : ∀ w ∈ c0 :: wx_all, w.before args s = true) (hco : Cond.code y bytes maxL none ∈ wx_all) (hin : Cond.instanceMethod y ∈ wx_all) (hini : Cond.initialized y.cls ∈ wx_all) (hl : Cond.methodLink own index y ∈ wx_all) (hd : y.cls ≠ "java/lang/invoke/MethodHandle" ∧ y.cls ≠ "java/lang/invoke/VarHandle" ∧ (parseMethodDescriptor y.desc).map (fun d => d.parameters.length) = some n) (hrc : rm.cells = mc) (hrs : rm.slots = ms) (hR : rm.frames + 1 ≤ R.frames ∧ 8 + (maxL + 11) + rm.locals ≤ R.locals) (hy : y.name = "<init>" := by rfl) :
    CallB R s args own index y bytes maxL none (Cond.code y bytes maxL none :: wx_all) rm mc ms n ∧ y.name = "<init>" ∧ (Cond.instanceMethod y).before args s = true :=
  ⟨callB_of n hts (wx_good hco) rfl hrc hrs (wx_hw hts hini) (wx_hw hts hl) hd hR, hy, wx_hw hts hin⟩
theorem wn_cwN {own host : String} {index maxL mc ms : Nat} {y : MethodName} {bytes : ByteArray} {rm : Room} (n : Nat) (hts : ∀ w ∈ c0 :: wx_all, w.before args s = true) (hco : Cond.code y bytes maxL none ∈ wx_all) (hin : Cond.instanceMethod y ∈ wx_all) (hini : Cond.initialized y.cls ∈ wx_all) (hl : va_Nw (.methodLinkNest own index y host) s) (hd : y.cls ≠ "java/lang/invoke/MethodHandle" ∧ y.cls ≠ "java/lang/invoke/VarHandle" ∧ (parseMethodDescriptor y.desc).map (fun d => d.parameters.length) = some n) (hrc : rm.cells = mc) (hrs : rm.slots = ms) (hR : rm.frames + 1 ≤ R.frames ∧ 8 + (maxL + 11) + rm.locals ≤ R.locals) (hy : y.name = "<init>" := by rfl) :
    va_CN R s args own index y host bytes maxL none (Cond.code y bytes maxL none :: wx_all) rm mc ms n ∧ y.name = "<init>" ∧ (Cond.instanceMethod y).before args s = true :=
  ⟨va_cnB n hts (wx_good hco) rfl hrc hrs hl (wx_hw hts hini) hd hR, hy, wx_hw hts hin⟩
end WNC
