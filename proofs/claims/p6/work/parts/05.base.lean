section WCR
variable {p : Program} {l : Launch} {e : Env} {R : Room} {s : State} {m : MethodId} {args : Array Value} {below : List Frame} {meth : Method} {c : Code} {H : Heap} {locs : List Loc} {cells slots : Nat} {Q : State → Prop}
variable {cc : ByteArray} {pc : Nat} {ls : Array Slot} {rest : List Value} {D : va_G} {cl : List vw_C} {tys : List (ClassId × FieldType)} {A : Nat → Prop} {H0 : Heap} {N : Nat} {ad : Nat → Nat} {mk : Nat → (Nat → Int32) → va_E} {σ τ : wc_S}
theorem wx_get (hexec : p.tables.exec = Jvm.exec) (hb : c.code = cc) {own ref C : String} {T : u_T} {N' ci index : Nat} {c0 : Cond} (hts : ∀ w ∈ c0 :: wx_all, w.before args s = true) (hin : ∀ w ∈ u_ws C T N', w ∈ wx_all) (hown : s.vm.findClass own = some m.cls) (hK : va_K D cl tys s) (hP : va_P D cl (wc_W N ad mk σ) H) (k : Nat) {fs : List Value} (hk : k < N) (hm : mk k (σ k) = .inr (ci, fs)) (hc : cl[ci]? = some (C, T, N')) (j : Nat) (hj : j < N') (hlink : Cond.fieldLink own index ref (T j).2.1 (T j).2.2.1 ∈ wx_all) (hsame : ∀ x, s.fieldFound? (T j).1 (T j).2.1 (T j).2.2.1 = some x → s.fieldFound? ref (T j).2.1 (T j).2.2.1 = some x) {v : Value} (hv : fs[j]? = some v) (hdg : decode cc pc = .ok (.getfield index, 3))
    (kk : W p l e R s m args below meth c H locs cells slots Q (F0 m (pc + 3) ls (v :: rest))) : W p l e R s m args below meth c H locs cells slots Q (F0 m pc ls (.ref (ad k) :: rest)) :=
  va_get hexec hb hts (fun w h => List.mem_cons_of_mem _ (hin w h)) hown hK hP k (wc_at k hk hm) hc j hj (wx_hw hts hlink) hsame hv hdg kk
theorem wx_getN (hexec : p.tables.exec = Jvm.exec) (hb : c.code = cc) {own ref C host : String} {T : u_T} {N' ci index : Nat} {c0 : Cond} (hts : ∀ w ∈ c0 :: wx_all, w.before args s = true) (hin : ∀ w ∈ u_ws C T N', w ∈ wx_all) (hown : s.vm.findClass own = some m.cls) (hK : va_K D cl tys s) (hP : va_P D cl (wc_W N ad mk σ) H) (k : Nat) {fs : List Value} (hk : k < N) (hm : mk k (σ k) = .inr (ci, fs)) (hc : cl[ci]? = some (C, T, N')) (j : Nat) (hj : j < N') (hlink : va_Nw (.fieldLinkNest own index ref (T j).2.1 (T j).2.2.1 host) s) (hsame : ∀ x, s.fieldFound? (T j).1 (T j).2.1 (T j).2.2.1 = some x → s.fieldFound? ref (T j).2.1 (T j).2.2.1 = some x) {v : Value} (hv : fs[j]? = some v) (hdg : decode cc pc = .ok (.getfield index, 3))
    (kk : W p l e R s m args below meth c H locs cells slots Q (F0 m (pc + 3) ls (v :: rest))) : W p l e R s m args below meth c H locs cells slots Q (F0 m pc ls (.ref (ad k) :: rest)) :=
  va_getN hexec hb hts (fun w h => List.mem_cons_of_mem _ (hin w h)) hown hK hP k (wc_at k hk hm) hc j hj (va_Nw.use rfl hlink) hsame hv hdg kk
theorem wx_put (hexec : p.tables.exec = Jvm.exec) (hb : c.code = cc) {own ref C : String} {T : u_T} {N' ci index : Nat} {c0 : Cond} (hts : ∀ w ∈ c0 :: wx_all, w.before args s = true) (hin : ∀ w ∈ u_ws C T N', w ∈ wx_all) (ty0 : Nat → FieldType) (hty : ∀ k, k < N' → parseFieldDescriptor (T k).2.2.1 = some (ty0 k)) (hnm : ∀ a, a < N' → ∀ b, b < N' → a ≠ b → (T a).2.1 ≠ (T b).2.1) (hown : s.vm.findClass own = some m.cls) (hK : va_K D cl tys s) (hP : va_P D cl (wc_W N ad mk σ) H) (hD : va_D A (wc_W N ad mk σ)) (hS : va_S A H0 H locs) (k : Nat) (hk : k < N) {fs : (Nat → Int32) → List Value} (hm : ∀ f, mk k f = .inr (ci, fs f)) (hc : cl[ci]? = some (C, T, N')) (j : Nat) (hj : j < N') (hlink : Cond.fieldLink own index ref (T j).2.1 (T j).2.2.1 ∈ wx_all) (hsame : ∀ x, s.fieldFound? (T j).1 (T j).2.1 (T j).2.2.1 = some x → s.fieldFound? ref (T j).2.1 (T j).2.2.1 = some x) (hfin : (T j).2.2.2 = false) {ty : FieldType} {x : Int32} (hd : parseFieldDescriptor (T j).2.2.1 = some ty) (hn : narrow ty (.int x) = .int x) (hfit : fits ty (.int x) = true) (hl : j < (fs (σ k)).length) (hset : (fs (σ k)).set j (.int x) = fs (upd (σ k) j x)) (hdg : decode cc pc = .ok (.putfield index, 3))
    (kk : ∀ (σ1 : wc_S) (H1 : Heap) (locs1 : List Loc), σ1 = wc_u σ k j x → va_P D cl (wc_W N ad mk σ1) H1 → va_D A (wc_W N ad mk σ1) → va_S A H0 H1 locs1 → W p l e R s m args below meth c H1 locs1 cells slots Q (F0 m (pc + 3) ls rest)) : W p l e R s m args below meth c H locs cells slots Q (F0 m pc ls (.int x :: .ref (ad k) :: rest)) := by
  refine va_put hexec hb hts (fun w h => List.mem_cons_of_mem _ (hin w h)) ty0 hty hnm hown hK hP hD hS k (wc_at k hk (hm _)) hc j hj (wx_hw hts hlink) hsame hfin hd hn hfit hl hdg (fun H1 locs1 hP1 hD1 hS1 => ?_)
  rw [hset, wc_set (hm _)] at hP1 hD1
  exact kk _ H1 locs1 rfl hP1 hD1 hS1
theorem wx_putN (hexec : p.tables.exec = Jvm.exec) (hb : c.code = cc) {own ref C host : String} {T : u_T} {N' ci index : Nat} {c0 : Cond} (hts : ∀ w ∈ c0 :: wx_all, w.before args s = true) (hin : ∀ w ∈ u_ws C T N', w ∈ wx_all) (ty0 : Nat → FieldType) (hty : ∀ k, k < N' → parseFieldDescriptor (T k).2.2.1 = some (ty0 k)) (hnm : ∀ a, a < N' → ∀ b, b < N' → a ≠ b → (T a).2.1 ≠ (T b).2.1) (hown : s.vm.findClass own = some m.cls) (hK : va_K D cl tys s) (hP : va_P D cl (wc_W N ad mk σ) H) (hD : va_D A (wc_W N ad mk σ)) (hS : va_S A H0 H locs) (k : Nat) (hk : k < N) {fs : (Nat → Int32) → List Value} (hm : ∀ f, mk k f = .inr (ci, fs f)) (hc : cl[ci]? = some (C, T, N')) (j : Nat) (hj : j < N') (hlink : va_Nw (.fieldLinkNest own index ref (T j).2.1 (T j).2.2.1 host) s) (hsame : ∀ x, s.fieldFound? (T j).1 (T j).2.1 (T j).2.2.1 = some x → s.fieldFound? ref (T j).2.1 (T j).2.2.1 = some x) (hfin : (T j).2.2.2 = false) {ty : FieldType} {x : Int32} (hd : parseFieldDescriptor (T j).2.2.1 = some ty) (hn : narrow ty (.int x) = .int x) (hfit : fits ty (.int x) = true) (hl : j < (fs (σ k)).length) (hset : (fs (σ k)).set j (.int x) = fs (upd (σ k) j x)) (hdg : decode cc pc = .ok (.putfield index, 3))
    (kk : ∀ (σ1 : wc_S) (H1 : Heap) (locs1 : List Loc), σ1 = wc_u σ k j x → va_P D cl (wc_W N ad mk σ1) H1 → va_D A (wc_W N ad mk σ1) → va_S A H0 H1 locs1 → W p l e R s m args below meth c H1 locs1 cells slots Q (F0 m (pc + 3) ls rest)) : W p l e R s m args below meth c H locs cells slots Q (F0 m pc ls (.int x :: .ref (ad k) :: rest)) := by
  refine va_putN hexec hb hts (fun w h => List.mem_cons_of_mem _ (hin w h)) ty0 hty hnm hown hK hP hD hS k (wc_at k hk (hm _)) hc j hj (va_Nw.use rfl hlink) hsame hfin hd hn hfit hl hdg (fun H1 locs1 hP1 hD1 hS1 => ?_)
  rw [hset, wc_set (hm _)] at hP1 hD1
  exact kk _ H1 locs1 rfl hP1 hD1 hS1
variable {cI cZ cJ cG : ClassId}
abbrev wx_ty (cI cZ cJ cG : ClassId) : List (ClassId × FieldType) := [(cI, .int), (cZ, .boolean), (cJ, .long), (cG, .array .int)]
theorem wx_iald (hexec : p.tables.exec = Jvm.exec) (hb : c.code = cc) (hK : va_K D cl (wx_ty cI cZ cJ cG) s) (hP : va_P D cl (wc_W N ad mk σ) H) (k : Nat) {n : Nat} (hk : k < N) (hm : mk k (σ k) = .inl (cI, n, .inl (σ k))) {i : Int32} (hin : vp_in i n) (hdg : decode cc pc = .ok (.iaload, 1))
    (kk : W p l e R s m args below meth c H locs cells slots Q (F0 m (pc + 1) ls (.int (σ k i.toNatClampNeg) :: rest))) : W p l e R s m args below meth c H locs cells slots Q (F0 m pc ls (.int i :: .ref (ad k) :: rest)) :=
  va_iald hexec hb hK hP k 0 (wc_at k hk hm) rfl hin hdg kk
theorem wx_zald (hexec : p.tables.exec = Jvm.exec) (hb : c.code = cc) (hK : va_K D cl (wx_ty cI cZ cJ cG) s) (hP : va_P D cl (wc_W N ad mk σ) H) (k : Nat) {n : Nat} (hk : k < N) (hm : mk k (σ k) = .inl (cZ, n, .inl (σ k))) {i : Int32} (hin : vp_in i n) (hdg : decode cc pc = .ok (.baload, 1))
    (kk : W p l e R s m args below meth c H locs cells slots Q (F0 m (pc + 1) ls (.int (σ k i.toNatClampNeg) :: rest))) : W p l e R s m args below meth c H locs cells slots Q (F0 m pc ls (.int i :: .ref (ad k) :: rest)) :=
  va_zald hexec hb hK hP k 1 (wc_at k hk hm) rfl hin hdg kk
theorem wx_iast (hexec : p.tables.exec = Jvm.exec) (hb : c.code = cc) (hK : va_K D cl (wx_ty cI cZ cJ cG) s) (hP : va_P D cl (wc_W N ad mk σ) H) (hD : va_D A (wc_W N ad mk σ)) (hS : va_S A H0 H locs) (k : Nat) {n : Nat} (hk : k < N) (hm : ∀ f, mk k f = .inl (cI, n, .inl f)) {i x : Int32} (hin : wc_in i n = true) (hdg : decode cc pc = .ok (.iastore, 1))
    (kk : ∀ (σ1 : wc_S) (H1 : Heap) (locs1 : List Loc), σ1 = wc_u σ k i.toNatClampNeg x → va_P D cl (wc_W N ad mk σ1) H1 → va_D A (wc_W N ad mk σ1) → va_S A H0 H1 locs1 → W p l e R s m args below meth c H1 locs1 cells slots Q (F0 m (pc + 1) ls rest)) : W p l e R s m args below meth c H locs cells slots Q (F0 m pc ls (.int x :: .int i :: .ref (ad k) :: rest)) := by
  refine va_iast hexec hb hK hP hD hS k 0 (wc_at k hk (hm _)) rfl (wc_in_e hin) hdg (fun H1 locs1 hP1 hD1 hS1 => ?_)
  rw [wc_set (hm _)] at hP1 hD1
  exact kk _ H1 locs1 rfl hP1 hD1 hS1
theorem wx_zast (hexec : p.tables.exec = Jvm.exec) (hb : c.code = cc) (hK : va_K D cl (wx_ty cI cZ cJ cG) s) (hP : va_P D cl (wc_W N ad mk σ) H) (hD : va_D A (wc_W N ad mk σ)) (hS : va_S A H0 H locs) (k : Nat) {n : Nat} (hk : k < N) (hm : ∀ f, mk k f = .inl (cZ, n, .inl f)) {i x : Int32} (hin : wc_in i n = true) (hdg : decode cc pc = .ok (.bastore, 1))
    (kk : ∀ (σ1 : wc_S) (H1 : Heap) (locs1 : List Loc), σ1 = wc_u σ k i.toNatClampNeg (vp_nar .boolean x) → va_P D cl (wc_W N ad mk σ1) H1 → va_D A (wc_W N ad mk σ1) → va_S A H0 H1 locs1 → W p l e R s m args below meth c H1 locs1 cells slots Q (F0 m (pc + 1) ls rest)) : W p l e R s m args below meth c H locs cells slots Q (F0 m pc ls (.int x :: .int i :: .ref (ad k) :: rest)) := by
  refine va_zast hexec hb hK hP hD hS k 1 (wc_at k hk (hm _)) rfl (wc_in_e hin) hdg (fun H1 locs1 hP1 hD1 hS1 => ?_)
  rw [wc_set (hm _)] at hP1 hD1
  exact kk _ H1 locs1 rfl hP1 hD1 hS1
/-- the array of rows: row i lies at bs + i -/
theorem wx_aald (hexec : p.tables.exec = Jvm.exec) (hb : c.code = cc) (hK : va_K D cl (wx_ty cI cZ cJ cG) s) (hP : va_P D cl (wc_W N ad mk σ) H) (k : Nat) {n bs : Nat} (hk : k < N) (hm : mk k (σ k) = .inl (cG, n, .inr (.inr (.inr (.inr (fun i => if i < n then some (ad (bs + i)) else none)))))) {i : Int32} (hin : wc_in i n = true) (hdg : decode cc pc = .ok (.aaload, 1))
    (kk : W p l e R s m args below meth c H locs cells slots Q (F0 m (pc + 1) ls (.ref (ad (bs + i.toNatClampNeg)) :: rest))) : W p l e R s m args below meth c H locs cells slots Q (F0 m pc ls (.int i :: .ref (ad k) :: rest)) := by
  have hlt := wc_in_lt hin
  have hin := wc_in_e hin
  have ht : (wx_ty cI cZ cJ cG)[3]? = some (cG, .array .int) := rfl
  refine W.aald (v := .ref (ad (bs + i.toNatClampNeg))) (ty := .array .int) hexec hb (hP k _ (wc_at k hk hm)) ((hK.2 3 _ ht).1 n (fun j => va_rf (if j < n then some (ad (bs + j)) else none))) rfl (fun q => by cases q) (by show ¬ (i < 0 ∨ (arrV _ _ _).slots.size ≤ _); rw [arrV_size]; exact hin) (by show (arrV _ _ _).slots[_]? = _; rw [arrV_read _ _ hlt]; show some (va_rf (if i.toNatClampNeg < n then some (ad (bs + i.toNatClampNeg)) else none)) = _; rw [if_pos hlt]; rfl) rfl rfl hdg kk
/-- an array's numbers copied to another one, both from 0 on -/
theorem wx_copy (hexec : p.tables.exec = Jvm.exec) (hb : c.code = cc) (hml : c.maxLocals = ls.size) {own : String} {index : Nat} (hown : s.vm.findClass own = some m.cls) (hlink : (Cond.methodLink own index arraycopyName).before args s = true) (hnat : (Cond.native arraycopyName).before args s = true) (hstat : (Cond.static arraycopyName).before args s = true) (hini : (Cond.initialized "java/lang/System").before args s = true)
    (hK : va_K D cl (wx_ty cI cZ cJ cG) s) (hP : va_P D cl (wc_W N ad mk σ) H) (hD : va_D A (wc_W N ad mk σ)) (hS : va_S A H0 H locs) (k0 k1 : Nat) {n : Nat} (hk0 : k0 < N) (hk1 : k1 < N) (hm0 : ∀ f, mk k0 f = .inl (cI, n, .inl f)) (hm1 : ∀ f, mk k1 f = .inl (cI, n, .inl f)) {x : Int32} (hx : wc_le x n = true)
    (hframes : 1 ≤ R.frames) (hlocals : (rest.map fun v => v.category).sum + (nativeFrameWords "java/lang/System" "arraycopy" 5 + 11) ≤ R.locals) (hdg : decode cc pc = .ok (.invokestatic index, 3))
    (kk : ∀ (σ1 : wc_S) (H1 : Heap) (locs1 : List Loc), σ1 = wc_uA σ k1 (va_cpy (σ k0) (σ k1) 0 0 x.toNatClampNeg) → va_P D cl (wc_W N ad mk σ1) H1 → va_D A (wc_W N ad mk σ1) → va_S A H0 H1 locs1 → W p l e R s m args below meth c H1 locs1 cells slots Q (F0 m (pc + 3) ls rest)) : W p l e R s m args below meth c H locs cells slots Q (F0 m pc ls (.int x :: .int 0 :: .ref (ad k1) :: .int 0 :: .ref (ad k0) :: rest)) := by
  obtain ⟨h3, h4⟩ := wc_le_e hx
  have z0 : (0 : Int32).toNatClampNeg = 0 := rfl
  refine va_copyi hexec hb hml hown hlink hnat hstat hini hK hP hD hS k0 k1 0 0 (wc_at k0 hk0 (hm0 _)) (wc_at k1 hk1 (hm1 _)) rfl rfl rfl (by decide) (by decide) h3 (by rw [z0]; omega) (by rw [z0]; omega) (fun _ _ => rfl) hframes hlocals hdg (fun H1 locs1 hP1 hD1 hS1 => ?_)
  rw [z0, wc_set (hm1 _)] at hP1 hD1
  exact kk _ H1 locs1 rfl hP1 hD1 hS1
/-! the words of a call -/
theorem wx_cwV {c0 : Cond} {own : String} {index maxL mc ms : Nat} {y : MethodName} {bytes : ByteArray} {ret : Option FieldType} {rm : Room} (n : Nat) (hts : ∀ w ∈ c0 :: wx_all, w.before args s = true) (hco : Cond.code y bytes maxL ret ∈ wx_all) (hin : Cond.instanceMethod y ∈ wx_all) (hse : Cond.selects y.cls y y ∈ wx_all) (hini : Cond.initialized y.cls ∈ wx_all) (hl : Cond.methodLink own index y ∈ wx_all) (hd : y.cls ≠ "java/lang/invoke/MethodHandle" ∧ y.cls ≠ "java/lang/invoke/VarHandle" ∧ (parseMethodDescriptor y.desc).map (fun d => d.parameters.length) = some n) (hrc : rm.cells = mc) (hrs : rm.slots = ms) (hR : rm.frames + 1 ≤ R.frames ∧ 8 + (maxL + 11) + rm.locals ≤ R.locals) :
    CallW R s args own y.cls index y bytes maxL ret (Cond.code y bytes maxL ret :: wx_all) rm mc ms n :=
  ⟨callB_of n hts (wx_good hco) rfl hrc hrs (wx_hw hts hini) (wx_hw hts hl) hd hR, wx_hw hts hin, wx_hw hts hse⟩
theorem wx_cwS {c0 : Cond} {own : String} {index maxL mc ms : Nat} {y : MethodName} {bytes : ByteArray} {ret : Option FieldType} {rm : Room} (n : Nat) (hts : ∀ w ∈ c0 :: wx_all, w.before args s = true) (hco : Cond.code y bytes maxL ret ∈ wx_all) (hst : Cond.static y ∈ wx_all) (hini : Cond.initialized y.cls ∈ wx_all) (hl : Cond.methodLink own index y ∈ wx_all) (hd : y.cls ≠ "java/lang/invoke/MethodHandle" ∧ y.cls ≠ "java/lang/invoke/VarHandle" ∧ (parseMethodDescriptor y.desc).map (fun d => d.parameters.length) = some n) (hrc : rm.cells = mc) (hrs : rm.slots = ms) (hR : rm.frames + 1 ≤ R.frames ∧ 8 + (maxL + 11) + rm.locals ≤ R.locals) :
    CallB R s args own index y bytes maxL ret (Cond.code y bytes maxL ret :: wx_all) rm mc ms n ∧ (Cond.static y).before args s = true :=
  ⟨callB_of n hts (wx_good hco) rfl hrc hrs (wx_hw hts hini) (wx_hw hts hl) hd hR, wx_hw hts hst⟩
theorem wx_cwN {c0 : Cond} {own host : String} {index maxL mc ms : Nat} {y : MethodName} {bytes : ByteArray} {ret : Option FieldType} {rm : Room} (n : Nat) (hts : ∀ w ∈ c0 :: wx_all, w.before args s = true) (hco : Cond.code y bytes maxL ret ∈ wx_all) (hin : Cond.instanceMethod y ∈ wx_all) (hse : Cond.selects y.cls y y ∈ wx_all) (hini : Cond.initialized y.cls ∈ wx_all) (hl : va_Nw (.methodLinkNest own index y host) s) (hd : y.cls ≠ "java/lang/invoke/MethodHandle" ∧ y.cls ≠ "java/lang/invoke/VarHandle" ∧ (parseMethodDescriptor y.desc).map (fun d => d.parameters.length) = some n) (hrc : rm.cells = mc) (hrs : rm.slots = ms) (hR : rm.frames + 1 ≤ R.frames ∧ 8 + (maxL + 11) + rm.locals ≤ R.locals) :
    va_CN R s args own index y host bytes maxL ret (Cond.code y bytes maxL ret :: wx_all) rm mc ms n ∧ (Cond.instanceMethod y).before args s = true ∧ (Cond.selects y.cls y y).before args s = true :=
  ⟨va_cnB n hts (wx_good hco) rfl hrc hrs hl (wx_hw hts hini) hd hR, wx_hw hts hin, wx_hw hts hse⟩
end WCR
/-! the one world: its cells by their numbers (class 0 .. 70, reference 71 .. 87, the law's out 88) -/
def wx_tab (ad : Nat → Nat) (cI cZ cJ cG : ClassId) (f : Nat → Int32) : List va_E := [.inr (0, [.ref (ad 1), .ref (ad 30), .ref (ad 49), .ref (ad 68), .ref (ad 70), .int (f 5), .int (f 6)]),
  .inr (1, [.ref (ad 2), .ref (ad 3), .ref (ad 4), .ref (ad 5), .ref (ad 6), .ref (ad 7), .ref (ad 8), .ref (ad 18), .ref (ad 22), .ref (ad 26), .int (f 10), .int (f 11), .int (f 12), .int (f 13), .int (f 14)]),
  .inl (cI, 9, .inl f),
  .inl (cI, 9, .inl f),
  .inl (cI, 9, .inl f),
  .inl (cI, 9, .inl f),
  .inl (cI, 9, .inl f),
  .inl (cI, 9, .inl f),
  .inl (cG, 9, .inr (.inr (.inr (.inr (fun i => if i < 9 then some (ad (9 + i)) else none))))),
  .inl (cI, 9, .inl f),
  .inl (cI, 9, .inl f),
  .inl (cI, 9, .inl f),
  .inl (cI, 9, .inl f),
  .inl (cI, 9, .inl f),
  .inl (cI, 9, .inl f),
  .inl (cI, 9, .inl f),
  .inl (cI, 9, .inl f),
  .inl (cI, 9, .inl f),
  .inr (2, [.ref (ad 19), .ref (ad 20), .ref (ad 21), .int (f 3)]),
  .inl (cI, 8, .inl f),
  .inl (cI, 8, .inl f),
  .inl (cI, 8, .inl f),
  .inr (2, [.ref (ad 23), .ref (ad 24), .ref (ad 25), .int (f 3)]),
  .inl (cI, 8, .inl f),
  .inl (cI, 8, .inl f),
  .inl (cI, 8, .inl f),
  .inr (3, [.ref (ad 27), .ref (ad 28), .ref (ad 29), .int (f 3)]),
  .inl (cI, 4, .inl f),
  .inl (cI, 4, .inl f),
  .inl (cI, 4, .inl f),
  .inr (4, [.ref (ad 1), .ref (ad 31), .ref (ad 32), .ref (ad 33), .ref (ad 34), .ref (ad 35), .ref (ad 36), .ref (ad 37), .ref (ad 38), .int (f 9)]),
  .inl (cI, 9, .inl f),
  .inl (cZ, 9, .inl f),
  .inl (cZ, 9, .inl f),
  .inl (cI, 10, .inl f),
  .inl (cI, 10, .inl f),
  .inl (cI, 10, .inl f),
  .inl (cI, 10, .inl f),
  .inl (cG, 10, .inr (.inr (.inr (.inr (fun i => if i < 10 then some (ad (39 + i)) else none))))),
  .inl (cI, 4, .inl f),
  .inl (cI, 4, .inl f),
  .inl (cI, 4, .inl f),
  .inl (cI, 4, .inl f),
  .inl (cI, 4, .inl f),
  .inl (cI, 4, .inl f),
  .inl (cI, 4, .inl f),
  .inl (cI, 4, .inl f),
  .inl (cI, 4, .inl f),
  .inl (cI, 4, .inl f),
  .inr (4, [.ref (ad 1), .ref (ad 50), .ref (ad 51), .ref (ad 52), .ref (ad 53), .ref (ad 54), .ref (ad 55), .ref (ad 56), .ref (ad 57), .int (f 9)]),
  .inl (cI, 9, .inl f),
  .inl (cZ, 9, .inl f),
  .inl (cZ, 9, .inl f),
  .inl (cI, 10, .inl f),
  .inl (cI, 10, .inl f),
  .inl (cI, 10, .inl f),
  .inl (cI, 10, .inl f),
  .inl (cG, 10, .inr (.inr (.inr (.inr (fun i => if i < 10 then some (ad (58 + i)) else none))))),
  .inl (cI, 4, .inl f),
  .inl (cI, 4, .inl f),
  .inl (cI, 4, .inl f),
  .inl (cI, 4, .inl f),
  .inl (cI, 4, .inl f),
  .inl (cI, 4, .inl f),
  .inl (cI, 4, .inl f),
  .inl (cI, 4, .inl f),
  .inl (cI, 4, .inl f),
  .inl (cI, 4, .inl f),
  .inr (5, [.ref (ad 1), .ref (ad 30), .ref (ad 69), .int (f 3), .int (f 4), .int (f 5), .int (f 6)]),
  .inl (cI, 9, .inl f),
  .inl (cI, 9, .inl f),
  .inr (6, [.int (f 0), .int (f 1), .ref (ad 72), .ref (ad 73), .ref (ad 74), .ref (ad 75), .ref (ad 76), .ref (ad 77), .ref (ad 78), .ref (ad 79), .ref (ad 80), .ref (ad 81), .int (f 12), .ref (ad 82), .ref (ad 83), .ref (ad 84), .int (f 16), .int (f 17), .int (f 18), .int (f 19), .int (f 20), .int (f 21), .int (f 22), .ref (ad 85), .ref (ad 86), .int (f 25), .int (f 26), .int (f 27), .ref (ad 87)]),
  .inl (cI, 9, .inl f),
  .inl (cI, 9, .inl f),
  .inl (cI, 9, .inl f),
  .inl (cI, 9, .inl f),
  .inl (cI, 9, .inl f),
  .inl (cI, 9, .inl f),
  .inl (cI, 2, .inl f),
  .inl (cI, 16, .inl f),
  .inl (cI, 16, .inl f),
  .inl (cI, 16, .inl f),
  .inl (cI, 4, .inl f),
  .inl (cI, 4, .inl f),
  .inl (cI, 4, .inl f),
  .inl (cI, 9, .inl f),
  .inl (cI, 9, .inl f),
  .inl (cZ, 9, .inl f),
  .inl (cJ, 1, .inr (.inl (fun i => (f i).toInt64)))]
def wx_mk (ad : Nat → Nat) (cI cZ cJ cG : ClassId) (k : Nat) (f : Nat → Int32) : va_E := (wx_tab ad cI cZ cJ cG f).getD k (.inl (cI, 0, .inl f))
section WXM
variable {ad : Nat → Nat} {cI cZ cJ cG : ClassId} {b k : Nat} {i : Int32}
theorem wx_L0 (h : b = 30 ∨ b = 49) (f : Nat → Int32) : wx_mk ad cI cZ cJ cG b f = .inr (4, [.ref (ad 1), .ref (ad (b + 1)), .ref (ad (b + 2)), .ref (ad (b + 3)), .ref (ad (b + 4)), .ref (ad (b + 5)), .ref (ad (b + 6)), .ref (ad (b + 7)), .ref (ad (b + 8)), .int (f 9)]) := by
  rcases h with rfl | rfl <;> rfl
theorem wx_Ll0 (h : b = 30 ∨ b = 49) : b < 89 := by omega
theorem wx_L1 (h : b = 30 ∨ b = 49) (f : Nat → Int32) : wx_mk ad cI cZ cJ cG (b + 1) f = .inl (cI, 9, .inl f) := by
  rcases h with rfl | rfl <;> rfl
theorem wx_Ll1 (h : b = 30 ∨ b = 49) : b + 1 < 89 := by omega
theorem wx_L2 (h : b = 30 ∨ b = 49) (f : Nat → Int32) : wx_mk ad cI cZ cJ cG (b + 2) f = .inl (cZ, 9, .inl f) := by
  rcases h with rfl | rfl <;> rfl
theorem wx_Ll2 (h : b = 30 ∨ b = 49) : b + 2 < 89 := by omega
theorem wx_L3 (h : b = 30 ∨ b = 49) (f : Nat → Int32) : wx_mk ad cI cZ cJ cG (b + 3) f = .inl (cZ, 9, .inl f) := by
  rcases h with rfl | rfl <;> rfl
theorem wx_Ll3 (h : b = 30 ∨ b = 49) : b + 3 < 89 := by omega
theorem wx_L4 (h : b = 30 ∨ b = 49) (f : Nat → Int32) : wx_mk ad cI cZ cJ cG (b + 4) f = .inl (cI, 10, .inl f) := by
  rcases h with rfl | rfl <;> rfl
theorem wx_Ll4 (h : b = 30 ∨ b = 49) : b + 4 < 89 := by omega
theorem wx_L5 (h : b = 30 ∨ b = 49) (f : Nat → Int32) : wx_mk ad cI cZ cJ cG (b + 5) f = .inl (cI, 10, .inl f) := by
  rcases h with rfl | rfl <;> rfl
theorem wx_Ll5 (h : b = 30 ∨ b = 49) : b + 5 < 89 := by omega
theorem wx_L6 (h : b = 30 ∨ b = 49) (f : Nat → Int32) : wx_mk ad cI cZ cJ cG (b + 6) f = .inl (cI, 10, .inl f) := by
  rcases h with rfl | rfl <;> rfl
theorem wx_Ll6 (h : b = 30 ∨ b = 49) : b + 6 < 89 := by omega
theorem wx_L7 (h : b = 30 ∨ b = 49) (f : Nat → Int32) : wx_mk ad cI cZ cJ cG (b + 7) f = .inl (cI, 10, .inl f) := by
  rcases h with rfl | rfl <;> rfl
theorem wx_Ll7 (h : b = 30 ∨ b = 49) : b + 7 < 89 := by omega
theorem wx_L8 (h : b = 30 ∨ b = 49) (f : Nat → Int32) : wx_mk ad cI cZ cJ cG (b + 8) f = .inl (cG, 10, .inr (.inr (.inr (.inr (fun i => if i < 10 then some (ad ((b + 9) + i)) else none))))) := by
  rcases h with rfl | rfl <;> rfl
theorem wx_Ll8 (h : b = 30 ∨ b = 49) : b + 8 < 89 := by omega
theorem wx_J0 (h : b = 18 ∨ b = 22) (f : Nat → Int32) : wx_mk ad cI cZ cJ cG b f = .inr (2, [.ref (ad (b + 1)), .ref (ad (b + 2)), .ref (ad (b + 3)), .int (f 3)]) := by
  rcases h with rfl | rfl <;> rfl
theorem wx_Jl0 (h : b = 18 ∨ b = 22) : b < 89 := by omega
theorem wx_J1 (h : b = 18 ∨ b = 22) (f : Nat → Int32) : wx_mk ad cI cZ cJ cG (b + 1) f = .inl (cI, 8, .inl f) := by
  rcases h with rfl | rfl <;> rfl
theorem wx_Jl1 (h : b = 18 ∨ b = 22) : b + 1 < 89 := by omega
theorem wx_J2 (h : b = 18 ∨ b = 22) (f : Nat → Int32) : wx_mk ad cI cZ cJ cG (b + 2) f = .inl (cI, 8, .inl f) := by
  rcases h with rfl | rfl <;> rfl
theorem wx_Jl2 (h : b = 18 ∨ b = 22) : b + 2 < 89 := by omega
theorem wx_J3 (h : b = 18 ∨ b = 22) (f : Nat → Int32) : wx_mk ad cI cZ cJ cG (b + 3) f = .inl (cI, 8, .inl f) := by
  rcases h with rfl | rfl <;> rfl
theorem wx_Jl3 (h : b = 18 ∨ b = 22) : b + 3 < 89 := by omega
theorem wx_A (h : k = 69 ∨ k = 70) (f : Nat → Int32) : wx_mk ad cI cZ cJ cG k f = .inl (cI, 9, .inl f) := by
  rcases h with rfl | rfl <;> rfl
theorem wx_Al (h : k = 69 ∨ k = 70) : k < 89 := by omega
theorem wx_M (h : k = 85 ∨ k = 86) (f : Nat → Int32) : wx_mk ad cI cZ cJ cG k f = .inl (cI, 9, .inl f) := by
  rcases h with rfl | rfl <;> rfl
theorem wx_Ml (h : k = 85 ∨ k = 86) : k < 89 := by omega
theorem wx_g8 (h : wc_in i 9 = true) (f : Nat → Int32) : wx_mk ad cI cZ cJ cG (9 + i.toNatClampNeg) f = .inl (cI, 9, .inl f) := by
  have h1 := wc_in_lt h
  generalize i.toNatClampNeg = j at h1 ⊢
  rcases (show j = 0 ∨ j = 1 ∨ j = 2 ∨ j = 3 ∨ j = 4 ∨ j = 5 ∨ j = 6 ∨ j = 7 ∨ j = 8 by omega) with rfl | rfl | rfl | rfl | rfl | rfl | rfl | rfl | rfl <;> rfl
theorem wx_g8l (h : wc_in i 9 = true) : 9 + i.toNatClampNeg < 89 := by have h1 := wc_in_lt h; omega
theorem wx_gL (hb : b = 30 ∨ b = 49) (h : wc_in i 10 = true) (f : Nat → Int32) : wx_mk ad cI cZ cJ cG (b + 9 + i.toNatClampNeg) f = .inl (cI, 4, .inl f) := by
  have h1 := wc_in_lt h
  generalize i.toNatClampNeg = j at h1 ⊢
  rcases hb with rfl | rfl <;> rcases (show j = 0 ∨ j = 1 ∨ j = 2 ∨ j = 3 ∨ j = 4 ∨ j = 5 ∨ j = 6 ∨ j = 7 ∨ j = 8 ∨ j = 9 by omega) with rfl | rfl | rfl | rfl | rfl | rfl | rfl | rfl | rfl | rfl <;> rfl
theorem wx_gLl (hb : b = 30 ∨ b = 49) (h : wc_in i 10 = true) : b + 9 + i.toNatClampNeg < 89 := by have h1 := wc_in_lt h; omega
end WXM
section WXO
variable {p : Program} {l : Launch} {e : Env} {R : Room} {s : State} {m : MethodId} {args : Array Value} {below : List Frame} {meth : Method} {c : Code} {H : Heap} {locs : List Loc} {cells slots : Nat} {Q : State → Prop}
variable {cc : ByteArray} {pc : Nat} {ls : Array Slot} {rest : List Value} {D : va_G} {cl : List vw_C} {A : Nat → Prop} {H0 : Heap} {ad : Nat → Nat} {σ : wc_S} {cI cZ cJ cG : ClassId}
theorem wx_lald (hexec : p.tables.exec = Jvm.exec) (hb : c.code = cc) (hK : va_K D cl (wx_ty cI cZ cJ cG) s) (hP : va_P D cl (wc_W 89 ad (wx_mk ad cI cZ cJ cG) σ) H) (k : Nat) {i : Int32} (hin : vp_in i 1) (hdg : decode cc pc = .ok (.laload, 1)) (hk : k = 88)
    (kk : W p l e R s m args below meth c H locs cells slots Q (F0 m (pc + 1) ls (.long (σ k i.toNatClampNeg).toInt64 :: rest))) : W p l e R s m args below meth c H locs cells slots Q (F0 m pc ls (.int i :: .ref (ad k) :: rest)) := by
  subst hk
  exact va_lald (f := fun j => (σ 88 j).toInt64) hexec hb hK hP 88 2 (wc_at 88 (by decide) rfl) rfl hin hdg kk
theorem wx_last (hexec : p.tables.exec = Jvm.exec) (hb : c.code = cc) (hK : va_K D cl (wx_ty cI cZ cJ cG) s) (hP : va_P D cl (wc_W 89 ad (wx_mk ad cI cZ cJ cG) σ) H) (hD : va_D A (wc_W 89 ad (wx_mk ad cI cZ cJ cG) σ)) (hS : va_S A H0 H locs) {i x : Int32} {y : Int64} (hin : wc_in i 1 = true) (hy : x.toInt64 = y) (hdg : decode cc pc = .ok (.lastore, 1))
    (kk : ∀ (σ1 : wc_S) (H1 : Heap) (locs1 : List Loc), σ1 = wc_u σ 88 i.toNatClampNeg x → va_P D cl (wc_W 89 ad (wx_mk ad cI cZ cJ cG) σ1) H1 → va_D A (wc_W 89 ad (wx_mk ad cI cZ cJ cG) σ1) → va_S A H0 H1 locs1 → W p l e R s m args below meth c H1 locs1 cells slots Q (F0 m (pc + 1) ls rest)) : W p l e R s m args below meth c H locs cells slots Q (F0 m pc ls (.long y :: .int i :: .ref (ad 88) :: rest)) := by
  subst hy
  refine va_last (f := fun j => (σ 88 j).toInt64) hexec hb hK hP hD hS 88 2 (wc_at 88 (by decide) rfl) rfl (wc_in_e hin) hdg (fun H1 locs1 hP1 hD1 hS1 => ?_)
  have e1 : wx_mk ad cI cZ cJ cG 88 (upd (σ 88) i.toNatClampNeg x) = .inl (cJ, 1, .inr (.inl (vp_updL (fun j => (σ 88 j).toInt64) i.toNatClampNeg x.toInt64))) := by
    have e2 : (fun j => (upd (σ 88) i.toNatClampNeg x j).toInt64) = vp_updL (fun j => (σ 88 j).toInt64) i.toNatClampNeg x.toInt64 := by
      funext j
      by_cases h : j = i.toNatClampNeg <;> simp [upd, vp_updL, h]
    show Sum.inl (cJ, 1, Sum.inr (Sum.inl (fun j => (upd (σ 88) i.toNatClampNeg x j).toInt64))) = _
    rw [e2]
  rw [wc_set e1] at hP1 hD1
  exact kk _ H1 locs1 rfl hP1 hD1 hS1
end WXO
/-! what every method of this proof starts from, and what it leaves -/
abbrev wx_W (ad : Nat → Nat) (cI cZ cJ cG : ClassId) (σ : wc_S) : va_W := wc_W 89 ad (wx_mk ad cI cZ cJ cG) σ
/-- what the tables say besides the good words, the texts, which class is none of another -/
def wx_facts (T : State) : Prop := (∀ w ∈ wx_bad, ∀ a : Array Value, w.before a T = true) ∧ (∀ q ∈ wx_strs, ∃ sa, vk_R "WidthCampaigns" q.1 q.2 sa T) ∧ (∀ q ∈ wx_nots, va_Nc q.1 q.2 T)
/-- .. and it stays so wherever the machine comes that changes nothing outside A -/
def wx_C (A : Nat → Prop) (U : State) (H : Heap) : Prop := ∀ T : State, U.WarmedH T.vm → H.size ≤ T.heap.size → (∀ q : Nat, q < H.size → ¬ A q → T.heap[q]? = H[q]?) → wx_facts T
theorem wx_C.go {A B : Nat → Prop} {s U : State} {H : Heap} {locs : List Loc} (hW : s.WarmedH U.vm) (hS : va_S A s.heap H locs) (hAB : ∀ q, B q → A q) (h : wx_C A s s.heap) : wx_C B U H := fun T h1 h2 h3 =>
  h T (State.WarmedH.trans hW h1) (Nat.le_trans hS.1 h2) (fun q hq hn => (h3 q (Nat.lt_of_lt_of_le hq hS.1) (fun hb => hn (hAB q hb))).trans (hS.2.1 q hq hn))
theorem wx_C.now {A : Nat → Prop} {s : State} (h : wx_C A s s.heap) : wx_facts s := h s (State.WarmedH.refl s) (Nat.le_refl _) (fun _ _ _ => rfl)
def wx_pre (D : va_G) (ad : Nat → Nat) (cI cZ cJ cG : ClassId) (σ : wc_S) (sz : Nat) : State → Prop := fun U =>
  U.heap.size = sz ∧ va_P D wx_cl (wx_W ad cI cZ cJ cG σ) U.heap ∧ va_K D wx_cl (wx_ty cI cZ cJ cG) U ∧ va_D (fun _ => True) (wx_W ad cI cZ cJ cG σ) ∧ wx_C (va_A (wx_W ad cI cZ cJ cG σ) sz) U U.heap
def wx_B (D : va_G) (ad : Nat → Nat) (cI cZ cJ cG : ClassId) : wc_S → State → Prop := fun u t => va_P D wx_cl (wx_W ad cI cZ cJ cG u) t.heap
def wx_E : Nat → String
  | 0 => "java/lang/IndexOutOfBoundsException"
  | 1 => "java/lang/IllegalStateException"
  | 2 => "java/lang/IllegalArgumentException"
  | _ => "java/lang/UnsupportedOperationException"
/-- ends: a number, nothing, thrown -/
abbrev wx_Qi (D : va_G) (ad : Nat → Nat) (cI cZ cJ cG : ClassId) (res : Int32 × wc_S) (A : Nat → Prop) := va_Qi (fun x u => (x, u) = res) (wx_B D ad cI cZ cJ cG) A
abbrev wx_Qv (D : va_G) (ad : Nat → Nat) (cI cZ cJ cG : ClassId) (res : wc_S) (A : Nat → Prop) := va_Qv (fun u => u = res) (wx_B D ad cI cZ cJ cG) A
section WXR
variable {p : Program} {l : Launch} {e : Env} {R : Room} {s : State} {m : MethodId} {args : Array Value} {below : List Frame} {meth : Method} {c : Code} {H : Heap} {locs : List Loc} {cells slots : Nat} {Q : State → Prop}
variable {cc : ByteArray} {pc : Nat} {ls : Array Slot} {rest st0 : List Value} {D : va_G} {ad : Nat → Nat} {cI cZ cJ cG : ClassId} {σ τ : wc_S} {A : Nat → Prop} {H0 : Heap} {mc ms : Nat}
theorem wx_blind {av : List Value} {sz : Nat} : FrameBlind (va_Pc av (wx_pre D ad cI cZ cJ cG σ sz)) := fun a U g mk' q => by
  obtain ⟨q0, q1, qP, qK, qD, qC⟩ := q
  exact ⟨q0, q1, qP, va_K.moved (u := U) (U := U.calling g mk' a) (Vm.Alike.refl U.vm) qK, qD, qC⟩
theorem wx_fr (hD : va_D A (wx_W ad cI cZ cJ cG σ)) (hS : va_S A H0 H locs) (hA : ∀ q, H0.size ≤ q → A q) : ∀ q, va_A (wx_W ad cI cZ cJ cG σ) H.size q → A q := by
  intro q h
  rcases h with ⟨k, e, h⟩ | h
  · exact hD.2 k _ h
  · exact hA q (Nat.le_trans hS.1 h)
theorem wx_go (hK : va_K D wx_cl (wx_ty cI cZ cJ cG) s) (hP : va_P D wx_cl (wx_W ad cI cZ cJ cG σ) H) (hD : va_D A (wx_W ad cI cZ cJ cG σ)) (hS : va_S A s.heap H locs) (hA : ∀ q, s.heap.size ≤ q → A q) (hC : wx_C A s s.heap) (av : List Value) : ∀ U : State, U.heap = H → s.WarmedH U.vm → va_Pc av (wx_pre D ad cI cZ cJ cG σ H.size) av.toArray U := fun U hU hW =>
  ⟨rfl, by rw [hU], by rw [hU]; exact hP, va_K.moved hW.alike hK, hD.weaken (fun _ _ _ _ => trivial), by rw [hU]; exact wx_C.go hW hS (wx_fr hD hS hA) hC⟩
theorem wx_preV {C : String} {T : u_T} {N' ci k : Nat} {fs : List Value} {As : List Value} (hK : va_K D wx_cl (wx_ty cI cZ cJ cG) s) (hP : va_P D wx_cl (wx_W ad cI cZ cJ cG σ) H) (hD : va_D A (wx_W ad cI cZ cJ cG σ)) (hS : va_S A s.heap H locs) (hA : ∀ q, s.heap.size ≤ q → A q) (hC : wx_C A s s.heap) (hk : k < 89) (hm : wx_mk ad cI cZ cJ cG k (σ k) = .inr (ci, fs)) (hc : wx_cl[ci]? = some (C, T, N')) : PreV s H C (ad k) (va_Pc (.ref (ad k) :: As) (wx_pre D ad cI cZ cJ cG σ H.size)) As :=
  ⟨wx_blind, va_recv hK hP hc (wc_at k hk hm), wx_go hK hP hD hS hA hC _⟩
theorem wx_preS {As : List Value} (hK : va_K D wx_cl (wx_ty cI cZ cJ cG) s) (hP : va_P D wx_cl (wx_W ad cI cZ cJ cG σ) H) (hD : va_D A (wx_W ad cI cZ cJ cG σ)) (hS : va_S A s.heap H locs) (hA : ∀ q, s.heap.size ≤ q → A q) (hC : wx_C A s s.heap) : PreS s H (va_Pc As (wx_pre D ad cI cZ cJ cG σ H.size)) As :=
  ⟨wx_blind, wx_go hK hP hD hS hA hC _⟩
theorem wx_calli {r : Int32} {a : Array Value} (hr : va_Run p l e R s m args below meth c H locs cells slots 0 0 (F0 m pc ls st0) rest (wx_Qi D ad cI cZ cJ cG (r, τ) (va_A (wx_W ad cI cZ cJ cG σ) H.size) a) (va_A (wx_W ad cI cZ cJ cG σ) H.size)) (hD : va_D A (wx_W ad cI cZ cJ cG σ)) (hS : va_S A H0 H locs) (hA : ∀ q, H0.size ≤ q → A q)
    (kk : ∀ (H1 : Heap) (locs1 : List Loc), va_P D wx_cl (wx_W ad cI cZ cJ cG τ) H1 → va_D A (wx_W ad cI cZ cJ cG τ) → va_S A H0 H1 locs1 → W p l e R s m args below meth c H1 locs1 cells slots Q (F0 m (pc + 3) ls (.int r :: rest))) : W p l e R s m args below meth c H locs cells slots Q (F0 m pc ls st0) := by
  refine va_calli hr hS (fun q _ h => wx_fr hD hS hA q h) (wx_fr hD hS hA) (fun r' u t H1 locs1 ht hvm hw hB hz hk hS1 => ?_)
  cases hw
  exact kk H1 locs1 (by rw [← ht]; exact hB) (wc_D hD) hS1
theorem wx_callv {a : Array Value} (hr : va_Run p l e R s m args below meth c H locs cells slots 0 0 (F0 m pc ls st0) rest (wx_Qv D ad cI cZ cJ cG τ (va_A (wx_W ad cI cZ cJ cG σ) H.size) a) (va_A (wx_W ad cI cZ cJ cG σ) H.size)) (hD : va_D A (wx_W ad cI cZ cJ cG σ)) (hS : va_S A H0 H locs) (hA : ∀ q, H0.size ≤ q → A q)
    (kk : ∀ (H1 : Heap) (locs1 : List Loc), va_P D wx_cl (wx_W ad cI cZ cJ cG τ) H1 → va_D A (wx_W ad cI cZ cJ cG τ) → va_S A H0 H1 locs1 → W p l e R s m args below meth c H1 locs1 cells slots Q (F0 m (pc + 3) ls rest)) : W p l e R s m args below meth c H locs cells slots Q (F0 m pc ls st0) := by
  refine va_callv hr hS (fun q _ h => wx_fr hD hS hA q h) (wx_fr hD hS hA) (fun u t H1 locs1 ht hvm hw hB hz hk hS1 => ?_)
  cases hw
  exact kk H1 locs1 (by rw [← ht]; exact hB) (wc_D hD) hS1
/-! ends of a method -/
theorem wx_iret {v : Int32} {res : Int32 × wc_S} (hx : p.tables.exec = Jvm.exec) (hb : c.code = cc) (hr : meth.sig.returnType = some .int) (hlocks : meth.locks = false) (hf : some (v, σ) = some res) (hP : va_P D wx_cl (wx_W ad cI cZ cJ cG σ) H) (hS : va_S A s.heap H locs) (hdg : decode cc pc = .ok (.ireturn, 1)) : W p l e R s m args below meth c H locs cells slots (MQ below (wx_Qi D ad cI cZ cJ cG res A) args s cells slots A) (F0 m pc ls [.int v]) :=
  W.iret (v := v) hx hb hr (fun t ht hW => ⟨⟨v, σ, rfl, Option.some.inj hf, by unfold wx_B; rw [ht]; exact hP⟩, hS.F ht⟩) hS.2.2 hdg
theorem wx_zret {v : Int32} {res : Int32 × wc_S} (hx : p.tables.exec = Jvm.exec) (hb : c.code = cc) (hr : meth.sig.returnType = some .boolean) (hn : narrow .boolean (.int v) = .int v) (hlocks : meth.locks = false) (hf : some (v, σ) = some res) (hP : va_P D wx_cl (wx_W ad cI cZ cJ cG σ) H) (hS : va_S A s.heap H locs) (hdg : decode cc pc = .ok (.ireturn, 1)) : W p l e R s m args below meth c H locs cells slots (MQ below (wx_Qi D ad cI cZ cJ cG res A) args s cells slots A) (F0 m pc ls [.int v]) :=
  W.zret (v := v) hx hb hr hn (fun t ht hW => ⟨⟨v, σ, rfl, Option.some.inj hf, by unfold wx_B; rw [ht]; exact hP⟩, hS.F ht⟩) hS.2.2 hdg
theorem wx_vret {res : wc_S} (hx : p.tables.exec = Jvm.exec) (hb : c.code = cc) (hr : meth.sig.returnType = none) (hlocks : meth.locks = false) (hf : some σ = some res) (hP : va_P D wx_cl (wx_W ad cI cZ cJ cG σ) H) (hS : va_S A s.heap H locs) (hdg : decode cc pc = .ok (.return_, 1)) : W p l e R s m args below meth c H locs cells slots (MQ below (wx_Qv D ad cI cZ cJ cG res A) args s cells slots A) (F0 m pc ls []) :=
  W.vret hx hb hr (fun t ht hW => ⟨⟨σ, rfl, Option.some.inj hf, by unfold wx_B; rw [ht]; exact hP⟩, hS.F ht⟩) hS.2.2 hdg
/-- to come to a place of the method with these locals, this stack and this state -/
abbrev wx_Arr (p : Program) (l : Launch) (e : Env) (R : Room) (s : State) (m : MethodId) (args : Array Value) (below : List Frame) (meth : Method) (c : Code) (D : va_G) (ad : Nat → Nat) (cI cZ cJ cG : ClassId) (A : Nat → Prop) (Q : State → Prop) (nL cells slots : Nat) (pc : Nat) (lv : List (Nat × Value)) (st : List Value) (σ : wc_S) : Prop :=
  ∀ (H : Heap) (locs : List Loc) (ls : Array Slot), va_P D wx_cl (wx_W ad cI cZ cJ cG σ) H → va_D A (wx_W ad cI cZ cJ cG σ) → va_S A s.heap H locs → lv_has ls nL lv → W p l e R s m args below meth c H locs cells slots Q (F0 m pc ls st)
/-- what a body has at its entry -/
abbrev wx_In (p : Program) (s : State) (m : MethodId) (args : Array Value) (meth : Method) (c : Code) (D : va_G) (ad : Nat → Nat) (cI cZ cJ cG : ClassId) (A : Nat → Prop) (σ : wc_S) (cc : ByteArray) (maxL : Nat) (ret : Option FieldType) (ws : List Cond) (own : String) : Prop :=
  p.tables.exec = Jvm.exec ∧ c.code = cc ∧ meth.sig.returnType = ret ∧ (∀ w ∈ ws, w.before args s = true) ∧ s.vm.findClass own = some m.cls ∧ meth.locks = false ∧ c.maxLocals = maxL ∧ (∀ q, s.heap.size ≤ q → A q) ∧ va_P D wx_cl (wx_W ad cI cZ cJ cG σ) s.heap ∧ va_K D wx_cl (wx_ty cI cZ cJ cG) s ∧ va_D A (wx_W ad cI cZ cJ cG σ) ∧ wx_C A s s.heap ∧ wx_facts s ∧ va_S A s.heap s.heap []
theorem wx_ofW {y : MethodName} {ws ws' : List Cond} {rm : Room} {maxL : Nat} {ret : Option FieldType} {mc ms sz : Nat} {Qc : (Nat → Prop) → Array Value → State → Outcome → State → Prop} (av : List Value) (hy : plainName y.cls = true) (hw : ws = Cond.code y cc maxL ret :: ws') (hle : (lg_sl av).length ≤ maxL)
    (body : ∀ (p : Program) (e : Env) (s : State) (m : MethodId) (args : Array Value) (below : List Frame) (meth : Method) (c : Code) (A : Nat → Prop) (ls : Array Slot), wx_In p s m args meth c D ad cI cZ cJ cG A σ cc maxL ret ws y.cls → lv_has ls maxL (lv_args 0 av) →
      W p l e rm s m args below meth c s.heap [] 0 0 (MQ below (Qc A) args s mc ms A) (F0 m 0 ls [])) :
    Met l y ws rm (va_Pc av (wx_pre D ad cI cZ cJ cG σ sz)) (Qc (va_A (wx_W ad cI cZ cJ cG σ) sz)) mc ms (va_A (wx_W ad cI cZ cJ cG σ) sz) := by
  refine Met.ofW (cc := cc) (maxL := maxL) (ret := ret) hy hw ?_
  intro p e s m args below meth c s₁ B hml hv
  obtain ⟨rfl, hsz, hP, hK, hD0, hC⟩ := hv
  subst hsz
  have hl := lv_entry av (n := maxL) hle
  rw [lg_entry_eq]
  exact body p e s m _ below meth c _ _ ⟨B.exec, B.bytes, B.returns, atoms_spec (ws := ws) B.pre, findClass_of_methodNamed B.named, B.notSynchronized, hml, fun q h => Or.inr h, hP, hK, hD0.self, hC, hC.now, va_S.rf⟩ hl
end WXR
