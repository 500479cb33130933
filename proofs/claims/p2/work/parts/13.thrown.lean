/-! methods that may throw: contract, call, throw, catch -/
section WZ
/-- how such a method ends: as Qr says, or q is thrown, of the class E, and Qx holds -/
def wz_Q (Qr : Array Value → State → Outcome → State → Prop) (Qx : String → State → State → Prop) (mc ms : Nat) (fr : Addr → Prop) (a : Array Value) (st : State) (o : Outcome) (t : State) : Prop :=
  (Qr a st o t ∧ ∃ L, FrameEnd st o t L mc ms ∧ ∀ q ∈ L, fr q.base) ∨
  ∃ (q : Addr) (E : String) (ce : Cell) (L : List Loc), o = .threw q ∧ Qx E st t ∧ (t.heap[q]? = some ce ∧ ce.vm = .none ∧ st.vm.findClass E = some ce.cls) ∧ st.WarmedH t.vm ∧ st.sameButNew ({ t with vm := st.vm } : State) L mc ms ∧ ∀ z ∈ L, fr z.base
def wz_Met (l : Launch) (y : MethodName) (ws : List Cond) (rm : Room) (Pc : Array Value → State → Prop) (Qr : Array Value → State → Outcome → State → Prop) (Qx : String → State → State → Prop) (mc ms : Nat) (fr : Addr → Prop) : Prop :=
  MetFree l y (headSpec ws rm) Pc (fun _ _ _ _ _ => True) (wz_Q Qr Qx mc ms fr)
def wz_MQ (below : List Frame) (Qr : Array Value → State → Outcome → State → Prop) (Qx : String → State → State → Prop) (a : Array Value) (s : State) (mc ms : Nat) (fr : Addr → Prop) : State → Prop := fun t =>
  ∃ o, t.status = .running ∧ Ended t below o ∧ wz_Q Qr Qx mc ms fr a s o t
variable {p : Program} {l : Launch} {e : Env} {R : Room} {s : State} {m : MethodId} {args : Array Value} {below : List Frame} {meth : Method} {c : Code} {H : Heap} {locs : List Loc} {cells slots : Nat} {Q : State → Prop}
variable {cc : ByteArray} {pc : Nat} {ls : Array Slot} {rest st0 : List Value} {mc ms : Nat} {Qr : Array Value → State → Outcome → State → Prop} {Qx : String → State → State → Prop} {fr : Addr → Prop}
/-- the frame g, with q thrown over it -/
def wz_W (p : Program) (l : Launch) (e : Env) (R : Room) (s : State) (m : MethodId) (args : Array Value) (below : List Frame) (meth : Method) (c : Code) (H : Heap) (locs : List Loc) (cells slots : Nat) (Q : State → Prop) (g : JFrame) (q : Addr) : Prop :=
  ∀ T : State, T.heap = H → Stand p l e R s m args below meth c T locs cells slots → ∃ t, Steps p.tables e below ((T.setTop g).pushFrame (.throwing q)) t ∧ Q t
theorem wz_ret {g : JFrame} (k : W p l e R s m args below meth c H locs cells slots (MQ below Qr args s mc ms fr) g) : W p l e R s m args below meth c H locs cells slots (wz_MQ below Qr Qx args s mc ms fr) g := by
  intro T hT X
  obtain ⟨t, a1, o, b1, b2, b3, b4⟩ := k T hT X
  exact ⟨t, a1, o, b1, b2, Or.inl ⟨b3, b4⟩⟩
theorem wz_ofW {y : MethodName} {ws ws' : List Cond} {rm : Room} {Pc : Array Value → State → Prop} {maxL : Nat} {ret : Option FieldType} (hy : plainName y.cls = true) (hw : ws = Cond.code y cc maxL ret :: ws')
    (body : ∀ p e s m args below meth c s₁, BodyLoose p l y (headSpec ws rm) cc maxL ret e s m args below meth c s₁ → c.maxLocals = maxL → (∀ x ∈ c.exceptionTable.toList, False) → Pc args s →
      W p l e (headSpec ws rm).room s m args below meth c s.heap [] 0 0 (wz_MQ below Qr Qx args s mc ms fr) (entryFrame m args maxL)) : wz_Met l y ws rm Pc Qr Qx mc ms fr := by
  have hmem : Cond.code y cc maxL ret ∈ ws := by rw [hw]; exact List.mem_cons_self
  refine MetFree.of_bodyS (code := cc) (maxLocals := maxL) (ret := ret) hy (fun args s m h hn => ?_) (fun p e s m args below meth c s₁ B hml hP _ => ?_)
  · obtain ⟨meth, c, h1, h2, h3, h4, h5, h6, -, -⟩ := Cond.code_spec hn (atoms_spec (ws := ws) h _ hmem)
    exact ⟨meth, c, h1, h2, h3, h4, h5, h6⟩
  · have hnone : ∀ x ∈ c.exceptionTable.toList, False := by
      obtain ⟨meth2, c2, h1, h2, -, -, -, -, h7, -⟩ := Cond.code_spec B.named (atoms_spec (ws := ws) B.pre _ hmem)
      cases Option.some.inj (h1.symm.trans B.method)
      cases Option.some.inj (h2.symm.trans (Stand.of_body B).code)
      intro x hx
      rw [Array.isEmpty_iff.mp h7] at hx
      cases hx
    obtain ⟨t, a1, o, b1, b2, b3⟩ := body p e s m args below meth c s₁ B hml hnone hP s₁ (by rw [B.state]; rfl) (Stand.of_body B)
    exact ⟨t, o, a1, b1, b2, b3⟩
/-- a call of a method that may throw -/
theorem wz_callV {y : MethodName} {bytes : ByteArray} {maxL nL n index : Nat} {ret : Option FieldType} {ws : List Cond} {rm : Room} {Pc : Array Value → State → Prop} {Ts : List Cond} {own C : String} {b : Addr} {As : List Value} {g : JFrame}
    (S : CallFix p m c cc nL s args Ts own) (hM : wz_Met l y ws rm Pc Qr Qx mc ms fr) (cw : CallW R s args own C index y bytes maxL ret ws rm mc ms n) (hp : PreV s H C b Pc As)
    (hg : g.method = m) (hn : As.length = n) (hsize : g.locals.size = nL) (hstack : g.stack = As.reverse ++ .ref b :: rest) (hW : 2 * g.monitorRoom + (rest.map fun v => v.category).sum ≤ 8) (hdg : decode cc g.pc = .ok (.invokevirtual index, 3)) (hf : cells + mc ≤ R.cells ∧ slots + ms ≤ R.slots)
    (kx : ∀ (q : Addr) (E : String) (ce : Cell) (L : List Loc) (st₀ t T' : State), st₀.heap = H → T'.heap = t.heap → T'.vm = t.vm → Qx E st₀ t → t.heap[q]? = some ce → ce.vm = .none → s.vm.findClass E = some ce.cls → (∀ z ∈ L, fr z.base) → Stand p l e R s m args below meth c T' (locs ++ L) (cells + mc) (slots + ms) → ∃ t2, Steps p.tables e below ((T'.setTop { g with stack := rest }).pushFrame (.throwing q)) t2 ∧ Q t2)
    (kr : ∀ (v : Option Value) (L : List Loc) (st₀ t T' : State), st₀.heap = H → T'.heap = t.heap → T'.vm = t.vm → Qr (Value.ref b :: As).toArray st₀ (.returned v) t → (∀ z ∈ L, fr z.base) → Stand p l e R s m args below meth c T' (locs ++ L) (cells + mc) (slots + ms) → ∃ t2, Steps p.tables e below (T'.setTop { g with pc := g.pc + 3, stack := v.toList ++ rest }) t2 ∧ Q t2) :
    W p l e R s m args below meth c H locs cells slots Q g := by
  intro T hT X
  obtain ⟨⟨hrc, hrs, hfr, hlo, hws, hcw, hcode, hini, hy, hlen, hl⟩, hin, hse⟩ := cw
  obtain ⟨hx, hb, hml, ho, -⟩ := S
  obtain ⟨hbl, ⟨cellB, hcB, hoB, hclB⟩, hPc⟩ := hp
  subst hg
  have hdg' : decode c.code g.pc = .ok (.invokevirtual index, 3) := by rw [hb]; exact hdg
  -- the machine enters the callee
  obtain ⟨mk, mM, hnm, hmM, hst, hab⟩ := Cond.instanceMethod_spec hin
  obtain ⟨mM', -, hmM', -, -, -, -, -, -, hsig⟩ := Cond.code_spec hnm hcode
  cases hmM.symm.trans hmM'
  obtain ⟨c2, r2, m2, q1, q2, q3, q4, kP, hkP, hkPi⟩ := Cond.selects_spec hse
  cases hclB.symm.trans q1
  cases (State.methodFound?_of_named hnm hy).symm.trans q2
  cases hnm.symm.trans q3
  have hsel : selectMethod e.platform s.vm cellB.cls mk = .method mk := by rw [Launch.admits_selectMethod X.admits]; exact q4
  obtain ⟨vm1, X1, step1⟩ := X.invokevirtual hx ho hl hnm hmM hst hkP hkPi hy (a := b) (cell := cellB) (by rw [hT]; exact hcB) (fun z h => by rw [h] at hoB; cases hoB) hsel hmM hab hkP hkPi (g := g) rfl (argsL := As) (rest := rest) (hn.trans (hlen _ hsig)) hstack hdg'
  obtain ⟨U, hU⟩ : ∃ U, U = T.setVm vm1 := ⟨_, rfl⟩
  rw [← hU] at X1 step1
  have hUh : U.heap = H := by rw [hU]; exact hT
  obtain ⟨g1, hg1⟩ : ∃ g1 : JFrame, g1 = { g with stack := rest } := ⟨_, rfl⟩
  have hg1m : g1.method = g.method := by rw [hg1]
  have hg1p : g1.pc = g.pc := by rw [hg1]
  have hat : At U g1.method c below := by rw [hg1m]; exact X1.here
  have hnU : U.methodNamed? y = some mk := X1.named hnm
  -- .. and the callee's contract runs it
  obtain ⟨mY, cY, hmY, hcY, -, hlY, -, -, -, -⟩ := Cond.code_spec hnU (hws _ hcw #[] _ X1.warmed)
  obtain ⟨kY, hkY, -⟩ := className_of_methodNamed hnU
  have hini' : kY.init = .initialized := Cond.initialized_spec (findClass_of_methodNamed hnU) hkY (word_at (a' := #[]) X1.warmed (Or.inl (by first | rfl | simp [Cond.onTables, Cond.keeps, Cond.steady])) hini)
  obtain ⟨a, ha⟩ : ∃ a, a = (Value.ref b :: As).toArray := ⟨_, rfl⟩
  have happ : (headSpec ws rm).appliesLoose y e.platform (U.calling g1 mk a) = true :=
    Spec.appliesLoose_calling (g := g1) hat (by rw [hg1p]; exact hdg') hnU hkY hini'
      (X1.room_calling (g := g1) (R' := (headSpec ws rm).room) (by rw [hg1]; exact hsize.trans hml.symm) hmY hcY hfr (by rw [hlY, hg1]; have : 2 * ({ g with stack := rest } : JFrame).monitorRoom + (rest.map fun v => v.category).sum ≤ 8 := hW; show 2 * ({ g with stack := rest } : JFrame).monitorRoom + (rest.map fun v => v.category).sum + (maxL + 11) + rm.locals ≤ _; omega) (by show cells + rm.cells ≤ _; rw [hrc]; exact hf.1) (by show slots + rm.slots ≤ _; rw [hrs]; exact hf.2))
      (atoms_intro fun w hw => hws w hw _ _ X1.warmed)
  obtain ⟨mid, hmid⟩ := hat.above
  have hfrm : (U.setTop g1).frames = (.java g1 :: mid) ++ below := by rw [State.frames_setTop' g1 hat.top, hmid]; rfl
  have hPa : Pc a (U.calling g1 mk a) := hbl _ _ _ _ (by rw [ha]; exact hPc U hUh X1.warmed)
  obtain ⟨o, s2, run, -, hend, hq⟩ := Steps.callFree hM p X1.admits X1.cas X1.clock (acts := []) hfrm happ hPa trivial
  have hq : wz_Q Qr Qx mc ms fr a (U.calling g1 mk a) o s2 := hq
  rw [State.frames_setTop' g1 hat.top] at hend
  obtain ⟨g0, hg0⟩ := Option.isSome_iff_exists.mp hat.top
  obtain ⟨r, hr⟩ := State.topJava?_eq_some.mp hg0
  have hr2 : (({ U with heap := s2.heap, slotsUsed := s2.slotsUsed } : State).setVm s2.vm).frames = .java g0 :: r := hr
  -- what is left of the state behind it, whichever way it ended
  have shape : ∀ L, (U.calling g1 mk a).sameButNew ({ s2 with vm := (U.calling g1 mk a).vm } : State) L mc ms →
      s2 = ({ (U.calling g1 mk a).setFrames s2.frames with heap := s2.heap, slotsUsed := s2.slotsUsed } : State).setVm s2.vm ∧ U.sameButNew ({ U with heap := s2.heap, slotsUsed := s2.slotsUsed } : State) L mc ms := by
    intro L h
    obtain ⟨e1, h2, h3, h4, h5, h6⟩ := h
    refine ⟨?_, ?_, h2, h3, h4, h5, h6⟩
    · have e0 : s2 = ({ s2 with vm := (U.calling g1 mk a).vm } : State).setVm s2.vm := rfl
      rw [e1] at e0
      exact e0
    · obtain ⟨t, ht, -⟩ := State.frames_cons hr
      show ({ U with heap := s2.heap, slotsUsed := s2.slotsUsed } : State) = { U.setFrames U.frames with heap := s2.heap, slotsUsed := s2.slotsUsed }
      rw [State.setFrames_self ht]
  have stand : ∀ L, U.WarmedH s2.vm → U.sameButNew ({ U with heap := s2.heap, slotsUsed := s2.slotsUsed } : State) L mc ms →
      Stand p l e R s g.method args below meth c (({ U with heap := s2.heap, slotsUsed := s2.slotsUsed } : State).setVm s2.vm) (locs ++ L) (cells + mc) (slots + ms) := fun L hW2 hs =>
    ⟨X1.admits, X1.cas, X1.clock, X1.frames, X1.room, X1.hears, X1.method, X1.code, (X1.here.setHeapUsed s2.heap s2.slotsUsed).setVm hW2.alike, X1.tail, State.WarmedH.trans X1.warmed hW2, X1.limits, X1.bytes, X1.same.trans (hs.setVm s.vm)⟩
  have go : ∀ t, Steps p.tables e below s2 t → Steps p.tables e below (T.setTop g) t := fun t h => step1 _ fun acts => by
    rw [doInvoke_state]
    rw [hg1, ha] at run
    exact run.trans h
  rcases hq with ⟨hQr, L, hfe, hL⟩ | ⟨q, E, ce, L, rfl, hQx, ⟨hce, hcv, hcl⟩, hW2, hsm, hL⟩
  · obtain ⟨⟨v, rfl⟩, hW2, hsm⟩ := id hfe
    obtain ⟨e3, hs2⟩ := shape L hsm
    obtain ⟨c9, i9, len9, hc9, hd9, hf9⟩ := hend
    have hW2 : U.WarmedH s2.vm := hW2
    have hcc : c9 = c := by
      have h1 : s2.code? g1.method = U.code? g1.method := by rw [State.code?_eq, State.code?_eq, hW2.alike.method?]
      exact Option.some.inj (hc9.symm.trans (h1.trans hat.code))
    subst hcc
    have hlen9 : len9 = 3 := by rw [hg1p, hdg'] at hd9; cases hd9; rfl
    subst hlen9
    obtain ⟨t2, a1, b1⟩ := kr v L (U.calling g1 mk a) s2 (({ U with heap := s2.heap, slotsUsed := s2.slotsUsed } : State).setVm s2.vm) hUh rfl rfl (by rw [← ha]; exact hQr) hL (stand L hW2 hs2)
    refine ⟨t2, go t2 ?_, b1⟩
    have e4 : s2 = (({ U with heap := s2.heap, slotsUsed := s2.slotsUsed } : State).setVm s2.vm).setTop { g with pc := g.pc + 3, stack := v.toList ++ rest } := by
      refine e3.trans ?_
      rw [hf9, State.calling_eq hat.top, State.setFrames_setFrames, State.setTop_of_frames _ hr2, hr, hg1]
      rfl
    rw [e4]
    exact a1
  · obtain ⟨e3, hs2⟩ := shape L hsm
    have hW2 : U.WarmedH s2.vm := hW2
    have hcl2 : s.vm.findClass E = some ce.cls := by
      have h1 : U.vm.findClass E = some ce.cls := hcl
      rw [X1.warmed.alike.findClass] at h1
      exact h1
    obtain ⟨t2, a1, b1⟩ := kx q E ce L (U.calling g1 mk a) s2 (({ U with heap := s2.heap, slotsUsed := s2.slotsUsed } : State).setVm s2.vm) hUh rfl rfl hQx hce hcv hcl2 hL (stand L hW2 hs2)
    refine ⟨t2, go t2 ?_, b1⟩
    have hf9 : s2.frames = .throwing q :: .java g1 :: U.frames.tail := hend
    have e4 : s2 = ((({ U with heap := s2.heap, slotsUsed := s2.slotsUsed } : State).setVm s2.vm).setTop { g with stack := rest }).pushFrame (.throwing q) := by
      refine e3.trans ?_
      rw [hf9, State.calling_eq hat.top, State.setFrames_setFrames, State.pushFrame, State.frames_setTop _ hr2, State.setTop_of_frames _ hr2, State.setFrames_setFrames, hr, hg1]
      rfl
    rw [e4]
    exact a1
/-- the same, for every goal behind it -/
def wz_Run (p : Program) (l : Launch) (e : Env) (R : Room) (s : State) (m : MethodId) (args : Array Value) (below : List Frame) (meth : Method) (c : Code) (H : Heap) (locs : List Loc) (cells slots mc ms : Nat) (g : JFrame) (rest : List Value) (Qa : State → Outcome → State → Prop) (Qx : String → State → State → Prop) (fr : Addr → Prop) : Prop :=
  ∀ Q : State → Prop,
    (∀ (q : Addr) (E : String) (ce : Cell) (L : List Loc) (st₀ t T' : State), st₀.heap = H → T'.heap = t.heap → T'.vm = t.vm → Qx E st₀ t → t.heap[q]? = some ce → ce.vm = .none → s.vm.findClass E = some ce.cls → (∀ z ∈ L, fr z.base) → Stand p l e R s m args below meth c T' (locs ++ L) (cells + mc) (slots + ms) → ∃ t2, Steps p.tables e below ((T'.setTop { g with stack := rest }).pushFrame (.throwing q)) t2 ∧ Q t2) →
    (∀ (v : Option Value) (L : List Loc) (st₀ t T' : State), st₀.heap = H → T'.heap = t.heap → T'.vm = t.vm → Qa st₀ (.returned v) t → (∀ z ∈ L, fr z.base) → Stand p l e R s m args below meth c T' (locs ++ L) (cells + mc) (slots + ms) → ∃ t2, Steps p.tables e below (T'.setTop { g with pc := g.pc + 3, stack := v.toList ++ rest }) t2 ∧ Q t2) →
    W p l e R s m args below meth c H locs cells slots Q g
theorem wz_runV {y : MethodName} {bytes : ByteArray} {maxL nL n index : Nat} {ret : Option FieldType} {ws : List Cond} {rm : Room} {Pc : Array Value → State → Prop} {Ts : List Cond} {own C : String} {b : Addr} {As : List Value} {g : JFrame}
    (S : CallFix p m c cc nL s args Ts own) (hM : wz_Met l y ws rm Pc Qr Qx mc ms fr) (cw : CallW R s args own C index y bytes maxL ret ws rm mc ms n) (hp : PreV s H C b Pc As)
    (hg : g.method = m) (hn : As.length = n) (hsize : g.locals.size = nL) (hstack : g.stack = As.reverse ++ .ref b :: rest) (hW : 2 * g.monitorRoom + (rest.map fun v => v.category).sum ≤ 8) (hdg : decode cc g.pc = .ok (.invokevirtual index, 3)) (hf : cells + mc ≤ R.cells ∧ slots + ms ≤ R.slots) :
    wz_Run p l e R s m args below meth c H locs cells slots mc ms g rest (Qr (Value.ref b :: As).toArray) Qx fr := fun _ kx kr => wz_callV S hM cw hp hg hn hsize hstack hW hdg hf kx kr
/-- nothing outside A has changed, also behind a call -/
theorem wz_S {A A1 : Nat → Prop} {H0 : Heap} {st₀ t T' : State} {L : List Loc} (h0 : st₀.heap = H) (e1 : T'.heap = t.heap) (hS : va_S A H0 H locs) (hA : ∀ q, A1 q → A q) (hL : ∀ q ∈ L, A1 q.base) (hF : va_F A1 st₀ t) : va_S A H0 T'.heap (locs ++ L) := by
  obtain ⟨hz, hk⟩ := hF
  rw [h0] at hz hk
  refine ⟨Nat.le_trans hS.1 (by rw [e1]; exact hz), fun q h1 h2 => ?_, fun q hq => ?_⟩
  · rw [e1, hk q (Nat.lt_of_lt_of_le h1 hS.1) (fun z => h2 (hA q z))]
    exact hS.2.1 q h1 h2
  · rcases List.mem_append.mp hq with h | h
    · exact hS.2.2 q h
    · exact hA _ (hL q h)
/-- a state that differs from another in new cells alone holds the old ones -/
theorem wz_old {z U : State} {k n : Nat} (h : z.sameButNew ({ U with vm := z.vm } : State) [] k n) : z.heap.size ≤ U.heap.size ∧ ∀ q : Nat, q < z.heap.size → U.heap[q]? = z.heap[q]? := by
  obtain ⟨-, h2, -, -, -, h6⟩ := h
  refine ⟨h2, fun q hq => ?_⟩
  obtain ⟨c9, e1, e2, -, e4⟩ := h6 q _ (Array.getElem?_eq_getElem hq)
  have e1 : U.heap[q]? = some c9 := e1
  rw [e1, Array.getElem?_eq_getElem hq, e2]
  have hs : c9.slots = (z.heap[q]).slots := Array.ext_getElem? fun i => e4 i (fun h => nomatch h)
  rw [hs]
/-- the same place of the machine, told from this state on -/
theorem wz_base {T : State} (X : Stand p l e R s m args below meth c T locs cells slots) {k n : Nat} (hc : cells + k ≤ R.cells) (hs : slots + n ≤ R.slots) :
    Stand p l e { frames := R.frames, locals := R.locals, cells := k, slots := n } ((T.setVm s.vm).setFrames (.invoking m args :: below)) m args below meth c T [] 0 0 := by
  have htop : (T.setVm s.vm).topJava?.isSome := X.here.top
  have hfr : ((T.setVm s.vm).setFrames (.invoking m args :: below)).frames = .invoking m args :: below := State.frames_setFrames _ (State.cur_lt_of_top htop)
  obtain ⟨g0, hg0⟩ := Option.isSome_iff_exists.mp htop
  obtain ⟨r, hr⟩ := State.topJava?_eq_some.mp hg0
  have hlim : e.platform.stackLimits (T.setVm s.vm).me = e.platform.stackLimits s.me := X.limits
  have hby : (T.setVm s.vm).me.stackBytes = s.me.stackBytes := X.bytes
  have hin : ((T.setVm s.vm).setFrames (.invoking m args :: below)).localsInUse = s.localsInUse := by
    rw [State.localsInUse_invoking hfr (meth := meth) (c := c) X.method X.code, State.localsInUse_invoking X.frames X.method X.code]
  have hdrop : T.heap.toList.drop T.heap.size = [] := List.drop_eq_nil_of_le (Nat.le_of_eq Array.length_toList)
  have hroom := X.room
  simp only [State.hasRoom, Bool.and_eq_true, decide_eq_true_eq] at hroom
  obtain ⟨⟨⟨⟨h1, h2, h3, h4, h5, h6⟩, h7⟩, h8⟩, h9⟩ := hroom
  rw [X.frames, List.length_cons] at h2 h3
  have hz := X.heapSize
  have hu := X.used
  refine ⟨X.admits, X.cas, X.clock, hfr, ?_, X.hears, X.method, X.code, X.here, X.tail, X.warmed, by rw [State.stackLimits_setFrames]; rfl, by rw [State.stackBytes_setFrames]; rfl, ?_⟩
  · simp only [State.hasRoom, Bool.and_eq_true, decide_eq_true_eq, hfr, hin, List.length_cons, State.stackLimits_setFrames, State.stackBytes_setFrames, hlim, hby]
    have z1 : T.heap.size + k ≤ e.platform.maxCells := by omega
    have z2 : T.slotsUsed + n ≤ e.platform.maxSlots := by omega
    exact ⟨⟨⟨⟨h1, h2, h3, h4, h5, h6⟩, z1⟩, z2⟩, X.book⟩
  · refine ⟨?_, Nat.le_refl _, Nat.le_refl _, ?_, ?_, fun a c9 h9 => ⟨c9, h9, rfl, rfl, fun _ _ => rfl⟩⟩
    · obtain ⟨t, ht, -⟩ := State.frames_cons hr
      show T.setVm s.vm = { ((T.setVm s.vm).setFrames (.invoking m args :: below)).setFrames (T.setVm s.vm).frames with heap := T.heap, slotsUsed := T.slotsUsed }
      rw [State.setFrames_setFrames, State.setFrames_self ht]
      rfl
    · show T.slotsUsed = T.slotsUsed + ((T.heap.toList.drop T.heap.size).map (·.slots.size)).sum
      rw [hdrop]; rfl
    · show ((T.heap.toList.drop T.heap.size).map (·.slots.size)).sum ≤ 0
      rw [hdrop]; exact Nat.le_refl _
end WZ
