/-! what every method of this proof starts from, and what it leaves -/
abbrev wx_W (ad : Nat → Nat) (cI cZ cJ cG : ClassId) (σ : wc_S) : va_W := wc_W 89 ad (wx_mk ad cI cZ cJ cG) σ
/-- what the tables say besides the good words, the texts, which class is none of another -/
def wx_facts (T : State) : Prop := (∀ w ∈ wx_bad, ∀ a : Array Value, w.before a T = true) ∧ (∀ q ∈ wx_strs, ∃ sa, vk_R "WidthCampaigns" q.1 q.2 sa T) ∧ (∀ q ∈ wx_nots, va_Nc q.1 q.2 T)
/-- .. and it stays so wherever the machine comes that changes nothing outside A -/
def wx_C (A : Nat → Prop) (U : State) (H : Heap) : Prop := ∀ T : State, U.WarmedH T.vm → H.size ≤ T.heap.size → (∀ q : Nat, q < H.size → ¬ A q → T.heap[q]? = H[q]?) → wx_facts T
theorem wx_C.go {A B : Nat → Prop} {s U : State} {H : Heap} {locs : List Loc} (hW : s.WarmedH U.vm) (hS : va_S A s.heap H locs) (hAB : ∀ q, B q → A q) (h : wx_C A s s.heap) : wx_C B U H := fun T h1 h2 h3 =>
  h T (State.WarmedH.trans hW h1) (Nat.le_trans hS.1 h2) (fun q hq hn => (h3 q (Nat.lt_of_lt_of_le hq hS.1) (fun hb => hn (hAB q hb))).trans (hS.2.1 q hq hn))
theorem wx_C.now {A : Nat → Prop} {s : State} (h : wx_C A s s.heap) : wx_facts s := h s (State.WarmedH.refl s) (Nat.le_refl _) (fun _ _ _ => rfl)
def wx_pre (D : va_G) (ad : Nat → Nat) (cI cZ cJ cG : ClassId) (σ : wc_S) (sz : Nat) : State → Prop := fun U =>
  U.heap.size = sz ∧ va_P D wx_cl (wx_W ad cI cZ cJ cG σ) U.heap ∧ va_K D wx_cl (wx_ty cI cZ cJ cG) U ∧ va_D (fun _ => True) (wx_W ad cI cZ cJ cG σ) ∧ wx_C (va_A (wx_W ad cI cZ cJ cG σ) sz) U U.heap
def wx_B (D : va_G) (ad : Nat → Nat) (cI cZ cJ cG : ClassId) : wc_S → State → Prop := fun u t => va_P D wx_cl (wx_W ad cI cZ cJ cG u) t.heap
def wx_E : Nat → String
  | 0 => "java/lang/IndexOutOfBoundsException"
  | 1 => "java/lang/IllegalStateException"
  | 2 => "java/lang/IllegalArgumentException"
  | _ => "java/lang/UnsupportedOperationException"
/-- ends: a number, nothing, thrown -/
abbrev wx_Qi (D : va_G) (ad : Nat → Nat) (cI cZ cJ cG : ClassId) (res : Int32 × wc_S) (A : Nat → Prop) := va_Qi (fun x u => (x, u) = res) (wx_B D ad cI cZ cJ cG) A
abbrev wx_Qv (D : va_G) (ad : Nat → Nat) (cI cZ cJ cG : ClassId) (res : wc_S) (A : Nat → Prop) := va_Qv (fun u => u = res) (wx_B D ad cI cZ cJ cG) A
section WXR
variable {p : Program} {l : Launch} {e : Env} {R : Room} {s : State} {m : MethodId} {args : Array Value} {below : List Frame} {meth : Method} {c : Code} {H : Heap} {locs : List Loc} {cells slots : Nat} {Q : State → Prop}
variable {cc : ByteArray} {pc : Nat} {ls : Array Slot} {rest st0 : List Value} {D : va_G} {ad : Nat → Nat} {cI cZ cJ cG : ClassId} {σ τ : wc_S} {A : Nat → Prop} {H0 : Heap} {mc ms : Nat}
theorem wx_blind {av : List Value} {sz : Nat} : FrameBlind (va_Pc av (wx_pre D ad cI cZ cJ cG σ sz)) := fun a U g mk' q => by
  obtain ⟨q0, q1, qP, qK, qD, qC⟩ := q
  exact ⟨q0, q1, qP, va_K.moved (u := U) (U := U.calling g mk' a) (Vm.Alike.refl U.vm) qK, qD, qC⟩
theorem wx_fr (hD : va_D A (wx_W ad cI cZ cJ cG σ)) (hS : va_S A H0 H locs) (hA : ∀ q, H0.size ≤ q → A q) : ∀ q, va_A (wx_W ad cI cZ cJ cG σ) H.size q → A q := by
  intro q h
  rcases h with ⟨k, e, h⟩ | h
  · exact hD.2 k _ h
  · exact hA q (Nat.le_trans hS.1 h)
theorem wx_go (hK : va_K D wx_cl (wx_ty cI cZ cJ cG) s) (hP : va_P D wx_cl (wx_W ad cI cZ cJ cG σ) H) (hD : va_D A (wx_W ad cI cZ cJ cG σ)) (hS : va_S A s.heap H locs) (hA : ∀ q, s.heap.size ≤ q → A q) (hC : wx_C A s s.heap) (av : List Value) : ∀ U : State, U.heap = H → s.WarmedH U.vm → va_Pc av (wx_pre D ad cI cZ cJ cG σ H.size) av.toArray U := fun U hU hW =>
  ⟨rfl, by rw [hU], by rw [hU]; exact hP, va_K.moved hW.alike hK, hD.weaken (fun _ _ _ _ => trivial), by rw [hU]; exact wx_C.go hW hS (wx_fr hD hS hA) hC⟩
theorem wx_preV {C : String} {T : u_T} {N' ci k : Nat} {fs : List Value} {As : List Value} (hK : va_K D wx_cl (wx_ty cI cZ cJ cG) s) (hP : va_P D wx_cl (wx_W ad cI cZ cJ cG σ) H) (hD : va_D A (wx_W ad cI cZ cJ cG σ)) (hS : va_S A s.heap H locs) (hA : ∀ q, s.heap.size ≤ q → A q) (hC : wx_C A s s.heap) (hk : k < 89) (hm : wx_mk ad cI cZ cJ cG k (σ k) = .inr (ci, fs)) (hc : wx_cl[ci]? = some (C, T, N')) : PreV s H C (ad k) (va_Pc (.ref (ad k) :: As) (wx_pre D ad cI cZ cJ cG σ H.size)) As :=
  ⟨wx_blind, va_recv hK hP hc (wc_at k hk hm), wx_go hK hP hD hS hA hC _⟩
theorem wx_preS {As : List Value} (hK : va_K D wx_cl (wx_ty cI cZ cJ cG) s) (hP : va_P D wx_cl (wx_W ad cI cZ cJ cG σ) H) (hD : va_D A (wx_W ad cI cZ cJ cG σ)) (hS : va_S A s.heap H locs) (hA : ∀ q, s.heap.size ≤ q → A q) (hC : wx_C A s s.heap) : PreS s H (va_Pc As (wx_pre D ad cI cZ cJ cG σ H.size)) As :=
  ⟨wx_blind, wx_go hK hP hD hS hA hC _⟩
theorem wx_calli {r : Int32} {a : Array Value} (hr : va_Run p l e R s m args below meth c H locs cells slots 0 0 (F0 m pc ls st0) rest (wx_Qi D ad cI cZ cJ cG (r, τ) (va_A (wx_W ad cI cZ cJ cG σ) H.size) a) (va_A (wx_W ad cI cZ cJ cG σ) H.size)) (hD : va_D A (wx_W ad cI cZ cJ cG σ)) (hS : va_S A H0 H locs) (hA : ∀ q, H0.size ≤ q → A q)
    (kk : ∀ (H1 : Heap) (locs1 : List Loc), va_P D wx_cl (wx_W ad cI cZ cJ cG τ) H1 → va_D A (wx_W ad cI cZ cJ cG τ) → va_S A H0 H1 locs1 → W p l e R s m args below meth c H1 locs1 cells slots Q (F0 m (pc + 3) ls (.int r :: rest))) : W p l e R s m args below meth c H locs cells slots Q (F0 m pc ls st0) := by
  refine va_calli hr hS (fun q _ h => wx_fr hD hS hA q h) (wx_fr hD hS hA) (fun r' u t H1 locs1 ht hvm hw hB hz hk hS1 => ?_)
  cases hw
  exact kk H1 locs1 (by rw [← ht]; exact hB) (wc_D hD) hS1
theorem wx_callv {a : Array Value} (hr : va_Run p l e R s m args below meth c H locs cells slots 0 0 (F0 m pc ls st0) rest (wx_Qv D ad cI cZ cJ cG τ (va_A (wx_W ad cI cZ cJ cG σ) H.size) a) (va_A (wx_W ad cI cZ cJ cG σ) H.size)) (hD : va_D A (wx_W ad cI cZ cJ cG σ)) (hS : va_S A H0 H locs) (hA : ∀ q, H0.size ≤ q → A q)
    (kk : ∀ (H1 : Heap) (locs1 : List Loc), va_P D wx_cl (wx_W ad cI cZ cJ cG τ) H1 → va_D A (wx_W ad cI cZ cJ cG τ) → va_S A H0 H1 locs1 → W p l e R s m args below meth c H1 locs1 cells slots Q (F0 m (pc + 3) ls rest)) : W p l e R s m args below meth c H locs cells slots Q (F0 m pc ls st0) := by
  refine va_callv hr hS (fun q _ h => wx_fr hD hS hA q h) (wx_fr hD hS hA) (fun u t H1 locs1 ht hvm hw hB hz hk hS1 => ?_)
  cases hw
  exact kk H1 locs1 (by rw [← ht]; exact hB) (wc_D hD) hS1
/-! ends of a method -/
theorem wx_iret {v : Int32} {res : Int32 × wc_S} (hx : p.tables.exec = Jvm.exec) (hb : c.code = cc) (hr : meth.sig.returnType = some .int) (hlocks : meth.locks = false) (hf : some (v, σ) = some res) (hP : va_P D wx_cl (wx_W ad cI cZ cJ cG σ) H) (hS : va_S A s.heap H locs) (hdg : decode cc pc = .ok (.ireturn, 1)) : W p l e R s m args below meth c H locs cells slots (MQ below (wx_Qi D ad cI cZ cJ cG res A) args s cells slots A) (F0 m pc ls [.int v]) :=
  W.iret (v := v) hx hb hr (fun t ht hW => ⟨⟨v, σ, rfl, Option.some.inj hf, by unfold wx_B; rw [ht]; exact hP⟩, hS.F ht⟩) hS.2.2 hdg
theorem wx_zret {v : Int32} {res : Int32 × wc_S} (hx : p.tables.exec = Jvm.exec) (hb : c.code = cc) (hr : meth.sig.returnType = some .boolean) (hn : narrow .boolean (.int v) = .int v) (hlocks : meth.locks = false) (hf : some (v, σ) = some res) (hP : va_P D wx_cl (wx_W ad cI cZ cJ cG σ) H) (hS : va_S A s.heap H locs) (hdg : decode cc pc = .ok (.ireturn, 1)) : W p l e R s m args below meth c H locs cells slots (MQ below (wx_Qi D ad cI cZ cJ cG res A) args s cells slots A) (F0 m pc ls [.int v]) :=
  W.zret (v := v) hx hb hr hn (fun t ht hW => ⟨⟨v, σ, rfl, Option.some.inj hf, by unfold wx_B; rw [ht]; exact hP⟩, hS.F ht⟩) hS.2.2 hdg
theorem wx_vret {res : wc_S} (hx : p.tables.exec = Jvm.exec) (hb : c.code = cc) (hr : meth.sig.returnType = none) (hlocks : meth.locks = false) (hf : some σ = some res) (hP : va_P D wx_cl (wx_W ad cI cZ cJ cG σ) H) (hS : va_S A s.heap H locs) (hdg : decode cc pc = .ok (.return_, 1)) : W p l e R s m args below meth c H locs cells slots (MQ below (wx_Qv D ad cI cZ cJ cG res A) args s cells slots A) (F0 m pc ls []) :=
  W.vret hx hb hr (fun t ht hW => ⟨⟨σ, rfl, Option.some.inj hf, by unfold wx_B; rw [ht]; exact hP⟩, hS.F ht⟩) hS.2.2 hdg
/-- to come to a place of the method with these locals, this stack and this state -/
abbrev wx_Arr (p : Program) (l : Launch) (e : Env) (R : Room) (s : State) (m : MethodId) (args : Array Value) (below : List Frame) (meth : Method) (c : Code) (D : va_G) (ad : Nat → Nat) (cI cZ cJ cG : ClassId) (A : Nat → Prop) (Q : State → Prop) (nL cells slots : Nat) (pc : Nat) (lv : List (Nat × Value)) (st : List Value) (σ : wc_S) : Prop :=
  ∀ (H : Heap) (locs : List Loc) (ls : Array Slot), va_P D wx_cl (wx_W ad cI cZ cJ cG σ) H → va_D A (wx_W ad cI cZ cJ cG σ) → va_S A s.heap H locs → lv_has ls nL lv → W p l e R s m args below meth c H locs cells slots Q (F0 m pc ls st)
/-- what a body has at its entry -/
abbrev wx_In (p : Program) (s : State) (m : MethodId) (args : Array Value) (meth : Method) (c : Code) (D : va_G) (ad : Nat → Nat) (cI cZ cJ cG : ClassId) (A : Nat → Prop) (σ : wc_S) (cc : ByteArray) (maxL : Nat) (ret : Option FieldType) (ws : List Cond) (own : String) : Prop :=
  p.tables.exec = Jvm.exec ∧ c.code = cc ∧ meth.sig.returnType = ret ∧ (∀ w ∈ ws, w.before args s = true) ∧ s.vm.findClass own = some m.cls ∧ meth.locks = false ∧ c.maxLocals = maxL ∧ (∀ q, s.heap.size ≤ q → A q) ∧ va_P D wx_cl (wx_W ad cI cZ cJ cG σ) s.heap ∧ va_K D wx_cl (wx_ty cI cZ cJ cG) s ∧ va_D A (wx_W ad cI cZ cJ cG σ) ∧ wx_C A s s.heap ∧ wx_facts s ∧ va_S A s.heap s.heap []
theorem wx_ofW {y : MethodName} {ws ws' : List Cond} {rm : Room} {maxL : Nat} {ret : Option FieldType} {mc ms sz : Nat} {Qc : (Nat → Prop) → Array Value → State → Outcome → State → Prop} (av : List Value) (hy : plainName y.cls = true) (hw : ws = Cond.code y cc maxL ret :: ws') (hle : (lg_sl av).length ≤ maxL)
    (body : ∀ (p : Program) (e : Env) (s : State) (m : MethodId) (args : Array Value) (below : List Frame) (meth : Method) (c : Code) (A : Nat → Prop) (ls : Array Slot), wx_In p s m args meth c D ad cI cZ cJ cG A σ cc maxL ret ws y.cls → lv_has ls maxL (lv_args 0 av) →
      W p l e rm s m args below meth c s.heap [] 0 0 (MQ below (Qc A) args s mc ms A) (F0 m 0 ls [])) :
    Met l y ws rm (va_Pc av (wx_pre D ad cI cZ cJ cG σ sz)) (Qc (va_A (wx_W ad cI cZ cJ cG σ) sz)) mc ms (va_A (wx_W ad cI cZ cJ cG σ) sz) := by
  refine Met.ofW (cc := cc) (maxL := maxL) (ret := ret) hy hw ?_
  intro p e s m args below meth c s₁ B hml hv
  obtain ⟨rfl, hsz, hP, hK, hD0, hC⟩ := hv
  subst hsz
  have hl := lv_entry av (n := maxL) hle
  rw [lg_entry_eq]
  exact body p e s m _ below meth c _ _ ⟨B.exec, B.bytes, B.returns, atoms_spec (ws := ws) B.pre, findClass_of_methodNamed B.named, B.notSynchronized, hml, fun q h => Or.inr h, hP, hK, hD0.self, hC, hC.now, va_S.rf⟩ hl
end WXR
