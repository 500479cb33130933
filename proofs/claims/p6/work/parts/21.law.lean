/-! THE CLAIM OUT OF ONE WALK OF THE LAW'S BODY. Your part is whole_start (and what it stands on); all else here is the same for every law, but numbers. -/
def R_law : String := "WidthCampaignsLaw"
def lw_P (b : Addr) (xs : List Int32) (args : Array Value) (s : State) : Prop := args = #[.ref b] ∧ s.IntsAt b xs ∧ xs.length ≤ 2560 ∧ (Jvm.Cond.and given_1 narrow_1).before args s = true
def lw_Q (_ : Array Value) (s : State) (o : Outcome) (t : State) : Prop := o = .returned (some (.int 1)) ∧ Framed s o t [] 661080 7112863
def lw_Z (below : List Frame) (a : Array Value) (s : State) : State → Prop := fun t => ∃ o, t.status = .running ∧ Ended t below o ∧ lw_Q a s o t
/-- the law's own end, with 1 on the stack, nothing written that was there before, its room as the claim has it -/
theorem lw_ret {p : Program} {l : Launch} {e : Env} {s : State} {m : MethodId} {below : List Frame} {meth : Method} {c : Code} {b : Nat} (hx : p.tables.exec = Jvm.exec) (hb : c.code = code) (hr : meth.sig.returnType = ret) (hlocks : meth.locks = false) {pc : Nat} {H : Heap} {ls : Array Slot} (hdg : decode code pc = .ok (.ireturn, 1)) : W p l e room_1 s m #[Value.ref b] below meth c H [] 661080 7112863 (lw_Z below #[Value.ref b] s) (F0 m pc ls [.int 1]) := by
  intro T hT X
  obtain ⟨fs, hret, hrun, hended, hW, hframe⟩ := X.leave (v := some (.int 1)) (hlocks := hlocks) (fun h => by rw [hr] at h; cases h)
  have hmeth' : T.vm.method? m = some meth := X.method'
  refine ⟨T.setFrames fs, ?_, .returned (some (.int 1)), hrun, hended, rfl, ⟨_, rfl⟩, hW, hframe⟩
  jvm_step X.here [X.here.top, hx, hb, hdg, hmeth', hr, ret, narrow_b1]
  (try refine ⟨rfl, ?_⟩); (try refine ⟨rfl, ?_⟩)
  first | (intro acts; rw [hret _ acts rfl rfl rfl]) | rw [hret _ _ rfl rfl rfl]
  exact Steps.refl _
/-- what holds at the law's entry: the machine, the code, the tables' words (any of lw_tbl by 'hts w (by decide +kernel)'), the script of L ints xs at the cell b, what the Statement gives of the start (any of its parts by flat_of_before) -/
def lw_At (p : Program) (s : State) (m : MethodId) (meth : Method) (c : Code) (b L : Nat) (xs : Nat → Int32) : Prop :=
  p.tables.exec = Jvm.exec ∧ c.code = code ∧ meth.sig.returnType = ret ∧ c.maxLocals = 7 ∧ s.vm.findClass R_law = some m.cls ∧ (∀ w ∈ lw_tbl, w.before #[Value.ref b] s = true) ∧ va_X b L xs s s.heap ∧ b < s.heap.size ∧ meth.locks = false ∧ (Jvm.Cond.and given_1 narrow_1).before #[Value.ref b] s = true
/-! words that rows use -/
theorem wt_0 : (.initialized "WidthCampaignsLaw" : Cond) ∈ wx_all := wx_mem 44 (by decide +kernel) (by decide +kernel)
theorem wt_241 : (.methodLink "WidthCampaignsLaw" 121 ⟨"WidthCampaigns", "bound", "()I"⟩ : Cond) ∈ wx_all := wx_mem 285 (by decide +kernel) (by decide +kernel)
theorem wt_242 : (.instanceMethod ⟨"WidthCampaigns", "bound", "()I"⟩ : Cond) ∈ wx_all := wx_mem 286 (by decide +kernel) (by decide +kernel)
theorem wt_243 : (.selects "WidthCampaigns" ⟨"WidthCampaigns", "bound", "()I"⟩ ⟨"WidthCampaigns", "bound", "()I"⟩ : Cond) ∈ wx_all := wx_mem 287 (by decide +kernel) (by decide +kernel)
theorem wt_244 : (.code ⟨"WidthCampaigns", "bound", "()I"⟩ prog_1_method_14_code 5 (Option.some Jvm.ClassFile.FieldType.int) : Cond) ∈ wx_all := wx_mem 288 (by decide +kernel) (by decide +kernel)
theorem wt_252 : (.methodLink "WidthCampaignsLaw" 72 ⟨"WidthCampaignsLaw", "coil", "(LWidthCampaigns;IIII[J)I"⟩ : Cond) ∈ wx_all := wx_mem 296 (by decide +kernel) (by decide +kernel)
theorem wt_253 : (.static ⟨"WidthCampaignsLaw", "coil", "(LWidthCampaigns;IIII[J)I"⟩ : Cond) ∈ wx_all := wx_mem 297 (by decide +kernel) (by decide +kernel)
theorem wt_254 : (.codeWith ⟨"WidthCampaignsLaw", "coil", "(LWidthCampaigns;IIII[J)I"⟩ method_3_code 7 (Option.some Jvm.ClassFile.FieldType.int) [(0, 14, 17, 13), (0, 14, 21, 15)] : Cond) ∈ wx_all := wx_mem 298 (by decide +kernel) (by decide +kernel)
theorem wt_372 : (.methodLink "WidthCampaignsLaw" 78 ⟨"WidthCampaignsLaw", "table", "(LWidthCampaigns;IIII[J)I"⟩ : Cond) ∈ wx_all := wx_mem 416 (by decide +kernel) (by decide +kernel)
theorem wt_373 : (.static ⟨"WidthCampaignsLaw", "table", "(LWidthCampaigns;IIII[J)I"⟩ : Cond) ∈ wx_all := wx_mem 417 (by decide +kernel) (by decide +kernel)
theorem wt_374 : (.codeWith ⟨"WidthCampaignsLaw", "table", "(LWidthCampaigns;IIII[J)I"⟩ method_4_code 7 (Option.some Jvm.ClassFile.FieldType.int) [(0, 14, 17, 20), (0, 14, 21, 13), (0, 14, 25, 15)] : Cond) ∈ wx_all := wx_mem 418 (by decide +kernel) (by decide +kernel)
theorem wt_403 : (.methodLink "WidthCampaignsLaw" 81 ⟨"WidthCampaignsLaw", "group", "(LWidthCampaigns;III[J)I"⟩ : Cond) ∈ wx_all := wx_mem 447 (by decide +kernel) (by decide +kernel)
theorem wt_404 : (.static ⟨"WidthCampaignsLaw", "group", "(LWidthCampaigns;III[J)I"⟩ : Cond) ∈ wx_all := wx_mem 448 (by decide +kernel) (by decide +kernel)
theorem wt_405 : (.codeWith ⟨"WidthCampaignsLaw", "group", "(LWidthCampaigns;III[J)I"⟩ method_5_code 6 (Option.some Jvm.ClassFile.FieldType.int) [(0, 12, 15, 13), (0, 12, 19, 15)] : Cond) ∈ wx_all := wx_mem 449 (by decide +kernel) (by decide +kernel)
theorem wt_416 : (.methodLink "WidthCampaignsLaw" 85 ⟨"WidthCampaignsLaw", "urgent", "(LWidthCampaigns;II)I"⟩ : Cond) ∈ wx_all := wx_mem 460 (by decide +kernel) (by decide +kernel)
theorem wt_417 : (.static ⟨"WidthCampaignsLaw", "urgent", "(LWidthCampaigns;II)I"⟩ : Cond) ∈ wx_all := wx_mem 461 (by decide +kernel) (by decide +kernel)
theorem wt_418 : (.codeWith ⟨"WidthCampaignsLaw", "urgent", "(LWidthCampaigns;II)I"⟩ method_6_code 4 (Option.some Jvm.ClassFile.FieldType.int) [(0, 6, 9, 20), (0, 6, 12, 13)] : Cond) ∈ wx_all := wx_mem 462 (by decide +kernel) (by decide +kernel)
theorem wt_429 : (.methodLink "WidthCampaignsLaw" 89 ⟨"WidthCampaignsLaw", "old", "(LWidthCampaigns;II)I"⟩ : Cond) ∈ wx_all := wx_mem 473 (by decide +kernel) (by decide +kernel)
theorem wt_430 : (.static ⟨"WidthCampaignsLaw", "old", "(LWidthCampaigns;II)I"⟩ : Cond) ∈ wx_all := wx_mem 474 (by decide +kernel) (by decide +kernel)
theorem wt_431 : (.codeWith ⟨"WidthCampaignsLaw", "old", "(LWidthCampaigns;II)I"⟩ method_7_code 4 (Option.some Jvm.ClassFile.FieldType.int) [(0, 6, 9, 20), (0, 6, 12, 13)] : Cond) ∈ wx_all := wx_mem 475 (by decide +kernel) (by decide +kernel)
theorem wt_437 : (.methodLink "WidthCampaignsLaw" 96 ⟨"WidthCampaignsLaw", "rules", "(LWidthCampaigns;IIII)I"⟩ : Cond) ∈ wx_all := wx_mem 481 (by decide +kernel) (by decide +kernel)
theorem wt_438 : (.static ⟨"WidthCampaignsLaw", "rules", "(LWidthCampaigns;IIII)I"⟩ : Cond) ∈ wx_all := wx_mem 482 (by decide +kernel) (by decide +kernel)
theorem wt_439 : (.codeWith ⟨"WidthCampaignsLaw", "rules", "(LWidthCampaigns;IIII)I"⟩ method_8_code 6 (Option.some Jvm.ClassFile.FieldType.int) [(0, 9, 12, 13)] : Cond) ∈ wx_all := wx_mem 483 (by decide +kernel) (by decide +kernel)
theorem wt_445 : (.methodLink "WidthCampaignsLaw" 100 ⟨"WidthCampaignsLaw", "run", "(LWidthCampaigns;I[J)I"⟩ : Cond) ∈ wx_all := wx_mem 489 (by decide +kernel) (by decide +kernel)
theorem wt_446 : (.static ⟨"WidthCampaignsLaw", "run", "(LWidthCampaigns;I[J)I"⟩ : Cond) ∈ wx_all := wx_mem 490 (by decide +kernel) (by decide +kernel)
theorem wt_447 : (.codeWith ⟨"WidthCampaignsLaw", "run", "(LWidthCampaigns;I[J)I"⟩ method_9_code 4 (Option.some Jvm.ClassFile.FieldType.int) [(0, 9, 12, 13)] : Cond) ∈ wx_all := wx_mem 491 (by decide +kernel) (by decide +kernel)
theorem wt_521 : (.methodLink "WidthCampaignsLaw" 104 ⟨"WidthCampaignsLaw", "proved", "(LWidthCampaigns;[J)I"⟩ : Cond) ∈ wx_all := wx_mem 565 (by decide +kernel) (by decide +kernel)
theorem wt_522 : (.static ⟨"WidthCampaignsLaw", "proved", "(LWidthCampaigns;[J)I"⟩ : Cond) ∈ wx_all := wx_mem 566 (by decide +kernel) (by decide +kernel)
theorem wt_523 : (.codeWith ⟨"WidthCampaignsLaw", "proved", "(LWidthCampaigns;[J)I"⟩ method_10_code 3 (Option.some Jvm.ClassFile.FieldType.int) [(0, 15, 18, 45)] : Cond) ∈ wx_all := wx_mem 567 (by decide +kernel) (by decide +kernel)
theorem wt_545 : (.methodLink "WidthCampaignsLaw" 108 ⟨"WidthCampaignsLaw", "order", "(LWidthCampaigns;I[J)I"⟩ : Cond) ∈ wx_all := wx_mem 589 (by decide +kernel) (by decide +kernel)
theorem wt_546 : (.static ⟨"WidthCampaignsLaw", "order", "(LWidthCampaigns;I[J)I"⟩ : Cond) ∈ wx_all := wx_mem 590 (by decide +kernel) (by decide +kernel)
theorem wt_547 : (.codeWith ⟨"WidthCampaignsLaw", "order", "(LWidthCampaigns;I[J)I"⟩ method_11_code 4 (Option.some Jvm.ClassFile.FieldType.int) [(0, 9, 12, 20), (0, 9, 15, 45)] : Cond) ∈ wx_all := wx_mem 591 (by decide +kernel) (by decide +kernel)
theorem wt_562 : (.methodLink "WidthCampaignsLaw" 111 ⟨"WidthCampaignsLaw", "told", "(LWidthCampaigns;I[J)I"⟩ : Cond) ∈ wx_all := wx_mem 606 (by decide +kernel) (by decide +kernel)
theorem wt_563 : (.static ⟨"WidthCampaignsLaw", "told", "(LWidthCampaigns;I[J)I"⟩ : Cond) ∈ wx_all := wx_mem 607 (by decide +kernel) (by decide +kernel)
theorem wt_564 : (.codeWith ⟨"WidthCampaignsLaw", "told", "(LWidthCampaigns;I[J)I"⟩ method_12_code 4 (Option.some Jvm.ClassFile.FieldType.int) [(0, 9, 12, 20), (0, 9, 15, 45)] : Cond) ∈ wx_all := wx_mem 608 (by decide +kernel) (by decide +kernel)
theorem wt_579 : (.methodLink "WidthCampaignsLaw" 114 ⟨"WidthCampaignsLaw", "change", "(LWidthCampaigns;I[J)I"⟩ : Cond) ∈ wx_all := wx_mem 623 (by decide +kernel) (by decide +kernel)
theorem wt_580 : (.static ⟨"WidthCampaignsLaw", "change", "(LWidthCampaigns;I[J)I"⟩ : Cond) ∈ wx_all := wx_mem 624 (by decide +kernel) (by decide +kernel)
theorem wt_581 : (.codeWith ⟨"WidthCampaignsLaw", "change", "(LWidthCampaigns;I[J)I"⟩ method_13_code 4 (Option.some Jvm.ClassFile.FieldType.int) [(0, 16, 19, 20), (0, 16, 22, 45)] : Cond) ∈ wx_all := wx_mem 625 (by decide +kernel) (by decide +kernel)
theorem wt_586 : (.methodLink "WidthCampaignsLaw" 117 ⟨"WidthCampaignsLaw", "jump", "(LWidthCampaigns;II[J)I"⟩ : Cond) ∈ wx_all := wx_mem 630 (by decide +kernel) (by decide +kernel)
theorem wt_587 : (.static ⟨"WidthCampaignsLaw", "jump", "(LWidthCampaigns;II[J)I"⟩ : Cond) ∈ wx_all := wx_mem 631 (by decide +kernel) (by decide +kernel)
theorem wt_588 : (.codeWith ⟨"WidthCampaignsLaw", "jump", "(LWidthCampaigns;II[J)I"⟩ method_14_code 5 (Option.some Jvm.ClassFile.FieldType.int) [(0, 10, 13, 20)] : Cond) ∈ wx_all := wx_mem 632 (by decide +kernel) (by decide +kernel)
theorem wt_594 : (.methodLink "WidthCampaignsLaw" 127 ⟨"WidthCampaignsLaw", "tell", "(LWidthCampaigns;J)I"⟩ : Cond) ∈ wx_all := wx_mem 638 (by decide +kernel) (by decide +kernel)
theorem wt_595 : (.static ⟨"WidthCampaignsLaw", "tell", "(LWidthCampaigns;J)I"⟩ : Cond) ∈ wx_all := wx_mem 639 (by decide +kernel) (by decide +kernel)
theorem wt_596 : (.codeWith ⟨"WidthCampaignsLaw", "tell", "(LWidthCampaigns;J)I"⟩ method_15_code 4 (Option.some Jvm.ClassFile.FieldType.int) [(0, 5, 8, 20), (0, 5, 11, 15)] : Cond) ∈ wx_all := wx_mem 640 (by decide +kernel) (by decide +kernel)
theorem wt_607 : (.methodLink "WidthCampaignsLaw" 131 ⟨"WidthCampaignsLaw", "improve", "(LWidthCampaigns;I[J)I"⟩ : Cond) ∈ wx_all := wx_mem 651 (by decide +kernel) (by decide +kernel)
theorem wt_608 : (.static ⟨"WidthCampaignsLaw", "improve", "(LWidthCampaigns;I[J)I"⟩ : Cond) ∈ wx_all := wx_mem 652 (by decide +kernel) (by decide +kernel)
theorem wt_609 : (.codeWith ⟨"WidthCampaignsLaw", "improve", "(LWidthCampaigns;I[J)I"⟩ method_16_code 4 (Option.some Jvm.ClassFile.FieldType.int) [(0, 9, 12, 45), (0, 9, 15, 13)] : Cond) ∈ wx_all := wx_mem 653 (by decide +kernel) (by decide +kernel)
theorem wt_718 : (.methodLink "WidthCampaignsLaw" 92 ⟨"WidthCampaignsModel", "thrown", "()I"⟩ : Cond) ∈ wx_all := wx_mem 762 (by decide +kernel) (by decide +kernel)
theorem wt_719 : (.instanceMethod ⟨"WidthCampaignsModel", "thrown", "()I"⟩ : Cond) ∈ wx_all := wx_mem 763 (by decide +kernel) (by decide +kernel)
theorem wt_720 : (.selects "WidthCampaignsModel" ⟨"WidthCampaignsModel", "thrown", "()I"⟩ ⟨"WidthCampaignsModel", "thrown", "()I"⟩ : Cond) ∈ wx_all := wx_mem 764 (by decide +kernel) (by decide +kernel)
theorem wt_721 : (.code ⟨"WidthCampaignsModel", "thrown", "()I"⟩ prog_8_method_2_code 1 (Option.some Jvm.ClassFile.FieldType.int) : Cond) ∈ wx_all := wx_mem 765 (by decide +kernel) (by decide +kernel)
theorem wt_722 : (.methodLink "WidthCampaignsLaw" 77 ⟨"WidthCampaignsModel", "coil", "(IIII)I"⟩ : Cond) ∈ wx_all := wx_mem 766 (by decide +kernel) (by decide +kernel)
theorem wt_723 : (.instanceMethod ⟨"WidthCampaignsModel", "coil", "(IIII)I"⟩ : Cond) ∈ wx_all := wx_mem 767 (by decide +kernel) (by decide +kernel)
theorem wt_724 : (.selects "WidthCampaignsModel" ⟨"WidthCampaignsModel", "coil", "(IIII)I"⟩ ⟨"WidthCampaignsModel", "coil", "(IIII)I"⟩ : Cond) ∈ wx_all := wx_mem 768 (by decide +kernel) (by decide +kernel)
theorem wt_725 : (.code ⟨"WidthCampaignsModel", "coil", "(IIII)I"⟩ prog_8_method_7_code 5 (Option.some Jvm.ClassFile.FieldType.int) : Cond) ∈ wx_all := wx_mem 769 (by decide +kernel) (by decide +kernel)
theorem wt_737 : (.methodLink "WidthCampaignsLaw" 80 ⟨"WidthCampaignsModel", "table", "(IIII)I"⟩ : Cond) ∈ wx_all := wx_mem 781 (by decide +kernel) (by decide +kernel)
theorem wt_738 : (.instanceMethod ⟨"WidthCampaignsModel", "table", "(IIII)I"⟩ : Cond) ∈ wx_all := wx_mem 782 (by decide +kernel) (by decide +kernel)
theorem wt_739 : (.selects "WidthCampaignsModel" ⟨"WidthCampaignsModel", "table", "(IIII)I"⟩ ⟨"WidthCampaignsModel", "table", "(IIII)I"⟩ : Cond) ∈ wx_all := wx_mem 783 (by decide +kernel) (by decide +kernel)
theorem wt_740 : (.code ⟨"WidthCampaignsModel", "table", "(IIII)I"⟩ prog_8_method_8_code 7 (Option.some Jvm.ClassFile.FieldType.int) : Cond) ∈ wx_all := wx_mem 784 (by decide +kernel) (by decide +kernel)
theorem wt_741 : (.methodLink "WidthCampaignsLaw" 84 ⟨"WidthCampaignsModel", "group", "(III)I"⟩ : Cond) ∈ wx_all := wx_mem 785 (by decide +kernel) (by decide +kernel)
theorem wt_742 : (.instanceMethod ⟨"WidthCampaignsModel", "group", "(III)I"⟩ : Cond) ∈ wx_all := wx_mem 786 (by decide +kernel) (by decide +kernel)
theorem wt_743 : (.selects "WidthCampaignsModel" ⟨"WidthCampaignsModel", "group", "(III)I"⟩ ⟨"WidthCampaignsModel", "group", "(III)I"⟩ : Cond) ∈ wx_all := wx_mem 787 (by decide +kernel) (by decide +kernel)
theorem wt_744 : (.code ⟨"WidthCampaignsModel", "group", "(III)I"⟩ prog_8_method_9_code 4 (Option.some Jvm.ClassFile.FieldType.int) : Cond) ∈ wx_all := wx_mem 788 (by decide +kernel) (by decide +kernel)
theorem wt_745 : (.methodLink "WidthCampaignsLaw" 88 ⟨"WidthCampaignsModel", "urgent", "(II)V"⟩ : Cond) ∈ wx_all := wx_mem 789 (by decide +kernel) (by decide +kernel)
theorem wt_746 : (.instanceMethod ⟨"WidthCampaignsModel", "urgent", "(II)V"⟩ : Cond) ∈ wx_all := wx_mem 790 (by decide +kernel) (by decide +kernel)
theorem wt_747 : (.selects "WidthCampaignsModel" ⟨"WidthCampaignsModel", "urgent", "(II)V"⟩ ⟨"WidthCampaignsModel", "urgent", "(II)V"⟩ : Cond) ∈ wx_all := wx_mem 791 (by decide +kernel) (by decide +kernel)
theorem wt_748 : (.code ⟨"WidthCampaignsModel", "urgent", "(II)V"⟩ prog_8_method_10_code 3 (Option.none : Option Jvm.ClassFile.FieldType) : Cond) ∈ wx_all := wx_mem 792 (by decide +kernel) (by decide +kernel)
theorem wt_753 : (.methodLink "WidthCampaignsLaw" 91 ⟨"WidthCampaignsModel", "old", "(II)V"⟩ : Cond) ∈ wx_all := wx_mem 797 (by decide +kernel) (by decide +kernel)
theorem wt_754 : (.instanceMethod ⟨"WidthCampaignsModel", "old", "(II)V"⟩ : Cond) ∈ wx_all := wx_mem 798 (by decide +kernel) (by decide +kernel)
theorem wt_755 : (.selects "WidthCampaignsModel" ⟨"WidthCampaignsModel", "old", "(II)V"⟩ ⟨"WidthCampaignsModel", "old", "(II)V"⟩ : Cond) ∈ wx_all := wx_mem 799 (by decide +kernel) (by decide +kernel)
theorem wt_756 : (.code ⟨"WidthCampaignsModel", "old", "(II)V"⟩ prog_8_method_11_code 3 (Option.none : Option Jvm.ClassFile.FieldType) : Cond) ∈ wx_all := wx_mem 800 (by decide +kernel) (by decide +kernel)
theorem wt_757 : (.methodLink "WidthCampaignsLaw" 99 ⟨"WidthCampaignsModel", "rules", "(IIII)V"⟩ : Cond) ∈ wx_all := wx_mem 801 (by decide +kernel) (by decide +kernel)
theorem wt_758 : (.instanceMethod ⟨"WidthCampaignsModel", "rules", "(IIII)V"⟩ : Cond) ∈ wx_all := wx_mem 802 (by decide +kernel) (by decide +kernel)
theorem wt_759 : (.selects "WidthCampaignsModel" ⟨"WidthCampaignsModel", "rules", "(IIII)V"⟩ ⟨"WidthCampaignsModel", "rules", "(IIII)V"⟩ : Cond) ∈ wx_all := wx_mem 803 (by decide +kernel) (by decide +kernel)
theorem wt_760 : (.code ⟨"WidthCampaignsModel", "rules", "(IIII)V"⟩ prog_8_method_12_code 5 (Option.none : Option Jvm.ClassFile.FieldType) : Cond) ∈ wx_all := wx_mem 804 (by decide +kernel) (by decide +kernel)
theorem wt_761 : (.methodLink "WidthCampaignsLaw" 103 ⟨"WidthCampaignsModel", "run", "(I)I"⟩ : Cond) ∈ wx_all := wx_mem 805 (by decide +kernel) (by decide +kernel)
theorem wt_762 : (.instanceMethod ⟨"WidthCampaignsModel", "run", "(I)I"⟩ : Cond) ∈ wx_all := wx_mem 806 (by decide +kernel) (by decide +kernel)
theorem wt_763 : (.selects "WidthCampaignsModel" ⟨"WidthCampaignsModel", "run", "(I)I"⟩ ⟨"WidthCampaignsModel", "run", "(I)I"⟩ : Cond) ∈ wx_all := wx_mem 807 (by decide +kernel) (by decide +kernel)
theorem wt_764 : (.code ⟨"WidthCampaignsModel", "run", "(I)I"⟩ prog_8_method_19_code 6 (Option.some Jvm.ClassFile.FieldType.int) : Cond) ∈ wx_all := wx_mem 808 (by decide +kernel) (by decide +kernel)
theorem wt_790 : (.methodLink "WidthCampaignsLaw" 107 ⟨"WidthCampaignsModel", "proved", "()Z"⟩ : Cond) ∈ wx_all := wx_mem 834 (by decide +kernel) (by decide +kernel)
theorem wt_791 : (.instanceMethod ⟨"WidthCampaignsModel", "proved", "()Z"⟩ : Cond) ∈ wx_all := wx_mem 835 (by decide +kernel) (by decide +kernel)
theorem wt_792 : (.selects "WidthCampaignsModel" ⟨"WidthCampaignsModel", "proved", "()Z"⟩ ⟨"WidthCampaignsModel", "proved", "()Z"⟩ : Cond) ∈ wx_all := wx_mem 836 (by decide +kernel) (by decide +kernel)
theorem wt_793 : (.code ⟨"WidthCampaignsModel", "proved", "()Z"⟩ prog_8_method_20_code 1 (Option.some Jvm.ClassFile.FieldType.boolean) : Cond) ∈ wx_all := wx_mem 837 (by decide +kernel) (by decide +kernel)
theorem wt_794 : (.methodLink "WidthCampaignsLaw" 110 ⟨"WidthCampaignsModel", "order", "(I)I"⟩ : Cond) ∈ wx_all := wx_mem 838 (by decide +kernel) (by decide +kernel)
theorem wt_795 : (.instanceMethod ⟨"WidthCampaignsModel", "order", "(I)I"⟩ : Cond) ∈ wx_all := wx_mem 839 (by decide +kernel) (by decide +kernel)
theorem wt_796 : (.selects "WidthCampaignsModel" ⟨"WidthCampaignsModel", "order", "(I)I"⟩ ⟨"WidthCampaignsModel", "order", "(I)I"⟩ : Cond) ∈ wx_all := wx_mem 840 (by decide +kernel) (by decide +kernel)
theorem wt_797 : (.code ⟨"WidthCampaignsModel", "order", "(I)I"⟩ prog_8_method_21_code 2 (Option.some Jvm.ClassFile.FieldType.int) : Cond) ∈ wx_all := wx_mem 841 (by decide +kernel) (by decide +kernel)
theorem wt_798 : (.methodLink "WidthCampaignsLaw" 113 ⟨"WidthCampaignsModel", "told", "(I)I"⟩ : Cond) ∈ wx_all := wx_mem 842 (by decide +kernel) (by decide +kernel)
theorem wt_799 : (.instanceMethod ⟨"WidthCampaignsModel", "told", "(I)I"⟩ : Cond) ∈ wx_all := wx_mem 843 (by decide +kernel) (by decide +kernel)
theorem wt_800 : (.selects "WidthCampaignsModel" ⟨"WidthCampaignsModel", "told", "(I)I"⟩ ⟨"WidthCampaignsModel", "told", "(I)I"⟩ : Cond) ∈ wx_all := wx_mem 844 (by decide +kernel) (by decide +kernel)
theorem wt_801 : (.code ⟨"WidthCampaignsModel", "told", "(I)I"⟩ prog_8_method_22_code 2 (Option.some Jvm.ClassFile.FieldType.int) : Cond) ∈ wx_all := wx_mem 845 (by decide +kernel) (by decide +kernel)
theorem wt_802 : (.methodLink "WidthCampaignsLaw" 116 ⟨"WidthCampaignsModel", "change", "(I)Z"⟩ : Cond) ∈ wx_all := wx_mem 846 (by decide +kernel) (by decide +kernel)
theorem wt_803 : (.instanceMethod ⟨"WidthCampaignsModel", "change", "(I)Z"⟩ : Cond) ∈ wx_all := wx_mem 847 (by decide +kernel) (by decide +kernel)
theorem wt_804 : (.selects "WidthCampaignsModel" ⟨"WidthCampaignsModel", "change", "(I)Z"⟩ ⟨"WidthCampaignsModel", "change", "(I)Z"⟩ : Cond) ∈ wx_all := wx_mem 848 (by decide +kernel) (by decide +kernel)
theorem wt_805 : (.code ⟨"WidthCampaignsModel", "change", "(I)Z"⟩ prog_8_method_23_code 2 (Option.some Jvm.ClassFile.FieldType.boolean) : Cond) ∈ wx_all := wx_mem 849 (by decide +kernel) (by decide +kernel)
theorem wt_806 : (.methodLink "WidthCampaignsLaw" 120 ⟨"WidthCampaignsModel", "jump", "(II)I"⟩ : Cond) ∈ wx_all := wx_mem 850 (by decide +kernel) (by decide +kernel)
theorem wt_807 : (.instanceMethod ⟨"WidthCampaignsModel", "jump", "(II)I"⟩ : Cond) ∈ wx_all := wx_mem 851 (by decide +kernel) (by decide +kernel)
theorem wt_808 : (.selects "WidthCampaignsModel" ⟨"WidthCampaignsModel", "jump", "(II)I"⟩ ⟨"WidthCampaignsModel", "jump", "(II)I"⟩ : Cond) ∈ wx_all := wx_mem 852 (by decide +kernel) (by decide +kernel)
theorem wt_809 : (.code ⟨"WidthCampaignsModel", "jump", "(II)I"⟩ prog_8_method_24_code 3 (Option.some Jvm.ClassFile.FieldType.int) : Cond) ∈ wx_all := wx_mem 853 (by decide +kernel) (by decide +kernel)
theorem wt_810 : (.methodLink "WidthCampaignsLaw" 124 ⟨"WidthCampaignsModel", "bound", "()I"⟩ : Cond) ∈ wx_all := wx_mem 854 (by decide +kernel) (by decide +kernel)
theorem wt_811 : (.instanceMethod ⟨"WidthCampaignsModel", "bound", "()I"⟩ : Cond) ∈ wx_all := wx_mem 855 (by decide +kernel) (by decide +kernel)
theorem wt_812 : (.selects "WidthCampaignsModel" ⟨"WidthCampaignsModel", "bound", "()I"⟩ ⟨"WidthCampaignsModel", "bound", "()I"⟩ : Cond) ∈ wx_all := wx_mem 856 (by decide +kernel) (by decide +kernel)
theorem wt_813 : (.code ⟨"WidthCampaignsModel", "bound", "()I"⟩ prog_8_method_25_code 7 (Option.some Jvm.ClassFile.FieldType.int) : Cond) ∈ wx_all := wx_mem 857 (by decide +kernel) (by decide +kernel)
theorem wt_814 : (.methodLink "WidthCampaignsLaw" 130 ⟨"WidthCampaignsModel", "tell", "(J)V"⟩ : Cond) ∈ wx_all := wx_mem 858 (by decide +kernel) (by decide +kernel)
theorem wt_815 : (.instanceMethod ⟨"WidthCampaignsModel", "tell", "(J)V"⟩ : Cond) ∈ wx_all := wx_mem 859 (by decide +kernel) (by decide +kernel)
theorem wt_816 : (.selects "WidthCampaignsModel" ⟨"WidthCampaignsModel", "tell", "(J)V"⟩ ⟨"WidthCampaignsModel", "tell", "(J)V"⟩ : Cond) ∈ wx_all := wx_mem 860 (by decide +kernel) (by decide +kernel)
theorem wt_817 : (.code ⟨"WidthCampaignsModel", "tell", "(J)V"⟩ prog_8_method_27_code 5 (Option.none : Option Jvm.ClassFile.FieldType) : Cond) ∈ wx_all := wx_mem 861 (by decide +kernel) (by decide +kernel)
theorem wt_823 : (.methodLink "WidthCampaignsLaw" 133 ⟨"WidthCampaignsModel", "improve", "(I)I"⟩ : Cond) ∈ wx_all := wx_mem 867 (by decide +kernel) (by decide +kernel)
theorem wt_824 : (.instanceMethod ⟨"WidthCampaignsModel", "improve", "(I)I"⟩ : Cond) ∈ wx_all := wx_mem 868 (by decide +kernel) (by decide +kernel)
theorem wt_825 : (.selects "WidthCampaignsModel" ⟨"WidthCampaignsModel", "improve", "(I)I"⟩ ⟨"WidthCampaignsModel", "improve", "(I)I"⟩ : Cond) ∈ wx_all := wx_mem 869 (by decide +kernel) (by decide +kernel)
theorem wt_826 : (.code ⟨"WidthCampaignsModel", "improve", "(I)I"⟩ prog_8_method_30_code 3 (Option.some Jvm.ClassFile.FieldType.int) : Cond) ∈ wx_all := wx_mem 870 (by decide +kernel) (by decide +kernel)
theorem wt_835 : (.constantLong "WidthCampaignsLaw" 125 4294967295 : Cond) ∈ wx_all := wx_mem 879 (by decide +kernel) (by decide +kernel)
/-! the law's calls of its own wrappers, and its start -/
section WLB
variable {p : Program} {l : Launch} {e : Env} {R : Room} {s : State} {m : MethodId} {args : Array Value} {below : List Frame} {meth : Method} {c : Code} {H : Heap} {locs : List Loc} {cells slots : Nat} {Q : State → Prop}
variable {cc : ByteArray} {pc : Nat} {ls : Array Slot} {rest st0 : List Value} {D : va_G} {ad : Nat → Nat} {cI cZ cJ cG : ClassId} {σ τ : wc_S} {A : Nat → Prop} {H0 : Heap} {mc ms : Nat} {c0 : Cond}
theorem wz_runSW {y : MethodName} {bytes : ByteArray} {maxL nL n index : Nat} {ret : Option FieldType} {hh : List (Nat × Nat × Nat × Nat)} {rm : Room} {Pc : Array Value → State → Prop} {Qc : Array Value → State → Outcome → State → Prop} {fr : Addr → Prop} {own : String} {As : List Value} {g : JFrame}
    (S : CallFix p m c cc nL s args (c0 :: wx_all) own) (hM : Met l y (Cond.codeWith y bytes maxL ret hh :: wx_all) rm Pc Qc mc ms fr) (hco : Cond.codeWith y bytes maxL ret hh ∈ wx_all) (hst : Cond.static y ∈ wx_all) (hini : Cond.initialized y.cls ∈ wx_all) (hl : Cond.methodLink own index y ∈ wx_all) (hd : y.cls ≠ "java/lang/invoke/MethodHandle" ∧ y.cls ≠ "java/lang/invoke/VarHandle" ∧ (parseMethodDescriptor y.desc).map (fun d => d.parameters.length) = some n) (hrc : rm.cells = mc) (hrs : rm.slots = ms) (hR : rm.frames + 1 ≤ R.frames ∧ 8 + (maxL + 11) + rm.locals ≤ R.locals) (hp : PreS s H Pc As)
    (hg : g.method = m) (hn : As.length = n) (hsize : g.locals.size = nL) (hstack : g.stack = As.reverse ++ rest) (hW : 2 * g.monitorRoom + (rest.map fun v => v.category).sum ≤ 8) (hdg : decode cc g.pc = .ok (.invokestatic index, 3)) (hf : cells + mc ≤ R.cells ∧ slots + ms ≤ R.slots) :
    va_Run p l e R s m args below meth c H locs cells slots mc ms g rest (Qc As.toArray) fr := by
  obtain ⟨hx, hb, hml, ho, hts⟩ := S
  have word : ∀ w ∈ wx_all, ∀ (a' : Array Value) (U : State), s.WarmedH U.vm → w.before a' U = true := fun w hw a' U hWU => word_at hWU (good_of_word (List.mem_filter.mp hw).2) (wx_hw hts hw)
  have hK : Back l R p e below s args y 3 8 (PreOf R mc ms Pc) (PostOf Qc mc ms fr) := va_backW (bytes := bytes) (maxL := maxL) (ret := ret) (hh := hh) hM hp.1 hrc hrs hR.1 hR.2
    (fun w hw a' U hWU => by
      rcases List.mem_cons.mp hw with rfl | h
      · exact word _ hco a' U hWU
      · exact word _ h a' U hWU) List.mem_cons_self (word _ hini)
  intro T hT X
  obtain ⟨mk, mM, cM, hnm, hmM, hcM, -, -, -, -, -, hsig⟩ := Cond.codeWith_spec (wx_hw hts hco)
  have hstatic : mM.isStatic = true := Cond.static_spec hnm hmM (wx_hw hts hst)
  obtain ⟨kP, hkP, -⟩ := className_of_methodNamed hnm
  have hinit : kP.init = .initialized := Cond.initialized_spec (findClass_of_methodNamed hnm) hkP (wx_hw hts hini)
  have hlen : As.length = mM.sig.parameters.length := by
    have h2 := hd.2.2
    rw [hsig] at h2
    exact hn.trans (Option.some.inj h2).symm
  obtain ⟨vm1, X1, step1⟩ := X.invokestatic hx ho (wx_hw hts hl) hnm hmM hstatic hkP hinit ⟨hd.1, hd.2.1⟩ (g := g) hg (argsL := As) (rest := rest) hlen hstack (by rw [hb]; exact hdg)
  obtain ⟨v, ⟨U', l2, c2, s2⟩, X', ⟨g', mk', t, L, e1, e2, hq, h1, hL, h2, h3⟩, run⟩ := hK m meth c ⟨T.setVm vm1, locs, cells, slots⟩ { g with stack := rest } (.invokestatic index) mk As.toArray X1 hg (hsize.trans hml.symm) (by rw [hb]; exact hdg) hW (X1.named hnm) ⟨hf.1, hf.2, hp.2 (T.setVm vm1) hT X1.warmed⟩
  dsimp only [Pt.U, Pt.locs, Pt.cells, Pt.slots] at X' e1 e2 h1 h2 h3 run
  subst h1; subst h2; subst h3
  exact ⟨v, (T.setVm vm1).calling g' mk' As.toArray, t, U', L, hT, X', hL, e1, e2, hq, fun target h => step1 _ fun acts => by rw [doInvoke_state]; exact run.trans h⟩
theorem wx_callik {r : Int32} {a : Array Value} (hr : va_Run p l e R s m args below meth c H locs cells slots mc ms (F0 m pc ls st0) rest (wx_Qi D ad cI cZ cJ cG (r, τ) (va_A (wx_W ad cI cZ cJ cG σ) H.size) a) (va_A (wx_W ad cI cZ cJ cG σ) H.size)) (hD : va_D A (wx_W ad cI cZ cJ cG σ)) (hS : va_S A H0 H locs) (hA : ∀ q, H0.size ≤ q → A q)
    (kk : ∀ (H1 : Heap) (locs1 : List Loc), va_P D wx_cl (wx_W ad cI cZ cJ cG τ) H1 → va_D A (wx_W ad cI cZ cJ cG τ) → va_S A H0 H1 locs1 → W p l e R s m args below meth c H1 locs1 (cells + mc) (slots + ms) Q (F0 m (pc + 3) ls (.int r :: rest))) : W p l e R s m args below meth c H locs cells slots Q (F0 m pc ls st0) := by
  refine va_calli hr hS (fun q _ h => wx_fr hD hS hA q h) (wx_fr hD hS hA) (fun r' u t H1 locs1 ht hvm hw hB hz hk hS1 => ?_)
  cases hw
  exact kk H1 locs1 (by rw [← ht]; exact hB) (wc_D hD) hS1
theorem wl_in {v : Int32} {k : Nat} (h : v = Int32.ofNat k) (hk : k < 100) : ¬ v.toInt < 0 ∧ v.toInt = k := by
  subst h
  have := Int32.toInt_ofNat_of_lt (n := k) (by omega)
  omega
end WLB
theorem wl_hts {c0 : Cond} {args : Array Value} {s : State} (hts : ∀ w ∈ lw_tbl, w.before args s = true) (h0 : c0 ∈ wx_all) : ∀ w ∈ c0 :: wx_all, w.before args s = true := by
  intro w hw
  rcases List.mem_cons.mp hw with rfl | h
  · exact hts _ (List.mem_filter.mp h0).1
  · exact hts w (List.mem_filter.mp h).1
theorem wd_K_law_23 : decode code 23 = .ok (.iload 4, 2) := by decide +kernel
theorem wd_K_law_25 : decode code 25 = .ok (.aload_n 0, 1) := by decide +kernel
theorem wd_K_law_26 : decode code 26 = .ok (.arraylength, 1) := by decide +kernel
theorem wd_K_law_27 : decode code 27 = .ok (.iconst 5, 1) := by decide +kernel
theorem wd_K_law_28 : decode code 28 = .ok (.isub, 1) := by decide +kernel
theorem wd_K_law_29 : decode code 29 = .ok (.if_icmp .gt 681, 3) := by decide +kernel
theorem wd_K_law_32 : decode code 32 = .ok (.aload_n 0, 1) := by decide +kernel
theorem wd_K_law_33 : decode code 33 = .ok (.iload 4, 2) := by decide +kernel
theorem wd_K_law_35 : decode code 35 = .ok (.iaload, 1) := by decide +kernel
theorem wd_K_law_36 : decode code 36 = .ok (.bipush 15, 2) := by decide +kernel
theorem wd_K_law_38 : decode code 38 = .ok (.iand, 1) := by decide +kernel
theorem wd_K_law_39 : decode code 39 = .ok (.tableswitch 665 0 14 #[73, 137, 201, 253, 290, 338, 399, 427, 443, 471, 499, 527, 567, 580, 637], 73) := by decide +kernel
theorem wd_K_law_112 : decode code 112 = .ok (.aload_n 1, 1) := by decide +kernel
theorem wd_K_law_113 : decode code 113 = .ok (.aload_n 0, 1) := by decide +kernel
theorem wd_K_law_114 : decode code 114 = .ok (.iload 4, 2) := by decide +kernel
theorem wd_K_law_116 : decode code 116 = .ok (.iconst 1, 1) := by decide +kernel
theorem wd_K_law_117 : decode code 117 = .ok (.iadd, 1) := by decide +kernel
theorem wd_K_law_118 : decode code 118 = .ok (.iaload, 1) := by decide +kernel
theorem wd_K_law_119 : decode code 119 = .ok (.aload_n 0, 1) := by decide +kernel
theorem wd_K_law_120 : decode code 120 = .ok (.iload 4, 2) := by decide +kernel
theorem wd_K_law_122 : decode code 122 = .ok (.iconst 2, 1) := by decide +kernel
theorem wd_K_law_123 : decode code 123 = .ok (.iadd, 1) := by decide +kernel
theorem wd_K_law_124 : decode code 124 = .ok (.iaload, 1) := by decide +kernel
theorem wd_K_law_125 : decode code 125 = .ok (.aload_n 0, 1) := by decide +kernel
theorem wd_K_law_126 : decode code 126 = .ok (.iload 4, 2) := by decide +kernel
theorem wd_K_law_128 : decode code 128 = .ok (.iconst 3, 1) := by decide +kernel
theorem wd_K_law_129 : decode code 129 = .ok (.iadd, 1) := by decide +kernel
theorem wd_K_law_130 : decode code 130 = .ok (.iaload, 1) := by decide +kernel
theorem wd_K_law_131 : decode code 131 = .ok (.aload_n 0, 1) := by decide +kernel
theorem wd_K_law_132 : decode code 132 = .ok (.iload 4, 2) := by decide +kernel
theorem wd_K_law_134 : decode code 134 = .ok (.iconst 4, 1) := by decide +kernel
theorem wd_K_law_135 : decode code 135 = .ok (.iadd, 1) := by decide +kernel
theorem wd_K_law_136 : decode code 136 = .ok (.iaload, 1) := by decide +kernel
theorem wd_K_law_137 : decode code 137 = .ok (.aload_n 3, 1) := by decide +kernel
theorem wd_K_law_138 : decode code 138 = .ok (.invokestatic 72, 3) := by decide +kernel
theorem wd_K_law_141 : decode code 141 = .ok (.istore 5, 2) := by decide +kernel
theorem wd_K_law_143 : decode code 143 = .ok (.aload_n 2, 1) := by decide +kernel
theorem wd_K_law_144 : decode code 144 = .ok (.aload_n 0, 1) := by decide +kernel
theorem wd_K_law_145 : decode code 145 = .ok (.iload 4, 2) := by decide +kernel
theorem wd_K_law_147 : decode code 147 = .ok (.iconst 1, 1) := by decide +kernel
theorem wd_K_law_148 : decode code 148 = .ok (.iadd, 1) := by decide +kernel
theorem wd_K_law_149 : decode code 149 = .ok (.iaload, 1) := by decide +kernel
theorem wd_K_law_150 : decode code 150 = .ok (.aload_n 0, 1) := by decide +kernel
theorem wd_K_law_151 : decode code 151 = .ok (.iload 4, 2) := by decide +kernel
theorem wd_K_law_153 : decode code 153 = .ok (.iconst 2, 1) := by decide +kernel
theorem wd_K_law_154 : decode code 154 = .ok (.iadd, 1) := by decide +kernel
theorem wd_K_law_155 : decode code 155 = .ok (.iaload, 1) := by decide +kernel
theorem wd_K_law_156 : decode code 156 = .ok (.aload_n 0, 1) := by decide +kernel
theorem wd_K_law_157 : decode code 157 = .ok (.iload 4, 2) := by decide +kernel
theorem wd_K_law_159 : decode code 159 = .ok (.iconst 3, 1) := by decide +kernel
theorem wd_K_law_160 : decode code 160 = .ok (.iadd, 1) := by decide +kernel
theorem wd_K_law_161 : decode code 161 = .ok (.iaload, 1) := by decide +kernel
theorem wd_K_law_162 : decode code 162 = .ok (.aload_n 0, 1) := by decide +kernel
theorem wd_K_law_163 : decode code 163 = .ok (.iload 4, 2) := by decide +kernel
theorem wd_K_law_165 : decode code 165 = .ok (.iconst 4, 1) := by decide +kernel
theorem wd_K_law_166 : decode code 166 = .ok (.iadd, 1) := by decide +kernel
theorem wd_K_law_167 : decode code 167 = .ok (.iaload, 1) := by decide +kernel
theorem wd_K_law_168 : decode code 168 = .ok (.invokevirtual 77, 3) := by decide +kernel
theorem wd_K_law_171 : decode code 171 = .ok (.istore 6, 2) := by decide +kernel
theorem wd_K_law_173 : decode code 173 = .ok (.goto 531, 3) := by decide +kernel
theorem wd_K_law_176 : decode code 176 = .ok (.aload_n 1, 1) := by decide +kernel
theorem wd_K_law_177 : decode code 177 = .ok (.aload_n 0, 1) := by decide +kernel
theorem wd_K_law_178 : decode code 178 = .ok (.iload 4, 2) := by decide +kernel
theorem wd_K_law_180 : decode code 180 = .ok (.iconst 1, 1) := by decide +kernel
theorem wd_K_law_181 : decode code 181 = .ok (.iadd, 1) := by decide +kernel
theorem wd_K_law_182 : decode code 182 = .ok (.iaload, 1) := by decide +kernel
theorem wd_K_law_183 : decode code 183 = .ok (.aload_n 0, 1) := by decide +kernel
theorem wd_K_law_184 : decode code 184 = .ok (.iload 4, 2) := by decide +kernel
theorem wd_K_law_186 : decode code 186 = .ok (.iconst 2, 1) := by decide +kernel
theorem wd_K_law_187 : decode code 187 = .ok (.iadd, 1) := by decide +kernel
theorem wd_K_law_188 : decode code 188 = .ok (.iaload, 1) := by decide +kernel
theorem wd_K_law_189 : decode code 189 = .ok (.aload_n 0, 1) := by decide +kernel
theorem wd_K_law_190 : decode code 190 = .ok (.iload 4, 2) := by decide +kernel
theorem wd_K_law_192 : decode code 192 = .ok (.iconst 3, 1) := by decide +kernel
theorem wd_K_law_193 : decode code 193 = .ok (.iadd, 1) := by decide +kernel
theorem wd_K_law_194 : decode code 194 = .ok (.iaload, 1) := by decide +kernel
theorem wd_K_law_195 : decode code 195 = .ok (.aload_n 0, 1) := by decide +kernel
theorem wd_K_law_196 : decode code 196 = .ok (.iload 4, 2) := by decide +kernel
theorem wd_K_law_198 : decode code 198 = .ok (.iconst 4, 1) := by decide +kernel
theorem wd_K_law_199 : decode code 199 = .ok (.iadd, 1) := by decide +kernel
theorem wd_K_law_200 : decode code 200 = .ok (.iaload, 1) := by decide +kernel
theorem wd_K_law_201 : decode code 201 = .ok (.aload_n 3, 1) := by decide +kernel
theorem wd_K_law_202 : decode code 202 = .ok (.invokestatic 78, 3) := by decide +kernel
theorem wd_K_law_205 : decode code 205 = .ok (.istore 5, 2) := by decide +kernel
theorem wd_K_law_207 : decode code 207 = .ok (.aload_n 2, 1) := by decide +kernel
theorem wd_K_law_208 : decode code 208 = .ok (.aload_n 0, 1) := by decide +kernel
theorem wd_K_law_209 : decode code 209 = .ok (.iload 4, 2) := by decide +kernel
theorem wd_K_law_211 : decode code 211 = .ok (.iconst 1, 1) := by decide +kernel
theorem wd_K_law_212 : decode code 212 = .ok (.iadd, 1) := by decide +kernel
theorem wd_K_law_213 : decode code 213 = .ok (.iaload, 1) := by decide +kernel
theorem wd_K_law_214 : decode code 214 = .ok (.aload_n 0, 1) := by decide +kernel
theorem wd_K_law_215 : decode code 215 = .ok (.iload 4, 2) := by decide +kernel
theorem wd_K_law_217 : decode code 217 = .ok (.iconst 2, 1) := by decide +kernel
theorem wd_K_law_218 : decode code 218 = .ok (.iadd, 1) := by decide +kernel
theorem wd_K_law_219 : decode code 219 = .ok (.iaload, 1) := by decide +kernel
theorem wd_K_law_220 : decode code 220 = .ok (.aload_n 0, 1) := by decide +kernel
theorem wd_K_law_221 : decode code 221 = .ok (.iload 4, 2) := by decide +kernel
theorem wd_K_law_223 : decode code 223 = .ok (.iconst 3, 1) := by decide +kernel
theorem wd_K_law_224 : decode code 224 = .ok (.iadd, 1) := by decide +kernel
theorem wd_K_law_225 : decode code 225 = .ok (.iaload, 1) := by decide +kernel
theorem wd_K_law_226 : decode code 226 = .ok (.aload_n 0, 1) := by decide +kernel
theorem wd_K_law_227 : decode code 227 = .ok (.iload 4, 2) := by decide +kernel
theorem wd_K_law_229 : decode code 229 = .ok (.iconst 4, 1) := by decide +kernel
theorem wd_K_law_230 : decode code 230 = .ok (.iadd, 1) := by decide +kernel
theorem wd_K_law_231 : decode code 231 = .ok (.iaload, 1) := by decide +kernel
theorem wd_K_law_232 : decode code 232 = .ok (.invokevirtual 80, 3) := by decide +kernel
theorem wd_K_law_235 : decode code 235 = .ok (.istore 6, 2) := by decide +kernel
theorem wd_K_law_237 : decode code 237 = .ok (.goto 467, 3) := by decide +kernel
theorem wd_K_law_240 : decode code 240 = .ok (.aload_n 1, 1) := by decide +kernel
theorem wd_K_law_241 : decode code 241 = .ok (.aload_n 0, 1) := by decide +kernel
theorem wd_K_law_242 : decode code 242 = .ok (.iload 4, 2) := by decide +kernel
theorem wd_K_law_244 : decode code 244 = .ok (.iconst 1, 1) := by decide +kernel
theorem wd_K_law_245 : decode code 245 = .ok (.iadd, 1) := by decide +kernel
theorem wd_K_law_246 : decode code 246 = .ok (.iaload, 1) := by decide +kernel
theorem wd_K_law_247 : decode code 247 = .ok (.aload_n 0, 1) := by decide +kernel
theorem wd_K_law_248 : decode code 248 = .ok (.iload 4, 2) := by decide +kernel
theorem wd_K_law_250 : decode code 250 = .ok (.iconst 2, 1) := by decide +kernel
theorem wd_K_law_251 : decode code 251 = .ok (.iadd, 1) := by decide +kernel
theorem wd_K_law_252 : decode code 252 = .ok (.iaload, 1) := by decide +kernel
theorem wd_K_law_253 : decode code 253 = .ok (.aload_n 0, 1) := by decide +kernel
theorem wd_K_law_254 : decode code 254 = .ok (.iload 4, 2) := by decide +kernel
theorem wd_K_law_256 : decode code 256 = .ok (.iconst 3, 1) := by decide +kernel
theorem wd_K_law_257 : decode code 257 = .ok (.iadd, 1) := by decide +kernel
theorem wd_K_law_258 : decode code 258 = .ok (.iaload, 1) := by decide +kernel
theorem wd_K_law_259 : decode code 259 = .ok (.aload_n 3, 1) := by decide +kernel
theorem wd_K_law_260 : decode code 260 = .ok (.invokestatic 81, 3) := by decide +kernel
theorem wd_K_law_263 : decode code 263 = .ok (.istore 5, 2) := by decide +kernel
theorem wd_K_law_265 : decode code 265 = .ok (.aload_n 2, 1) := by decide +kernel
theorem wd_K_law_266 : decode code 266 = .ok (.aload_n 0, 1) := by decide +kernel
theorem wd_K_law_267 : decode code 267 = .ok (.iload 4, 2) := by decide +kernel
theorem wd_K_law_269 : decode code 269 = .ok (.iconst 1, 1) := by decide +kernel
theorem wd_K_law_270 : decode code 270 = .ok (.iadd, 1) := by decide +kernel
theorem wd_K_law_271 : decode code 271 = .ok (.iaload, 1) := by decide +kernel
theorem wd_K_law_272 : decode code 272 = .ok (.aload_n 0, 1) := by decide +kernel
theorem wd_K_law_273 : decode code 273 = .ok (.iload 4, 2) := by decide +kernel
theorem wd_K_law_275 : decode code 275 = .ok (.iconst 2, 1) := by decide +kernel
theorem wd_K_law_276 : decode code 276 = .ok (.iadd, 1) := by decide +kernel
theorem wd_K_law_277 : decode code 277 = .ok (.iaload, 1) := by decide +kernel
theorem wd_K_law_278 : decode code 278 = .ok (.aload_n 0, 1) := by decide +kernel
theorem wd_K_law_279 : decode code 279 = .ok (.iload 4, 2) := by decide +kernel
theorem wd_K_law_281 : decode code 281 = .ok (.iconst 3, 1) := by decide +kernel
theorem wd_K_law_282 : decode code 282 = .ok (.iadd, 1) := by decide +kernel
theorem wd_K_law_283 : decode code 283 = .ok (.iaload, 1) := by decide +kernel
theorem wd_K_law_284 : decode code 284 = .ok (.invokevirtual 84, 3) := by decide +kernel
theorem wd_K_law_287 : decode code 287 = .ok (.istore 6, 2) := by decide +kernel
theorem wd_K_law_289 : decode code 289 = .ok (.goto 415, 3) := by decide +kernel
theorem wd_K_law_292 : decode code 292 = .ok (.aload_n 1, 1) := by decide +kernel
theorem wd_K_law_293 : decode code 293 = .ok (.aload_n 0, 1) := by decide +kernel
theorem wd_K_law_294 : decode code 294 = .ok (.iload 4, 2) := by decide +kernel
theorem wd_K_law_296 : decode code 296 = .ok (.iconst 1, 1) := by decide +kernel
theorem wd_K_law_297 : decode code 297 = .ok (.iadd, 1) := by decide +kernel
theorem wd_K_law_298 : decode code 298 = .ok (.iaload, 1) := by decide +kernel
theorem wd_K_law_299 : decode code 299 = .ok (.aload_n 0, 1) := by decide +kernel
theorem wd_K_law_300 : decode code 300 = .ok (.iload 4, 2) := by decide +kernel
theorem wd_K_law_302 : decode code 302 = .ok (.iconst 2, 1) := by decide +kernel
theorem wd_K_law_303 : decode code 303 = .ok (.iadd, 1) := by decide +kernel
theorem wd_K_law_304 : decode code 304 = .ok (.iaload, 1) := by decide +kernel
theorem wd_K_law_305 : decode code 305 = .ok (.invokestatic 85, 3) := by decide +kernel
theorem wd_K_law_308 : decode code 308 = .ok (.istore 5, 2) := by decide +kernel
theorem wd_K_law_310 : decode code 310 = .ok (.aload_n 2, 1) := by decide +kernel
theorem wd_K_law_311 : decode code 311 = .ok (.aload_n 0, 1) := by decide +kernel
theorem wd_K_law_312 : decode code 312 = .ok (.iload 4, 2) := by decide +kernel
theorem wd_K_law_314 : decode code 314 = .ok (.iconst 1, 1) := by decide +kernel
theorem wd_K_law_315 : decode code 315 = .ok (.iadd, 1) := by decide +kernel
theorem wd_K_law_316 : decode code 316 = .ok (.iaload, 1) := by decide +kernel
theorem wd_K_law_317 : decode code 317 = .ok (.aload_n 0, 1) := by decide +kernel
theorem wd_K_law_318 : decode code 318 = .ok (.iload 4, 2) := by decide +kernel
theorem wd_K_law_320 : decode code 320 = .ok (.iconst 2, 1) := by decide +kernel
theorem wd_K_law_321 : decode code 321 = .ok (.iadd, 1) := by decide +kernel
theorem wd_K_law_322 : decode code 322 = .ok (.iaload, 1) := by decide +kernel
theorem wd_K_law_323 : decode code 323 = .ok (.invokevirtual 88, 3) := by decide +kernel
theorem wd_K_law_326 : decode code 326 = .ok (.goto 378, 3) := by decide +kernel
theorem wd_K_law_329 : decode code 329 = .ok (.aload_n 1, 1) := by decide +kernel
theorem wd_K_law_330 : decode code 330 = .ok (.aload_n 0, 1) := by decide +kernel
theorem wd_K_law_331 : decode code 331 = .ok (.iload 4, 2) := by decide +kernel
theorem wd_K_law_333 : decode code 333 = .ok (.iconst 1, 1) := by decide +kernel
theorem wd_K_law_334 : decode code 334 = .ok (.iadd, 1) := by decide +kernel
theorem wd_K_law_335 : decode code 335 = .ok (.iaload, 1) := by decide +kernel
theorem wd_K_law_336 : decode code 336 = .ok (.aload_n 0, 1) := by decide +kernel
theorem wd_K_law_337 : decode code 337 = .ok (.iload 4, 2) := by decide +kernel
theorem wd_K_law_339 : decode code 339 = .ok (.iconst 2, 1) := by decide +kernel
theorem wd_K_law_340 : decode code 340 = .ok (.iadd, 1) := by decide +kernel
theorem wd_K_law_341 : decode code 341 = .ok (.iaload, 1) := by decide +kernel
theorem wd_K_law_342 : decode code 342 = .ok (.invokestatic 89, 3) := by decide +kernel
theorem wd_K_law_345 : decode code 345 = .ok (.istore 5, 2) := by decide +kernel
theorem wd_K_law_347 : decode code 347 = .ok (.aload_n 2, 1) := by decide +kernel
theorem wd_K_law_348 : decode code 348 = .ok (.aload_n 0, 1) := by decide +kernel
theorem wd_K_law_349 : decode code 349 = .ok (.iload 4, 2) := by decide +kernel
theorem wd_K_law_351 : decode code 351 = .ok (.iconst 1, 1) := by decide +kernel
theorem wd_K_law_352 : decode code 352 = .ok (.iadd, 1) := by decide +kernel
theorem wd_K_law_353 : decode code 353 = .ok (.iaload, 1) := by decide +kernel
theorem wd_K_law_354 : decode code 354 = .ok (.aload_n 0, 1) := by decide +kernel
theorem wd_K_law_355 : decode code 355 = .ok (.iload 4, 2) := by decide +kernel
theorem wd_K_law_357 : decode code 357 = .ok (.iconst 2, 1) := by decide +kernel
theorem wd_K_law_358 : decode code 358 = .ok (.iadd, 1) := by decide +kernel
theorem wd_K_law_359 : decode code 359 = .ok (.iaload, 1) := by decide +kernel
theorem wd_K_law_360 : decode code 360 = .ok (.invokevirtual 91, 3) := by decide +kernel
theorem wd_K_law_363 : decode code 363 = .ok (.aload_n 2, 1) := by decide +kernel
theorem wd_K_law_364 : decode code 364 = .ok (.invokevirtual 92, 3) := by decide +kernel
theorem wd_K_law_367 : decode code 367 = .ok (.iload 5, 2) := by decide +kernel
theorem wd_K_law_369 : decode code 369 = .ok (.if_icmp .eq 5, 3) := by decide +kernel
theorem wd_K_law_372 : decode code 372 = .ok (.iconst 0, 1) := by decide +kernel
theorem wd_K_law_373 : decode code 373 = .ok (.ireturn, 1) := by decide +kernel
theorem wd_K_law_374 : decode code 374 = .ok (.goto 330, 3) := by decide +kernel
theorem wd_K_law_377 : decode code 377 = .ok (.aload_n 1, 1) := by decide +kernel
theorem wd_K_law_378 : decode code 378 = .ok (.aload_n 0, 1) := by decide +kernel
theorem wd_K_law_379 : decode code 379 = .ok (.iload 4, 2) := by decide +kernel
theorem wd_K_law_381 : decode code 381 = .ok (.iconst 1, 1) := by decide +kernel
theorem wd_K_law_382 : decode code 382 = .ok (.iadd, 1) := by decide +kernel
theorem wd_K_law_383 : decode code 383 = .ok (.iaload, 1) := by decide +kernel
theorem wd_K_law_384 : decode code 384 = .ok (.aload_n 0, 1) := by decide +kernel
theorem wd_K_law_385 : decode code 385 = .ok (.iload 4, 2) := by decide +kernel
theorem wd_K_law_387 : decode code 387 = .ok (.iconst 2, 1) := by decide +kernel
theorem wd_K_law_388 : decode code 388 = .ok (.iadd, 1) := by decide +kernel
theorem wd_K_law_389 : decode code 389 = .ok (.iaload, 1) := by decide +kernel
theorem wd_K_law_390 : decode code 390 = .ok (.aload_n 0, 1) := by decide +kernel
theorem wd_K_law_391 : decode code 391 = .ok (.iload 4, 2) := by decide +kernel
theorem wd_K_law_393 : decode code 393 = .ok (.iconst 3, 1) := by decide +kernel
theorem wd_K_law_394 : decode code 394 = .ok (.iadd, 1) := by decide +kernel
theorem wd_K_law_395 : decode code 395 = .ok (.iaload, 1) := by decide +kernel
theorem wd_K_law_396 : decode code 396 = .ok (.aload_n 0, 1) := by decide +kernel
theorem wd_K_law_397 : decode code 397 = .ok (.iload 4, 2) := by decide +kernel
theorem wd_K_law_399 : decode code 399 = .ok (.iconst 4, 1) := by decide +kernel
theorem wd_K_law_400 : decode code 400 = .ok (.iadd, 1) := by decide +kernel
theorem wd_K_law_401 : decode code 401 = .ok (.iaload, 1) := by decide +kernel
theorem wd_K_law_402 : decode code 402 = .ok (.invokestatic 96, 3) := by decide +kernel
theorem wd_K_law_405 : decode code 405 = .ok (.istore 5, 2) := by decide +kernel
theorem wd_K_law_407 : decode code 407 = .ok (.aload_n 2, 1) := by decide +kernel
theorem wd_K_law_408 : decode code 408 = .ok (.aload_n 0, 1) := by decide +kernel
theorem wd_K_law_409 : decode code 409 = .ok (.iload 4, 2) := by decide +kernel
theorem wd_K_law_411 : decode code 411 = .ok (.iconst 1, 1) := by decide +kernel
theorem wd_K_law_412 : decode code 412 = .ok (.iadd, 1) := by decide +kernel
theorem wd_K_law_413 : decode code 413 = .ok (.iaload, 1) := by decide +kernel
theorem wd_K_law_414 : decode code 414 = .ok (.aload_n 0, 1) := by decide +kernel
theorem wd_K_law_415 : decode code 415 = .ok (.iload 4, 2) := by decide +kernel
theorem wd_K_law_417 : decode code 417 = .ok (.iconst 2, 1) := by decide +kernel
theorem wd_K_law_418 : decode code 418 = .ok (.iadd, 1) := by decide +kernel
theorem wd_K_law_419 : decode code 419 = .ok (.iaload, 1) := by decide +kernel
theorem wd_K_law_420 : decode code 420 = .ok (.aload_n 0, 1) := by decide +kernel
theorem wd_K_law_421 : decode code 421 = .ok (.iload 4, 2) := by decide +kernel
theorem wd_K_law_423 : decode code 423 = .ok (.iconst 3, 1) := by decide +kernel
theorem wd_K_law_424 : decode code 424 = .ok (.iadd, 1) := by decide +kernel
theorem wd_K_law_425 : decode code 425 = .ok (.iaload, 1) := by decide +kernel
theorem wd_K_law_426 : decode code 426 = .ok (.aload_n 0, 1) := by decide +kernel
theorem wd_K_law_427 : decode code 427 = .ok (.iload 4, 2) := by decide +kernel
theorem wd_K_law_429 : decode code 429 = .ok (.iconst 4, 1) := by decide +kernel
theorem wd_K_law_430 : decode code 430 = .ok (.iadd, 1) := by decide +kernel
theorem wd_K_law_431 : decode code 431 = .ok (.iaload, 1) := by decide +kernel
theorem wd_K_law_432 : decode code 432 = .ok (.invokevirtual 99, 3) := by decide +kernel
theorem wd_K_law_435 : decode code 435 = .ok (.goto 269, 3) := by decide +kernel
theorem wd_K_law_438 : decode code 438 = .ok (.aload_n 1, 1) := by decide +kernel
theorem wd_K_law_439 : decode code 439 = .ok (.aload_n 0, 1) := by decide +kernel
theorem wd_K_law_440 : decode code 440 = .ok (.iload 4, 2) := by decide +kernel
theorem wd_K_law_442 : decode code 442 = .ok (.iconst 1, 1) := by decide +kernel
theorem wd_K_law_443 : decode code 443 = .ok (.iadd, 1) := by decide +kernel
theorem wd_K_law_444 : decode code 444 = .ok (.iaload, 1) := by decide +kernel
theorem wd_K_law_445 : decode code 445 = .ok (.aload_n 3, 1) := by decide +kernel
theorem wd_K_law_446 : decode code 446 = .ok (.invokestatic 100, 3) := by decide +kernel
theorem wd_K_law_449 : decode code 449 = .ok (.istore 5, 2) := by decide +kernel
theorem wd_K_law_451 : decode code 451 = .ok (.aload_n 2, 1) := by decide +kernel
theorem wd_K_law_452 : decode code 452 = .ok (.aload_n 0, 1) := by decide +kernel
theorem wd_K_law_453 : decode code 453 = .ok (.iload 4, 2) := by decide +kernel
theorem wd_K_law_455 : decode code 455 = .ok (.iconst 1, 1) := by decide +kernel
theorem wd_K_law_456 : decode code 456 = .ok (.iadd, 1) := by decide +kernel
theorem wd_K_law_457 : decode code 457 = .ok (.iaload, 1) := by decide +kernel
theorem wd_K_law_458 : decode code 458 = .ok (.invokevirtual 103, 3) := by decide +kernel
theorem wd_K_law_461 : decode code 461 = .ok (.istore 6, 2) := by decide +kernel
theorem wd_K_law_463 : decode code 463 = .ok (.goto 241, 3) := by decide +kernel
theorem wd_K_law_466 : decode code 466 = .ok (.aload_n 1, 1) := by decide +kernel
theorem wd_K_law_467 : decode code 467 = .ok (.aload_n 3, 1) := by decide +kernel
theorem wd_K_law_468 : decode code 468 = .ok (.invokestatic 104, 3) := by decide +kernel
theorem wd_K_law_471 : decode code 471 = .ok (.istore 5, 2) := by decide +kernel
theorem wd_K_law_473 : decode code 473 = .ok (.aload_n 2, 1) := by decide +kernel
theorem wd_K_law_474 : decode code 474 = .ok (.invokevirtual 107, 3) := by decide +kernel
theorem wd_K_law_477 : decode code 477 = .ok (.istore 6, 2) := by decide +kernel
theorem wd_K_law_479 : decode code 479 = .ok (.goto 225, 3) := by decide +kernel
theorem wd_K_law_482 : decode code 482 = .ok (.aload_n 1, 1) := by decide +kernel
theorem wd_K_law_483 : decode code 483 = .ok (.aload_n 0, 1) := by decide +kernel
theorem wd_K_law_484 : decode code 484 = .ok (.iload 4, 2) := by decide +kernel
theorem wd_K_law_486 : decode code 486 = .ok (.iconst 1, 1) := by decide +kernel
theorem wd_K_law_487 : decode code 487 = .ok (.iadd, 1) := by decide +kernel
theorem wd_K_law_488 : decode code 488 = .ok (.iaload, 1) := by decide +kernel
theorem wd_K_law_489 : decode code 489 = .ok (.aload_n 3, 1) := by decide +kernel
theorem wd_K_law_490 : decode code 490 = .ok (.invokestatic 108, 3) := by decide +kernel
theorem wd_K_law_493 : decode code 493 = .ok (.istore 5, 2) := by decide +kernel
theorem wd_K_law_495 : decode code 495 = .ok (.aload_n 2, 1) := by decide +kernel
theorem wd_K_law_496 : decode code 496 = .ok (.aload_n 0, 1) := by decide +kernel
theorem wd_K_law_497 : decode code 497 = .ok (.iload 4, 2) := by decide +kernel
theorem wd_K_law_499 : decode code 499 = .ok (.iconst 1, 1) := by decide +kernel
theorem wd_K_law_500 : decode code 500 = .ok (.iadd, 1) := by decide +kernel
theorem wd_K_law_501 : decode code 501 = .ok (.iaload, 1) := by decide +kernel
theorem wd_K_law_502 : decode code 502 = .ok (.invokevirtual 110, 3) := by decide +kernel
theorem wd_K_law_505 : decode code 505 = .ok (.istore 6, 2) := by decide +kernel
theorem wd_K_law_507 : decode code 507 = .ok (.goto 197, 3) := by decide +kernel
theorem wd_K_law_510 : decode code 510 = .ok (.aload_n 1, 1) := by decide +kernel
theorem wd_K_law_511 : decode code 511 = .ok (.aload_n 0, 1) := by decide +kernel
theorem wd_K_law_512 : decode code 512 = .ok (.iload 4, 2) := by decide +kernel
theorem wd_K_law_514 : decode code 514 = .ok (.iconst 1, 1) := by decide +kernel
theorem wd_K_law_515 : decode code 515 = .ok (.iadd, 1) := by decide +kernel
theorem wd_K_law_516 : decode code 516 = .ok (.iaload, 1) := by decide +kernel
theorem wd_K_law_517 : decode code 517 = .ok (.aload_n 3, 1) := by decide +kernel
theorem wd_K_law_518 : decode code 518 = .ok (.invokestatic 111, 3) := by decide +kernel
theorem wd_K_law_521 : decode code 521 = .ok (.istore 5, 2) := by decide +kernel
theorem wd_K_law_523 : decode code 523 = .ok (.aload_n 2, 1) := by decide +kernel
theorem wd_K_law_524 : decode code 524 = .ok (.aload_n 0, 1) := by decide +kernel
theorem wd_K_law_525 : decode code 525 = .ok (.iload 4, 2) := by decide +kernel
theorem wd_K_law_527 : decode code 527 = .ok (.iconst 1, 1) := by decide +kernel
theorem wd_K_law_528 : decode code 528 = .ok (.iadd, 1) := by decide +kernel
theorem wd_K_law_529 : decode code 529 = .ok (.iaload, 1) := by decide +kernel
theorem wd_K_law_530 : decode code 530 = .ok (.invokevirtual 113, 3) := by decide +kernel
theorem wd_K_law_533 : decode code 533 = .ok (.istore 6, 2) := by decide +kernel
theorem wd_K_law_535 : decode code 535 = .ok (.goto 169, 3) := by decide +kernel
theorem wd_K_law_538 : decode code 538 = .ok (.aload_n 1, 1) := by decide +kernel
theorem wd_K_law_539 : decode code 539 = .ok (.aload_n 0, 1) := by decide +kernel
theorem wd_K_law_540 : decode code 540 = .ok (.iload 4, 2) := by decide +kernel
theorem wd_K_law_542 : decode code 542 = .ok (.iconst 1, 1) := by decide +kernel
theorem wd_K_law_543 : decode code 543 = .ok (.iadd, 1) := by decide +kernel
theorem wd_K_law_544 : decode code 544 = .ok (.iaload, 1) := by decide +kernel
theorem wd_K_law_545 : decode code 545 = .ok (.aload_n 3, 1) := by decide +kernel
theorem wd_K_law_546 : decode code 546 = .ok (.invokestatic 114, 3) := by decide +kernel
theorem wd_K_law_549 : decode code 549 = .ok (.istore 5, 2) := by decide +kernel
theorem wd_K_law_551 : decode code 551 = .ok (.aload_n 2, 1) := by decide +kernel
theorem wd_K_law_552 : decode code 552 = .ok (.aload_n 0, 1) := by decide +kernel
theorem wd_K_law_553 : decode code 553 = .ok (.iload 4, 2) := by decide +kernel
theorem wd_K_law_555 : decode code 555 = .ok (.iconst 1, 1) := by decide +kernel
theorem wd_K_law_556 : decode code 556 = .ok (.iadd, 1) := by decide +kernel
theorem wd_K_law_557 : decode code 557 = .ok (.iaload, 1) := by decide +kernel
theorem wd_K_law_558 : decode code 558 = .ok (.invokevirtual 116, 3) := by decide +kernel
theorem wd_K_law_561 : decode code 561 = .ok (.istore 6, 2) := by decide +kernel
theorem wd_K_law_563 : decode code 563 = .ok (.goto 141, 3) := by decide +kernel
theorem wd_K_law_566 : decode code 566 = .ok (.aload_n 1, 1) := by decide +kernel
theorem wd_K_law_567 : decode code 567 = .ok (.aload_n 0, 1) := by decide +kernel
theorem wd_K_law_568 : decode code 568 = .ok (.iload 4, 2) := by decide +kernel
theorem wd_K_law_570 : decode code 570 = .ok (.iconst 1, 1) := by decide +kernel
theorem wd_K_law_571 : decode code 571 = .ok (.iadd, 1) := by decide +kernel
theorem wd_K_law_572 : decode code 572 = .ok (.iaload, 1) := by decide +kernel
theorem wd_K_law_573 : decode code 573 = .ok (.aload_n 0, 1) := by decide +kernel
theorem wd_K_law_574 : decode code 574 = .ok (.iload 4, 2) := by decide +kernel
theorem wd_K_law_576 : decode code 576 = .ok (.iconst 2, 1) := by decide +kernel
theorem wd_K_law_577 : decode code 577 = .ok (.iadd, 1) := by decide +kernel
theorem wd_K_law_578 : decode code 578 = .ok (.iaload, 1) := by decide +kernel
theorem wd_K_law_579 : decode code 579 = .ok (.aload_n 3, 1) := by decide +kernel
theorem wd_K_law_580 : decode code 580 = .ok (.invokestatic 117, 3) := by decide +kernel
theorem wd_K_law_583 : decode code 583 = .ok (.istore 5, 2) := by decide +kernel
theorem wd_K_law_585 : decode code 585 = .ok (.aload_n 2, 1) := by decide +kernel
theorem wd_K_law_586 : decode code 586 = .ok (.aload_n 0, 1) := by decide +kernel
theorem wd_K_law_587 : decode code 587 = .ok (.iload 4, 2) := by decide +kernel
theorem wd_K_law_589 : decode code 589 = .ok (.iconst 1, 1) := by decide +kernel
theorem wd_K_law_590 : decode code 590 = .ok (.iadd, 1) := by decide +kernel
theorem wd_K_law_591 : decode code 591 = .ok (.iaload, 1) := by decide +kernel
theorem wd_K_law_592 : decode code 592 = .ok (.aload_n 0, 1) := by decide +kernel
theorem wd_K_law_593 : decode code 593 = .ok (.iload 4, 2) := by decide +kernel
theorem wd_K_law_595 : decode code 595 = .ok (.iconst 2, 1) := by decide +kernel
theorem wd_K_law_596 : decode code 596 = .ok (.iadd, 1) := by decide +kernel
theorem wd_K_law_597 : decode code 597 = .ok (.iaload, 1) := by decide +kernel
theorem wd_K_law_598 : decode code 598 = .ok (.invokevirtual 120, 3) := by decide +kernel
theorem wd_K_law_601 : decode code 601 = .ok (.istore 6, 2) := by decide +kernel
theorem wd_K_law_603 : decode code 603 = .ok (.goto 101, 3) := by decide +kernel
theorem wd_K_law_606 : decode code 606 = .ok (.aload_n 1, 1) := by decide +kernel
theorem wd_K_law_607 : decode code 607 = .ok (.invokevirtual 121, 3) := by decide +kernel
theorem wd_K_law_610 : decode code 610 = .ok (.pop, 1) := by decide +kernel
theorem wd_K_law_611 : decode code 611 = .ok (.aload_n 2, 1) := by decide +kernel
theorem wd_K_law_612 : decode code 612 = .ok (.invokevirtual 124, 3) := by decide +kernel
theorem wd_K_law_615 : decode code 615 = .ok (.pop, 1) := by decide +kernel
theorem wd_K_law_616 : decode code 616 = .ok (.goto 88, 3) := by decide +kernel
theorem wd_K_law_619 : decode code 619 = .ok (.aload_n 1, 1) := by decide +kernel
theorem wd_K_law_620 : decode code 620 = .ok (.aload_n 0, 1) := by decide +kernel
theorem wd_K_law_621 : decode code 621 = .ok (.iload 4, 2) := by decide +kernel
theorem wd_K_law_623 : decode code 623 = .ok (.iconst 1, 1) := by decide +kernel
theorem wd_K_law_624 : decode code 624 = .ok (.iadd, 1) := by decide +kernel
theorem wd_K_law_625 : decode code 625 = .ok (.iaload, 1) := by decide +kernel
theorem wd_K_law_626 : decode code 626 = .ok (.i2l, 1) := by decide +kernel
theorem wd_K_law_627 : decode code 627 = .ok (.bipush 32, 2) := by decide +kernel
theorem wd_K_law_629 : decode code 629 = .ok (.lshl, 1) := by decide +kernel
theorem wd_K_law_630 : decode code 630 = .ok (.aload_n 0, 1) := by decide +kernel
theorem wd_K_law_631 : decode code 631 = .ok (.iload 4, 2) := by decide +kernel
theorem wd_K_law_633 : decode code 633 = .ok (.iconst 2, 1) := by decide +kernel
theorem wd_K_law_634 : decode code 634 = .ok (.iadd, 1) := by decide +kernel
theorem wd_K_law_635 : decode code 635 = .ok (.iaload, 1) := by decide +kernel
theorem wd_K_law_636 : decode code 636 = .ok (.i2l, 1) := by decide +kernel
theorem wd_K_law_637 : decode code 637 = .ok (.ldc2_w 125, 3) := by decide +kernel
theorem wd_K_law_640 : decode code 640 = .ok (.land, 1) := by decide +kernel
theorem wd_K_law_641 : decode code 641 = .ok (.lor, 1) := by decide +kernel
theorem wd_K_law_642 : decode code 642 = .ok (.invokestatic 127, 3) := by decide +kernel
theorem wd_K_law_645 : decode code 645 = .ok (.istore 5, 2) := by decide +kernel
theorem wd_K_law_647 : decode code 647 = .ok (.aload_n 2, 1) := by decide +kernel
theorem wd_K_law_648 : decode code 648 = .ok (.aload_n 0, 1) := by decide +kernel
theorem wd_K_law_649 : decode code 649 = .ok (.iload 4, 2) := by decide +kernel
theorem wd_K_law_651 : decode code 651 = .ok (.iconst 1, 1) := by decide +kernel
theorem wd_K_law_652 : decode code 652 = .ok (.iadd, 1) := by decide +kernel
theorem wd_K_law_653 : decode code 653 = .ok (.iaload, 1) := by decide +kernel
theorem wd_K_law_654 : decode code 654 = .ok (.i2l, 1) := by decide +kernel
theorem wd_K_law_655 : decode code 655 = .ok (.bipush 32, 2) := by decide +kernel
theorem wd_K_law_657 : decode code 657 = .ok (.lshl, 1) := by decide +kernel
theorem wd_K_law_658 : decode code 658 = .ok (.aload_n 0, 1) := by decide +kernel
theorem wd_K_law_659 : decode code 659 = .ok (.iload 4, 2) := by decide +kernel
theorem wd_K_law_661 : decode code 661 = .ok (.iconst 2, 1) := by decide +kernel
theorem wd_K_law_662 : decode code 662 = .ok (.iadd, 1) := by decide +kernel
theorem wd_K_law_663 : decode code 663 = .ok (.iaload, 1) := by decide +kernel
theorem wd_K_law_664 : decode code 664 = .ok (.i2l, 1) := by decide +kernel
theorem wd_K_law_665 : decode code 665 = .ok (.ldc2_w 125, 3) := by decide +kernel
theorem wd_K_law_668 : decode code 668 = .ok (.land, 1) := by decide +kernel
theorem wd_K_law_669 : decode code 669 = .ok (.lor, 1) := by decide +kernel
theorem wd_K_law_670 : decode code 670 = .ok (.invokevirtual 130, 3) := by decide +kernel
theorem wd_K_law_673 : decode code 673 = .ok (.goto 31, 3) := by decide +kernel
theorem wd_K_law_676 : decode code 676 = .ok (.aload_n 1, 1) := by decide +kernel
theorem wd_K_law_677 : decode code 677 = .ok (.aload_n 0, 1) := by decide +kernel
theorem wd_K_law_678 : decode code 678 = .ok (.iload 4, 2) := by decide +kernel
theorem wd_K_law_680 : decode code 680 = .ok (.iconst 1, 1) := by decide +kernel
theorem wd_K_law_681 : decode code 681 = .ok (.iadd, 1) := by decide +kernel
theorem wd_K_law_682 : decode code 682 = .ok (.iaload, 1) := by decide +kernel
theorem wd_K_law_683 : decode code 683 = .ok (.aload_n 3, 1) := by decide +kernel
theorem wd_K_law_684 : decode code 684 = .ok (.invokestatic 131, 3) := by decide +kernel
theorem wd_K_law_687 : decode code 687 = .ok (.istore 5, 2) := by decide +kernel
theorem wd_K_law_689 : decode code 689 = .ok (.aload_n 2, 1) := by decide +kernel
theorem wd_K_law_690 : decode code 690 = .ok (.aload_n 0, 1) := by decide +kernel
theorem wd_K_law_691 : decode code 691 = .ok (.iload 4, 2) := by decide +kernel
theorem wd_K_law_693 : decode code 693 = .ok (.iconst 1, 1) := by decide +kernel
theorem wd_K_law_694 : decode code 694 = .ok (.iadd, 1) := by decide +kernel
theorem wd_K_law_695 : decode code 695 = .ok (.iaload, 1) := by decide +kernel
theorem wd_K_law_696 : decode code 696 = .ok (.invokevirtual 133, 3) := by decide +kernel
theorem wd_K_law_699 : decode code 699 = .ok (.istore 6, 2) := by decide +kernel
theorem wd_K_law_701 : decode code 701 = .ok (.goto 3, 3) := by decide +kernel
theorem wd_K_law_704 : decode code 704 = .ok (.iinc 4 5, 3) := by decide +kernel
theorem wd_K_law_707 : decode code 707 = .ok (.goto (-684), 3) := by decide +kernel
theorem wd_K_law_710 : decode code 710 = .ok (.iconst 1, 1) := by decide +kernel
theorem wd_K_law_711 : decode code 711 = .ok (.ireturn, 1) := by decide +kernel
def wf_law_704 (L : Nat) (xs : Nat → Int32) (k23 : Nat → Int32 → wc_S → Option (Int32 × wc_S)) (t : Nat) (x4 : Int32) (σ : wc_S) : Option (Int32 × wc_S) :=
wc_st (x4 + 5) fun v35 =>
k23 (t + 1) v35 σ
def wf_law_112 (L : Nat) (xs : Nat → Int32) (k23 : Nat → Int32 → wc_S → Option (Int32 × wc_S)) (t : Nat) (x4 : Int32) (σ : wc_S) : Option (Int32 × wc_S) :=
wc_st (x4 + 1) fun v7 =>
wc_gd (wc_in v7 L) (
wc_st (xs v7.toNatClampNeg) fun v9 =>
wc_st (x4 + 2) fun v10 =>
wc_gd (wc_in v10 L) (
wc_st (xs v10.toNatClampNeg) fun v12 =>
wc_st (x4 + 3) fun v13 =>
wc_gd (wc_in v13 L) (
wc_st (xs v13.toNatClampNeg) fun v15 =>
wc_st (x4 + 4) fun v16 =>
wc_gd (wc_in v16 L) (
wc_st (xs v16.toNatClampNeg) fun v18 =>
wc_b2 (wf_K_coil v9 v12 v15 v18 σ) fun r20 σ19 =>
wc_st (x4 + 1) fun v21 =>
wc_gd (wc_in v21 L) (
wc_st (xs v21.toNatClampNeg) fun v23 =>
wc_st (x4 + 2) fun v24 =>
wc_gd (wc_in v24 L) (
wc_st (xs v24.toNatClampNeg) fun v26 =>
wc_st (x4 + 3) fun v27 =>
wc_gd (wc_in v27 L) (
wc_st (xs v27.toNatClampNeg) fun v29 =>
wc_st (x4 + 4) fun v30 =>
wc_gd (wc_in v30 L) (
wc_st (xs v30.toNatClampNeg) fun v32 =>
wc_b2 (wf_M_coil v23 v26 v29 v32 σ19) fun r34 σ33 =>
wf_law_704 L xs k23 t x4 σ33))))))))
def wf_law_176 (L : Nat) (xs : Nat → Int32) (k23 : Nat → Int32 → wc_S → Option (Int32 × wc_S)) (t : Nat) (x4 : Int32) (σ : wc_S) : Option (Int32 × wc_S) :=
wc_st (x4 + 1) fun v36 =>
wc_gd (wc_in v36 L) (
wc_st (xs v36.toNatClampNeg) fun v38 =>
wc_st (x4 + 2) fun v39 =>
wc_gd (wc_in v39 L) (
wc_st (xs v39.toNatClampNeg) fun v41 =>
wc_st (x4 + 3) fun v42 =>
wc_gd (wc_in v42 L) (
wc_st (xs v42.toNatClampNeg) fun v44 =>
wc_st (x4 + 4) fun v45 =>
wc_gd (wc_in v45 L) (
wc_st (xs v45.toNatClampNeg) fun v47 =>
wc_b2 (wf_K_table v38 v41 v44 v47 σ) fun r49 σ48 =>
wc_st (x4 + 1) fun v50 =>
wc_gd (wc_in v50 L) (
wc_st (xs v50.toNatClampNeg) fun v52 =>
wc_st (x4 + 2) fun v53 =>
wc_gd (wc_in v53 L) (
wc_st (xs v53.toNatClampNeg) fun v55 =>
wc_st (x4 + 3) fun v56 =>
wc_gd (wc_in v56 L) (
wc_st (xs v56.toNatClampNeg) fun v58 =>
wc_st (x4 + 4) fun v59 =>
wc_gd (wc_in v59 L) (
wc_st (xs v59.toNatClampNeg) fun v61 =>
wc_b2 (wf_M_table v52 v55 v58 v61 σ48) fun r63 σ62 =>
wf_law_704 L xs k23 t x4 σ62))))))))
def wf_law_240 (L : Nat) (xs : Nat → Int32) (k23 : Nat → Int32 → wc_S → Option (Int32 × wc_S)) (t : Nat) (x4 : Int32) (σ : wc_S) : Option (Int32 × wc_S) :=
wc_st (x4 + 1) fun v64 =>
wc_gd (wc_in v64 L) (
wc_st (xs v64.toNatClampNeg) fun v66 =>
wc_st (x4 + 2) fun v67 =>
wc_gd (wc_in v67 L) (
wc_st (xs v67.toNatClampNeg) fun v69 =>
wc_st (x4 + 3) fun v70 =>
wc_gd (wc_in v70 L) (
wc_st (xs v70.toNatClampNeg) fun v72 =>
wc_b2 (wf_K_group v66 v69 v72 σ) fun r74 σ73 =>
wc_st (x4 + 1) fun v75 =>
wc_gd (wc_in v75 L) (
wc_st (xs v75.toNatClampNeg) fun v77 =>
wc_st (x4 + 2) fun v78 =>
wc_gd (wc_in v78 L) (
wc_st (xs v78.toNatClampNeg) fun v80 =>
wc_st (x4 + 3) fun v81 =>
wc_gd (wc_in v81 L) (
wc_st (xs v81.toNatClampNeg) fun v83 =>
wc_b2 (wf_M_group v77 v80 v83 σ73) fun r85 σ84 =>
wf_law_704 L xs k23 t x4 σ84))))))
def wf_law_292 (L : Nat) (xs : Nat → Int32) (k23 : Nat → Int32 → wc_S → Option (Int32 × wc_S)) (t : Nat) (x4 : Int32) (σ : wc_S) : Option (Int32 × wc_S) :=
wc_st (x4 + 1) fun v86 =>
wc_gd (wc_in v86 L) (
wc_st (xs v86.toNatClampNeg) fun v88 =>
wc_st (x4 + 2) fun v89 =>
wc_gd (wc_in v89 L) (
wc_st (xs v89.toNatClampNeg) fun v91 =>
wc_b2 (wf_K_urgent v88 v91 σ) fun r93 σ92 =>
wc_st (x4 + 1) fun v94 =>
wc_gd (wc_in v94 L) (
wc_st (xs v94.toNatClampNeg) fun v96 =>
wc_st (x4 + 2) fun v97 =>
wc_gd (wc_in v97 L) (
wc_st (xs v97.toNatClampNeg) fun v99 =>
wc_b1 (wf_M_urgent v96 v99 σ92) fun σ100 =>
wf_law_704 L xs k23 t x4 σ100))))
def wf_law_329 (L : Nat) (xs : Nat → Int32) (k23 : Nat → Int32 → wc_S → Option (Int32 × wc_S)) (t : Nat) (x4 : Int32) (σ : wc_S) : Option (Int32 × wc_S) :=
wc_st (x4 + 1) fun v101 =>
wc_gd (wc_in v101 L) (
wc_st (xs v101.toNatClampNeg) fun v103 =>
wc_st (x4 + 2) fun v104 =>
wc_gd (wc_in v104 L) (
wc_st (xs v104.toNatClampNeg) fun v106 =>
wc_b2 (wf_K_old v103 v106 σ) fun r108 σ107 =>
wc_st (x4 + 1) fun v109 =>
wc_gd (wc_in v109 L) (
wc_st (xs v109.toNatClampNeg) fun v111 =>
wc_st (x4 + 2) fun v112 =>
wc_gd (wc_in v112 L) (
wc_st (xs v112.toNatClampNeg) fun v114 =>
wc_b1 (wf_M_old v111 v114 σ107) fun σ115 =>
wc_b2 (wf_M_thrown σ115) fun r117 σ116 =>
if r117 = r108 then (
wf_law_704 L xs k23 t x4 σ116) else (
some (0, σ116))))))
def wf_law_377 (L : Nat) (xs : Nat → Int32) (k23 : Nat → Int32 → wc_S → Option (Int32 × wc_S)) (t : Nat) (x4 : Int32) (σ : wc_S) : Option (Int32 × wc_S) :=
wc_st (x4 + 1) fun v119 =>
wc_gd (wc_in v119 L) (
wc_st (xs v119.toNatClampNeg) fun v121 =>
wc_st (x4 + 2) fun v122 =>
wc_gd (wc_in v122 L) (
wc_st (xs v122.toNatClampNeg) fun v124 =>
wc_st (x4 + 3) fun v125 =>
wc_gd (wc_in v125 L) (
wc_st (xs v125.toNatClampNeg) fun v127 =>
wc_st (x4 + 4) fun v128 =>
wc_gd (wc_in v128 L) (
wc_st (xs v128.toNatClampNeg) fun v130 =>
wc_b2 (wf_K_rules v121 v124 v127 v130 σ) fun r132 σ131 =>
wc_st (x4 + 1) fun v133 =>
wc_gd (wc_in v133 L) (
wc_st (xs v133.toNatClampNeg) fun v135 =>
wc_st (x4 + 2) fun v136 =>
wc_gd (wc_in v136 L) (
wc_st (xs v136.toNatClampNeg) fun v138 =>
wc_st (x4 + 3) fun v139 =>
wc_gd (wc_in v139 L) (
wc_st (xs v139.toNatClampNeg) fun v141 =>
wc_st (x4 + 4) fun v142 =>
wc_gd (wc_in v142 L) (
wc_st (xs v142.toNatClampNeg) fun v144 =>
wc_b1 (wf_M_rules v135 v138 v141 v144 σ131) fun σ145 =>
wf_law_704 L xs k23 t x4 σ145))))))))
def wf_law_438 (L : Nat) (xs : Nat → Int32) (k23 : Nat → Int32 → wc_S → Option (Int32 × wc_S)) (t : Nat) (x4 : Int32) (σ : wc_S) : Option (Int32 × wc_S) :=
wc_st (x4 + 1) fun v146 =>
wc_gd (wc_in v146 L) (
wc_st (xs v146.toNatClampNeg) fun v148 =>
wc_b2 (wf_K_run v148 σ) fun r150 σ149 =>
wc_st (x4 + 1) fun v151 =>
wc_gd (wc_in v151 L) (
wc_st (xs v151.toNatClampNeg) fun v153 =>
wc_b2 (wf_M_run v153 σ149) fun r155 σ154 =>
wf_law_704 L xs k23 t x4 σ154))
def wf_law_466 (L : Nat) (xs : Nat → Int32) (k23 : Nat → Int32 → wc_S → Option (Int32 × wc_S)) (t : Nat) (x4 : Int32) (σ : wc_S) : Option (Int32 × wc_S) :=
wc_b2 (wf_K_proved σ) fun r157 σ156 =>
wc_b2 (wf_M_proved σ156) fun r159 σ158 =>
wf_law_704 L xs k23 t x4 σ158
def wf_law_482 (L : Nat) (xs : Nat → Int32) (k23 : Nat → Int32 → wc_S → Option (Int32 × wc_S)) (t : Nat) (x4 : Int32) (σ : wc_S) : Option (Int32 × wc_S) :=
wc_st (x4 + 1) fun v160 =>
wc_gd (wc_in v160 L) (
wc_st (xs v160.toNatClampNeg) fun v162 =>
wc_b2 (wf_K_order v162 σ) fun r164 σ163 =>
wc_st (x4 + 1) fun v165 =>
wc_gd (wc_in v165 L) (
wc_st (xs v165.toNatClampNeg) fun v167 =>
wc_b2 (wf_M_order v167 σ163) fun r169 σ168 =>
wf_law_704 L xs k23 t x4 σ168))
def wf_law_510 (L : Nat) (xs : Nat → Int32) (k23 : Nat → Int32 → wc_S → Option (Int32 × wc_S)) (t : Nat) (x4 : Int32) (σ : wc_S) : Option (Int32 × wc_S) :=
wc_st (x4 + 1) fun v170 =>
wc_gd (wc_in v170 L) (
wc_st (xs v170.toNatClampNeg) fun v172 =>
wc_b2 (wf_K_told v172 σ) fun r174 σ173 =>
wc_st (x4 + 1) fun v175 =>
wc_gd (wc_in v175 L) (
wc_st (xs v175.toNatClampNeg) fun v177 =>
wc_b2 (wf_M_told v177 σ173) fun r179 σ178 =>
wf_law_704 L xs k23 t x4 σ178))
def wf_law_538 (L : Nat) (xs : Nat → Int32) (k23 : Nat → Int32 → wc_S → Option (Int32 × wc_S)) (t : Nat) (x4 : Int32) (σ : wc_S) : Option (Int32 × wc_S) :=
wc_st (x4 + 1) fun v180 =>
wc_gd (wc_in v180 L) (
wc_st (xs v180.toNatClampNeg) fun v182 =>
wc_b2 (wf_K_change v182 σ) fun r184 σ183 =>
wc_st (x4 + 1) fun v185 =>
wc_gd (wc_in v185 L) (
wc_st (xs v185.toNatClampNeg) fun v187 =>
wc_b2 (wf_M_change v187 σ183) fun r189 σ188 =>
wf_law_704 L xs k23 t x4 σ188))
def wf_law_566 (L : Nat) (xs : Nat → Int32) (k23 : Nat → Int32 → wc_S → Option (Int32 × wc_S)) (t : Nat) (x4 : Int32) (σ : wc_S) : Option (Int32 × wc_S) :=
wc_st (x4 + 1) fun v190 =>
wc_gd (wc_in v190 L) (
wc_st (xs v190.toNatClampNeg) fun v192 =>
wc_st (x4 + 2) fun v193 =>
wc_gd (wc_in v193 L) (
wc_st (xs v193.toNatClampNeg) fun v195 =>
wc_b2 (wf_K_jump v192 v195 σ) fun r197 σ196 =>
wc_st (x4 + 1) fun v198 =>
wc_gd (wc_in v198 L) (
wc_st (xs v198.toNatClampNeg) fun v200 =>
wc_st (x4 + 2) fun v201 =>
wc_gd (wc_in v201 L) (
wc_st (xs v201.toNatClampNeg) fun v203 =>
wc_b2 (wf_M_jump v200 v203 σ196) fun r205 σ204 =>
wf_law_704 L xs k23 t x4 σ204))))
def wf_law_606 (L : Nat) (xs : Nat → Int32) (k23 : Nat → Int32 → wc_S → Option (Int32 × wc_S)) (t : Nat) (x4 : Int32) (σ : wc_S) : Option (Int32 × wc_S) :=
wc_b2 (wf_W_bound σ) fun r207 σ206 =>
wc_b2 (wf_M_bound σ206) fun r209 σ208 =>
wf_law_704 L xs k23 t x4 σ208
def wf_law_619 (L : Nat) (xs : Nat → Int32) (k23 : Nat → Int32 → wc_S → Option (Int32 × wc_S)) (t : Nat) (x4 : Int32) (σ : wc_S) : Option (Int32 × wc_S) :=
wc_st (x4 + 1) fun v210 =>
wc_gd (wc_in v210 L) (
wc_st (xs v210.toNatClampNeg) fun v212 =>
wc_st v212.toInt64 fun v213 =>
wc_st (v213 <<< ((32 : Int32).toInt64 &&& 63)) fun v214 =>
wc_st (x4 + 2) fun v215 =>
wc_gd (wc_in v215 L) (
wc_st (xs v215.toNatClampNeg) fun v217 =>
wc_st v217.toInt64 fun v218 =>
wc_st (v218 &&& 4294967295) fun v219 =>
wc_st (v214 ||| v219) fun v220 =>
wc_b2 (wf_K_tell v220 σ) fun r222 σ221 =>
wc_st (x4 + 1) fun v223 =>
wc_gd (wc_in v223 L) (
wc_st (xs v223.toNatClampNeg) fun v225 =>
wc_st v225.toInt64 fun v226 =>
wc_st (v226 <<< ((32 : Int32).toInt64 &&& 63)) fun v227 =>
wc_st (x4 + 2) fun v228 =>
wc_gd (wc_in v228 L) (
wc_st (xs v228.toNatClampNeg) fun v230 =>
wc_st v230.toInt64 fun v231 =>
wc_st (v231 &&& 4294967295) fun v232 =>
wc_st (v227 ||| v232) fun v233 =>
wc_b1 (wf_M_tell v233 σ221) fun σ234 =>
wf_law_704 L xs k23 t x4 σ234))))
def wf_law_676 (L : Nat) (xs : Nat → Int32) (k23 : Nat → Int32 → wc_S → Option (Int32 × wc_S)) (t : Nat) (x4 : Int32) (σ : wc_S) : Option (Int32 × wc_S) :=
wc_st (x4 + 1) fun v235 =>
wc_gd (wc_in v235 L) (
wc_st (xs v235.toNatClampNeg) fun v237 =>
wc_b2 (wf_K_improve v237 σ) fun r239 σ238 =>
wc_st (x4 + 1) fun v240 =>
wc_gd (wc_in v240 L) (
wc_st (xs v240.toNatClampNeg) fun v242 =>
wc_b2 (wf_M_improve v242 σ238) fun r244 σ243 =>
wf_law_704 L xs k23 t x4 σ243))
def wf_law_23_b (L : Nat) (xs : Nat → Int32) (k23 : Nat → Int32 → wc_S → Option (Int32 × wc_S)) (t : Nat) (x4 : Int32) (σ : wc_S) : Option (Int32 × wc_S) :=
wc_gd (decide (t < 600)) (
wc_st (Int32.ofNat L) fun v1 =>
wc_st (v1 - 5) fun v2 =>
if v2 < x4 then (
some (1, σ)) else (
wc_gd (wc_in x4 L) (
wc_st (xs x4.toNatClampNeg) fun v5 =>
wc_st (v5 &&& 15) fun v6 =>
if v6 = 0 then (
wf_law_112 L xs k23 t x4 σ) else (
if v6 = 1 then (
wf_law_176 L xs k23 t x4 σ) else (
if v6 = 2 then (
wf_law_240 L xs k23 t x4 σ) else (
if v6 = 3 then (
wf_law_292 L xs k23 t x4 σ) else (
if v6 = 4 then (
wf_law_329 L xs k23 t x4 σ) else (
if v6 = 5 then (
wf_law_377 L xs k23 t x4 σ) else (
if v6 = 6 then (
wf_law_438 L xs k23 t x4 σ) else (
if v6 = 7 then (
wf_law_466 L xs k23 t x4 σ) else (
if v6 = 8 then (
wf_law_482 L xs k23 t x4 σ) else (
if v6 = 9 then (
wf_law_510 L xs k23 t x4 σ) else (
if v6 = 10 then (
wf_law_538 L xs k23 t x4 σ) else (
if v6 = 11 then (
wf_law_566 L xs k23 t x4 σ) else (
if v6 = 12 then (
wf_law_606 L xs k23 t x4 σ) else (
if v6 = 13 then (
wf_law_619 L xs k23 t x4 σ) else (
if v6 = 14 then (
wf_law_676 L xs k23 t x4 σ) else (
wf_law_704 L xs k23 t x4 σ))))))))))))))))))
def wf_law_23 (L : Nat) (xs : Nat → Int32) (n : Nat) : Nat → Int32 → wc_S → Option (Int32 × wc_S) := match n with
  | 0 => fun _ _ _ => none
  | n + 1 => wf_law_23_b L xs (wf_law_23 L xs n)
