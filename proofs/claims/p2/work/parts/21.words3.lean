/-! THE CLAIM OUT OF ONE WALK OF THE LAW'S BODY. Your part is whole_start (and what it stands on); all else here is the same for every law, but numbers. -/
def R_law : String := "WidthCampaignsLaw"
def lw_P (b : Addr) (xs : List Int32) (args : Array Value) (s : State) : Prop := args = #[.ref b] ∧ s.IntsAt b xs ∧ xs.length ≤ 2560 ∧ (Jvm.Cond.and given_1 narrow_1).before args s = true
def lw_Q (_ : Array Value) (s : State) (o : Outcome) (t : State) : Prop := o = .returned (some (.int 1)) ∧ Framed s o t [] 661080 7112863
def lw_Z (below : List Frame) (a : Array Value) (s : State) : State → Prop := fun t => ∃ o, t.status = .running ∧ Ended t below o ∧ lw_Q a s o t
/-- the law's own end, with 1 on the stack, nothing written that was there before, its room as the claim has it -/
theorem lw_ret {p : Program} {l : Launch} {e : Env} {s : State} {m : MethodId} {below : List Frame} {meth : Method} {c : Code} {b : Nat} (hx : p.tables.exec = Jvm.exec) (hb : c.code = code) (hr : meth.sig.returnType = ret) (hlocks : meth.locks = false) {pc : Nat} {H : Heap} {ls : Array Slot} (hdg : decode code pc = .ok (.ireturn, 1)) : W p l e room_1 s m #[Value.ref b] below meth c H [] 661080 7112863 (lw_Z below #[Value.ref b] s) (F0 m pc ls [.int 1]) := by
  intro T hT X
  obtain ⟨fs, hret, hrun, hended, hW, hframe⟩ := X.leave (v := some (.int 1)) (hlocks := hlocks) (fun h => by rw [hr] at h; cases h)
  have hmeth' : T.vm.method? m = some meth := X.method'
  refine ⟨T.setFrames fs, ?_, .returned (some (.int 1)), hrun, hended, rfl, ⟨_, rfl⟩, hW, hframe⟩
  jvm_step X.here [X.here.top, hx, hb, hdg, hmeth', hr, ret, narrow_b1]
  (try refine ⟨rfl, ?_⟩); (try refine ⟨rfl, ?_⟩)
  first | (intro acts; rw [hret _ acts rfl rfl rfl]) | rw [hret _ _ rfl rfl rfl]
  exact Steps.refl _
/-- what holds at the law's entry: the machine, the code, the tables' words (any of lw_tbl by 'hts w (by decide +kernel)'), the script of L ints xs at the cell b, what the Statement gives of the start (any of its parts by flat_of_before) -/
def lw_At (p : Program) (s : State) (m : MethodId) (meth : Method) (c : Code) (b L : Nat) (xs : Nat → Int32) : Prop :=
  p.tables.exec = Jvm.exec ∧ c.code = code ∧ meth.sig.returnType = ret ∧ c.maxLocals = 7 ∧ s.vm.findClass R_law = some m.cls ∧ (∀ w ∈ lw_tbl, w.before #[Value.ref b] s = true) ∧ va_X b L xs s s.heap ∧ b < s.heap.size ∧ meth.locks = false ∧ (Jvm.Cond.and given_1 narrow_1).before #[Value.ref b] s = true
/-! words that rows use -/
theorem wt_0 : (.initialized "WidthCampaignsLaw" : Cond) ∈ wx_all := wx_mem 44 (by decide +kernel) (by decide +kernel)
theorem wt_241 : (.methodLink "WidthCampaignsLaw" 121 ⟨"WidthCampaigns", "bound", "()I"⟩ : Cond) ∈ wx_all := wx_mem 285 (by decide +kernel) (by decide +kernel)
theorem wt_242 : (.instanceMethod ⟨"WidthCampaigns", "bound", "()I"⟩ : Cond) ∈ wx_all := wx_mem 286 (by decide +kernel) (by decide +kernel)
theorem wt_243 : (.selects "WidthCampaigns" ⟨"WidthCampaigns", "bound", "()I"⟩ ⟨"WidthCampaigns", "bound", "()I"⟩ : Cond) ∈ wx_all := wx_mem 287 (by decide +kernel) (by decide +kernel)
theorem wt_244 : (.code ⟨"WidthCampaigns", "bound", "()I"⟩ prog_1_method_14_code 5 (Option.some Jvm.ClassFile.FieldType.int) : Cond) ∈ wx_all := wx_mem 288 (by decide +kernel) (by decide +kernel)
theorem wt_252 : (.methodLink "WidthCampaignsLaw" 72 ⟨"WidthCampaignsLaw", "coil", "(LWidthCampaigns;IIII[J)I"⟩ : Cond) ∈ wx_all := wx_mem 296 (by decide +kernel) (by decide +kernel)
theorem wt_253 : (.static ⟨"WidthCampaignsLaw", "coil", "(LWidthCampaigns;IIII[J)I"⟩ : Cond) ∈ wx_all := wx_mem 297 (by decide +kernel) (by decide +kernel)
theorem wt_254 : (.codeWith ⟨"WidthCampaignsLaw", "coil", "(LWidthCampaigns;IIII[J)I"⟩ method_3_code 7 (Option.some Jvm.ClassFile.FieldType.int) [(0, 14, 17, 13), (0, 14, 21, 15)] : Cond) ∈ wx_all := wx_mem 298 (by decide +kernel) (by decide +kernel)
theorem wt_372 : (.methodLink "WidthCampaignsLaw" 82 ⟨"WidthCampaignsLaw", "table", "(LWidthCampaigns;IIII[J)I"⟩ : Cond) ∈ wx_all := wx_mem 416 (by decide +kernel) (by decide +kernel)
theorem wt_373 : (.static ⟨"WidthCampaignsLaw", "table", "(LWidthCampaigns;IIII[J)I"⟩ : Cond) ∈ wx_all := wx_mem 417 (by decide +kernel) (by decide +kernel)
theorem wt_374 : (.codeWith ⟨"WidthCampaignsLaw", "table", "(LWidthCampaigns;IIII[J)I"⟩ method_4_code 7 (Option.some Jvm.ClassFile.FieldType.int) [(0, 14, 17, 20), (0, 14, 21, 13), (0, 14, 25, 15)] : Cond) ∈ wx_all := wx_mem 418 (by decide +kernel) (by decide +kernel)
theorem wt_403 : (.methodLink "WidthCampaignsLaw" 85 ⟨"WidthCampaignsLaw", "group", "(LWidthCampaigns;III[J)I"⟩ : Cond) ∈ wx_all := wx_mem 447 (by decide +kernel) (by decide +kernel)
theorem wt_404 : (.static ⟨"WidthCampaignsLaw", "group", "(LWidthCampaigns;III[J)I"⟩ : Cond) ∈ wx_all := wx_mem 448 (by decide +kernel) (by decide +kernel)
theorem wt_405 : (.codeWith ⟨"WidthCampaignsLaw", "group", "(LWidthCampaigns;III[J)I"⟩ method_5_code 6 (Option.some Jvm.ClassFile.FieldType.int) [(0, 12, 15, 13), (0, 12, 19, 15)] : Cond) ∈ wx_all := wx_mem 449 (by decide +kernel) (by decide +kernel)
theorem wt_416 : (.methodLink "WidthCampaignsLaw" 89 ⟨"WidthCampaignsLaw", "urgent", "(LWidthCampaigns;II)I"⟩ : Cond) ∈ wx_all := wx_mem 460 (by decide +kernel) (by decide +kernel)
theorem wt_417 : (.static ⟨"WidthCampaignsLaw", "urgent", "(LWidthCampaigns;II)I"⟩ : Cond) ∈ wx_all := wx_mem 461 (by decide +kernel) (by decide +kernel)
theorem wt_418 : (.codeWith ⟨"WidthCampaignsLaw", "urgent", "(LWidthCampaigns;II)I"⟩ method_6_code 4 (Option.some Jvm.ClassFile.FieldType.int) [(0, 6, 9, 20), (0, 6, 12, 13)] : Cond) ∈ wx_all := wx_mem 462 (by decide +kernel) (by decide +kernel)
theorem wt_429 : (.methodLink "WidthCampaignsLaw" 93 ⟨"WidthCampaignsLaw", "old", "(LWidthCampaigns;II)I"⟩ : Cond) ∈ wx_all := wx_mem 473 (by decide +kernel) (by decide +kernel)
theorem wt_430 : (.static ⟨"WidthCampaignsLaw", "old", "(LWidthCampaigns;II)I"⟩ : Cond) ∈ wx_all := wx_mem 474 (by decide +kernel) (by decide +kernel)
theorem wt_431 : (.codeWith ⟨"WidthCampaignsLaw", "old", "(LWidthCampaigns;II)I"⟩ method_7_code 4 (Option.some Jvm.ClassFile.FieldType.int) [(0, 6, 9, 20), (0, 6, 12, 13)] : Cond) ∈ wx_all := wx_mem 475 (by decide +kernel) (by decide +kernel)
theorem wt_437 : (.methodLink "WidthCampaignsLaw" 96 ⟨"WidthCampaignsLaw", "rules", "(LWidthCampaigns;IIII)I"⟩ : Cond) ∈ wx_all := wx_mem 481 (by decide +kernel) (by decide +kernel)
theorem wt_438 : (.static ⟨"WidthCampaignsLaw", "rules", "(LWidthCampaigns;IIII)I"⟩ : Cond) ∈ wx_all := wx_mem 482 (by decide +kernel) (by decide +kernel)
theorem wt_439 : (.codeWith ⟨"WidthCampaignsLaw", "rules", "(LWidthCampaigns;IIII)I"⟩ method_8_code 6 (Option.some Jvm.ClassFile.FieldType.int) [(0, 9, 12, 13)] : Cond) ∈ wx_all := wx_mem 483 (by decide +kernel) (by decide +kernel)
theorem wt_445 : (.methodLink "WidthCampaignsLaw" 100 ⟨"WidthCampaignsLaw", "run", "(LWidthCampaigns;I[J)I"⟩ : Cond) ∈ wx_all := wx_mem 489 (by decide +kernel) (by decide +kernel)
theorem wt_446 : (.static ⟨"WidthCampaignsLaw", "run", "(LWidthCampaigns;I[J)I"⟩ : Cond) ∈ wx_all := wx_mem 490 (by decide +kernel) (by decide +kernel)
theorem wt_447 : (.codeWith ⟨"WidthCampaignsLaw", "run", "(LWidthCampaigns;I[J)I"⟩ method_9_code 4 (Option.some Jvm.ClassFile.FieldType.int) [(0, 9, 12, 13)] : Cond) ∈ wx_all := wx_mem 491 (by decide +kernel) (by decide +kernel)
theorem wt_521 : (.methodLink "WidthCampaignsLaw" 104 ⟨"WidthCampaignsLaw", "proved", "(LWidthCampaigns;[J)I"⟩ : Cond) ∈ wx_all := wx_mem 565 (by decide +kernel) (by decide +kernel)
theorem wt_522 : (.static ⟨"WidthCampaignsLaw", "proved", "(LWidthCampaigns;[J)I"⟩ : Cond) ∈ wx_all := wx_mem 566 (by decide +kernel) (by decide +kernel)
theorem wt_523 : (.codeWith ⟨"WidthCampaignsLaw", "proved", "(LWidthCampaigns;[J)I"⟩ method_10_code 3 (Option.some Jvm.ClassFile.FieldType.int) [(0, 15, 18, 45)] : Cond) ∈ wx_all := wx_mem 567 (by decide +kernel) (by decide +kernel)
theorem wt_545 : (.methodLink "WidthCampaignsLaw" 108 ⟨"WidthCampaignsLaw", "order", "(LWidthCampaigns;I[J)I"⟩ : Cond) ∈ wx_all := wx_mem 589 (by decide +kernel) (by decide +kernel)
theorem wt_546 : (.static ⟨"WidthCampaignsLaw", "order", "(LWidthCampaigns;I[J)I"⟩ : Cond) ∈ wx_all := wx_mem 590 (by decide +kernel) (by decide +kernel)
theorem wt_547 : (.codeWith ⟨"WidthCampaignsLaw", "order", "(LWidthCampaigns;I[J)I"⟩ method_11_code 4 (Option.some Jvm.ClassFile.FieldType.int) [(0, 9, 12, 20), (0, 9, 15, 45)] : Cond) ∈ wx_all := wx_mem 591 (by decide +kernel) (by decide +kernel)
theorem wt_562 : (.methodLink "WidthCampaignsLaw" 111 ⟨"WidthCampaignsLaw", "told", "(LWidthCampaigns;I[J)I"⟩ : Cond) ∈ wx_all := wx_mem 606 (by decide +kernel) (by decide +kernel)
theorem wt_563 : (.static ⟨"WidthCampaignsLaw", "told", "(LWidthCampaigns;I[J)I"⟩ : Cond) ∈ wx_all := wx_mem 607 (by decide +kernel) (by decide +kernel)
theorem wt_564 : (.codeWith ⟨"WidthCampaignsLaw", "told", "(LWidthCampaigns;I[J)I"⟩ method_12_code 4 (Option.some Jvm.ClassFile.FieldType.int) [(0, 9, 12, 20), (0, 9, 15, 45)] : Cond) ∈ wx_all := wx_mem 608 (by decide +kernel) (by decide +kernel)
theorem wt_579 : (.methodLink "WidthCampaignsLaw" 114 ⟨"WidthCampaignsLaw", "change", "(LWidthCampaigns;I[J)I"⟩ : Cond) ∈ wx_all := wx_mem 623 (by decide +kernel) (by decide +kernel)
theorem wt_580 : (.static ⟨"WidthCampaignsLaw", "change", "(LWidthCampaigns;I[J)I"⟩ : Cond) ∈ wx_all := wx_mem 624 (by decide +kernel) (by decide +kernel)
theorem wt_581 : (.codeWith ⟨"WidthCampaignsLaw", "change", "(LWidthCampaigns;I[J)I"⟩ method_13_code 4 (Option.some Jvm.ClassFile.FieldType.int) [(0, 16, 19, 20), (0, 16, 22, 45)] : Cond) ∈ wx_all := wx_mem 625 (by decide +kernel) (by decide +kernel)
theorem wt_586 : (.methodLink "WidthCampaignsLaw" 117 ⟨"WidthCampaignsLaw", "jump", "(LWidthCampaigns;II[J)I"⟩ : Cond) ∈ wx_all := wx_mem 630 (by decide +kernel) (by decide +kernel)
theorem wt_587 : (.static ⟨"WidthCampaignsLaw", "jump", "(LWidthCampaigns;II[J)I"⟩ : Cond) ∈ wx_all := wx_mem 631 (by decide +kernel) (by decide +kernel)
theorem wt_588 : (.codeWith ⟨"WidthCampaignsLaw", "jump", "(LWidthCampaigns;II[J)I"⟩ method_14_code 5 (Option.some Jvm.ClassFile.FieldType.int) [(0, 10, 13, 20)] : Cond) ∈ wx_all := wx_mem 632 (by decide +kernel) (by decide +kernel)
theorem wt_594 : (.methodLink "WidthCampaignsLaw" 127 ⟨"WidthCampaignsLaw", "tell", "(LWidthCampaigns;J)I"⟩ : Cond) ∈ wx_all := wx_mem 638 (by decide +kernel) (by decide +kernel)
theorem wt_595 : (.static ⟨"WidthCampaignsLaw", "tell", "(LWidthCampaigns;J)I"⟩ : Cond) ∈ wx_all := wx_mem 639 (by decide +kernel) (by decide +kernel)
theorem wt_596 : (.codeWith ⟨"WidthCampaignsLaw", "tell", "(LWidthCampaigns;J)I"⟩ method_15_code 4 (Option.some Jvm.ClassFile.FieldType.int) [(0, 5, 8, 20), (0, 5, 11, 15)] : Cond) ∈ wx_all := wx_mem 640 (by decide +kernel) (by decide +kernel)
theorem wt_607 : (.methodLink "WidthCampaignsLaw" 131 ⟨"WidthCampaignsLaw", "improve", "(LWidthCampaigns;I[J)I"⟩ : Cond) ∈ wx_all := wx_mem 651 (by decide +kernel) (by decide +kernel)
theorem wt_608 : (.static ⟨"WidthCampaignsLaw", "improve", "(LWidthCampaigns;I[J)I"⟩ : Cond) ∈ wx_all := wx_mem 652 (by decide +kernel) (by decide +kernel)
theorem wt_609 : (.codeWith ⟨"WidthCampaignsLaw", "improve", "(LWidthCampaigns;I[J)I"⟩ method_16_code 4 (Option.some Jvm.ClassFile.FieldType.int) [(0, 9, 12, 45), (0, 9, 15, 13)] : Cond) ∈ wx_all := wx_mem 653 (by decide +kernel) (by decide +kernel)
theorem wt_718 : (.methodLink "WidthCampaignsLaw" 78 ⟨"WidthCampaignsModel", "thrown", "()I"⟩ : Cond) ∈ wx_all := wx_mem 762 (by decide +kernel) (by decide +kernel)
theorem wt_719 : (.instanceMethod ⟨"WidthCampaignsModel", "thrown", "()I"⟩ : Cond) ∈ wx_all := wx_mem 763 (by decide +kernel) (by decide +kernel)
theorem wt_720 : (.selects "WidthCampaignsModel" ⟨"WidthCampaignsModel", "thrown", "()I"⟩ ⟨"WidthCampaignsModel", "thrown", "()I"⟩ : Cond) ∈ wx_all := wx_mem 764 (by decide +kernel) (by decide +kernel)
theorem wt_721 : (.code ⟨"WidthCampaignsModel", "thrown", "()I"⟩ prog_8_method_2_code 1 (Option.some Jvm.ClassFile.FieldType.int) : Cond) ∈ wx_all := wx_mem 765 (by decide +kernel) (by decide +kernel)
theorem wt_722 : (.methodLink "WidthCampaignsLaw" 77 ⟨"WidthCampaignsModel", "coil", "(IIII)I"⟩ : Cond) ∈ wx_all := wx_mem 766 (by decide +kernel) (by decide +kernel)
theorem wt_723 : (.instanceMethod ⟨"WidthCampaignsModel", "coil", "(IIII)I"⟩ : Cond) ∈ wx_all := wx_mem 767 (by decide +kernel) (by decide +kernel)
theorem wt_724 : (.selects "WidthCampaignsModel" ⟨"WidthCampaignsModel", "coil", "(IIII)I"⟩ ⟨"WidthCampaignsModel", "coil", "(IIII)I"⟩ : Cond) ∈ wx_all := wx_mem 768 (by decide +kernel) (by decide +kernel)
theorem wt_725 : (.code ⟨"WidthCampaignsModel", "coil", "(IIII)I"⟩ prog_8_method_7_code 5 (Option.some Jvm.ClassFile.FieldType.int) : Cond) ∈ wx_all := wx_mem 769 (by decide +kernel) (by decide +kernel)
theorem wt_737 : (.methodLink "WidthCampaignsLaw" 84 ⟨"WidthCampaignsModel", "table", "(IIII)I"⟩ : Cond) ∈ wx_all := wx_mem 781 (by decide +kernel) (by decide +kernel)
theorem wt_738 : (.instanceMethod ⟨"WidthCampaignsModel", "table", "(IIII)I"⟩ : Cond) ∈ wx_all := wx_mem 782 (by decide +kernel) (by decide +kernel)
theorem wt_739 : (.selects "WidthCampaignsModel" ⟨"WidthCampaignsModel", "table", "(IIII)I"⟩ ⟨"WidthCampaignsModel", "table", "(IIII)I"⟩ : Cond) ∈ wx_all := wx_mem 783 (by decide +kernel) (by decide +kernel)
theorem wt_740 : (.code ⟨"WidthCampaignsModel", "table", "(IIII)I"⟩ prog_8_method_8_code 7 (Option.some Jvm.ClassFile.FieldType.int) : Cond) ∈ wx_all := wx_mem 784 (by decide +kernel) (by decide +kernel)
theorem wt_741 : (.methodLink "WidthCampaignsLaw" 88 ⟨"WidthCampaignsModel", "group", "(III)I"⟩ : Cond) ∈ wx_all := wx_mem 785 (by decide +kernel) (by decide +kernel)
theorem wt_742 : (.instanceMethod ⟨"WidthCampaignsModel", "group", "(III)I"⟩ : Cond) ∈ wx_all := wx_mem 786 (by decide +kernel) (by decide +kernel)
theorem wt_743 : (.selects "WidthCampaignsModel" ⟨"WidthCampaignsModel", "group", "(III)I"⟩ ⟨"WidthCampaignsModel", "group", "(III)I"⟩ : Cond) ∈ wx_all := wx_mem 787 (by decide +kernel) (by decide +kernel)
theorem wt_744 : (.code ⟨"WidthCampaignsModel", "group", "(III)I"⟩ prog_8_method_9_code 4 (Option.some Jvm.ClassFile.FieldType.int) : Cond) ∈ wx_all := wx_mem 788 (by decide +kernel) (by decide +kernel)
theorem wt_745 : (.methodLink "WidthCampaignsLaw" 92 ⟨"WidthCampaignsModel", "urgent", "(II)V"⟩ : Cond) ∈ wx_all := wx_mem 789 (by decide +kernel) (by decide +kernel)
theorem wt_746 : (.instanceMethod ⟨"WidthCampaignsModel", "urgent", "(II)V"⟩ : Cond) ∈ wx_all := wx_mem 790 (by decide +kernel) (by decide +kernel)
theorem wt_747 : (.selects "WidthCampaignsModel" ⟨"WidthCampaignsModel", "urgent", "(II)V"⟩ ⟨"WidthCampaignsModel", "urgent", "(II)V"⟩ : Cond) ∈ wx_all := wx_mem 791 (by decide +kernel) (by decide +kernel)
theorem wt_748 : (.code ⟨"WidthCampaignsModel", "urgent", "(II)V"⟩ prog_8_method_10_code 3 (Option.none : Option Jvm.ClassFile.FieldType) : Cond) ∈ wx_all := wx_mem 792 (by decide +kernel) (by decide +kernel)
theorem wt_753 : (.methodLink "WidthCampaignsLaw" 95 ⟨"WidthCampaignsModel", "old", "(II)V"⟩ : Cond) ∈ wx_all := wx_mem 797 (by decide +kernel) (by decide +kernel)
theorem wt_754 : (.instanceMethod ⟨"WidthCampaignsModel", "old", "(II)V"⟩ : Cond) ∈ wx_all := wx_mem 798 (by decide +kernel) (by decide +kernel)
theorem wt_755 : (.selects "WidthCampaignsModel" ⟨"WidthCampaignsModel", "old", "(II)V"⟩ ⟨"WidthCampaignsModel", "old", "(II)V"⟩ : Cond) ∈ wx_all := wx_mem 799 (by decide +kernel) (by decide +kernel)
theorem wt_756 : (.code ⟨"WidthCampaignsModel", "old", "(II)V"⟩ prog_8_method_11_code 3 (Option.none : Option Jvm.ClassFile.FieldType) : Cond) ∈ wx_all := wx_mem 800 (by decide +kernel) (by decide +kernel)
theorem wt_757 : (.methodLink "WidthCampaignsLaw" 99 ⟨"WidthCampaignsModel", "rules", "(IIII)V"⟩ : Cond) ∈ wx_all := wx_mem 801 (by decide +kernel) (by decide +kernel)
theorem wt_758 : (.instanceMethod ⟨"WidthCampaignsModel", "rules", "(IIII)V"⟩ : Cond) ∈ wx_all := wx_mem 802 (by decide +kernel) (by decide +kernel)
theorem wt_759 : (.selects "WidthCampaignsModel" ⟨"WidthCampaignsModel", "rules", "(IIII)V"⟩ ⟨"WidthCampaignsModel", "rules", "(IIII)V"⟩ : Cond) ∈ wx_all := wx_mem 803 (by decide +kernel) (by decide +kernel)
theorem wt_760 : (.code ⟨"WidthCampaignsModel", "rules", "(IIII)V"⟩ prog_8_method_12_code 5 (Option.none : Option Jvm.ClassFile.FieldType) : Cond) ∈ wx_all := wx_mem 804 (by decide +kernel) (by decide +kernel)
theorem wt_761 : (.methodLink "WidthCampaignsLaw" 103 ⟨"WidthCampaignsModel", "run", "(I)I"⟩ : Cond) ∈ wx_all := wx_mem 805 (by decide +kernel) (by decide +kernel)
theorem wt_762 : (.instanceMethod ⟨"WidthCampaignsModel", "run", "(I)I"⟩ : Cond) ∈ wx_all := wx_mem 806 (by decide +kernel) (by decide +kernel)
theorem wt_763 : (.selects "WidthCampaignsModel" ⟨"WidthCampaignsModel", "run", "(I)I"⟩ ⟨"WidthCampaignsModel", "run", "(I)I"⟩ : Cond) ∈ wx_all := wx_mem 807 (by decide +kernel) (by decide +kernel)
theorem wt_764 : (.code ⟨"WidthCampaignsModel", "run", "(I)I"⟩ prog_8_method_19_code 6 (Option.some Jvm.ClassFile.FieldType.int) : Cond) ∈ wx_all := wx_mem 808 (by decide +kernel) (by decide +kernel)
theorem wt_790 : (.methodLink "WidthCampaignsLaw" 107 ⟨"WidthCampaignsModel", "proved", "()Z"⟩ : Cond) ∈ wx_all := wx_mem 834 (by decide +kernel) (by decide +kernel)
theorem wt_791 : (.instanceMethod ⟨"WidthCampaignsModel", "proved", "()Z"⟩ : Cond) ∈ wx_all := wx_mem 835 (by decide +kernel) (by decide +kernel)
theorem wt_792 : (.selects "WidthCampaignsModel" ⟨"WidthCampaignsModel", "proved", "()Z"⟩ ⟨"WidthCampaignsModel", "proved", "()Z"⟩ : Cond) ∈ wx_all := wx_mem 836 (by decide +kernel) (by decide +kernel)
theorem wt_793 : (.code ⟨"WidthCampaignsModel", "proved", "()Z"⟩ prog_8_method_20_code 1 (Option.some Jvm.ClassFile.FieldType.boolean) : Cond) ∈ wx_all := wx_mem 837 (by decide +kernel) (by decide +kernel)
theorem wt_794 : (.methodLink "WidthCampaignsLaw" 110 ⟨"WidthCampaignsModel", "order", "(I)I"⟩ : Cond) ∈ wx_all := wx_mem 838 (by decide +kernel) (by decide +kernel)
theorem wt_795 : (.instanceMethod ⟨"WidthCampaignsModel", "order", "(I)I"⟩ : Cond) ∈ wx_all := wx_mem 839 (by decide +kernel) (by decide +kernel)
theorem wt_796 : (.selects "WidthCampaignsModel" ⟨"WidthCampaignsModel", "order", "(I)I"⟩ ⟨"WidthCampaignsModel", "order", "(I)I"⟩ : Cond) ∈ wx_all := wx_mem 840 (by decide +kernel) (by decide +kernel)
theorem wt_797 : (.code ⟨"WidthCampaignsModel", "order", "(I)I"⟩ prog_8_method_21_code 2 (Option.some Jvm.ClassFile.FieldType.int) : Cond) ∈ wx_all := wx_mem 841 (by decide +kernel) (by decide +kernel)
theorem wt_798 : (.methodLink "WidthCampaignsLaw" 113 ⟨"WidthCampaignsModel", "told", "(I)I"⟩ : Cond) ∈ wx_all := wx_mem 842 (by decide +kernel) (by decide +kernel)
theorem wt_799 : (.instanceMethod ⟨"WidthCampaignsModel", "told", "(I)I"⟩ : Cond) ∈ wx_all := wx_mem 843 (by decide +kernel) (by decide +kernel)
theorem wt_800 : (.selects "WidthCampaignsModel" ⟨"WidthCampaignsModel", "told", "(I)I"⟩ ⟨"WidthCampaignsModel", "told", "(I)I"⟩ : Cond) ∈ wx_all := wx_mem 844 (by decide +kernel) (by decide +kernel)
theorem wt_801 : (.code ⟨"WidthCampaignsModel", "told", "(I)I"⟩ prog_8_method_22_code 2 (Option.some Jvm.ClassFile.FieldType.int) : Cond) ∈ wx_all := wx_mem 845 (by decide +kernel) (by decide +kernel)
theorem wt_802 : (.methodLink "WidthCampaignsLaw" 116 ⟨"WidthCampaignsModel", "change", "(I)Z"⟩ : Cond) ∈ wx_all := wx_mem 846 (by decide +kernel) (by decide +kernel)
theorem wt_803 : (.instanceMethod ⟨"WidthCampaignsModel", "change", "(I)Z"⟩ : Cond) ∈ wx_all := wx_mem 847 (by decide +kernel) (by decide +kernel)
theorem wt_804 : (.selects "WidthCampaignsModel" ⟨"WidthCampaignsModel", "change", "(I)Z"⟩ ⟨"WidthCampaignsModel", "change", "(I)Z"⟩ : Cond) ∈ wx_all := wx_mem 848 (by decide +kernel) (by decide +kernel)
theorem wt_805 : (.code ⟨"WidthCampaignsModel", "change", "(I)Z"⟩ prog_8_method_23_code 2 (Option.some Jvm.ClassFile.FieldType.boolean) : Cond) ∈ wx_all := wx_mem 849 (by decide +kernel) (by decide +kernel)
theorem wt_806 : (.methodLink "WidthCampaignsLaw" 120 ⟨"WidthCampaignsModel", "jump", "(II)I"⟩ : Cond) ∈ wx_all := wx_mem 850 (by decide +kernel) (by decide +kernel)
theorem wt_807 : (.instanceMethod ⟨"WidthCampaignsModel", "jump", "(II)I"⟩ : Cond) ∈ wx_all := wx_mem 851 (by decide +kernel) (by decide +kernel)
theorem wt_808 : (.selects "WidthCampaignsModel" ⟨"WidthCampaignsModel", "jump", "(II)I"⟩ ⟨"WidthCampaignsModel", "jump", "(II)I"⟩ : Cond) ∈ wx_all := wx_mem 852 (by decide +kernel) (by decide +kernel)
theorem wt_809 : (.code ⟨"WidthCampaignsModel", "jump", "(II)I"⟩ prog_8_method_24_code 3 (Option.some Jvm.ClassFile.FieldType.int) : Cond) ∈ wx_all := wx_mem 853 (by decide +kernel) (by decide +kernel)
theorem wt_810 : (.methodLink "WidthCampaignsLaw" 124 ⟨"WidthCampaignsModel", "bound", "()I"⟩ : Cond) ∈ wx_all := wx_mem 854 (by decide +kernel) (by decide +kernel)
theorem wt_811 : (.instanceMethod ⟨"WidthCampaignsModel", "bound", "()I"⟩ : Cond) ∈ wx_all := wx_mem 855 (by decide +kernel) (by decide +kernel)
theorem wt_812 : (.selects "WidthCampaignsModel" ⟨"WidthCampaignsModel", "bound", "()I"⟩ ⟨"WidthCampaignsModel", "bound", "()I"⟩ : Cond) ∈ wx_all := wx_mem 856 (by decide +kernel) (by decide +kernel)
theorem wt_813 : (.code ⟨"WidthCampaignsModel", "bound", "()I"⟩ prog_8_method_25_code 7 (Option.some Jvm.ClassFile.FieldType.int) : Cond) ∈ wx_all := wx_mem 857 (by decide +kernel) (by decide +kernel)
theorem wt_814 : (.methodLink "WidthCampaignsLaw" 130 ⟨"WidthCampaignsModel", "tell", "(J)V"⟩ : Cond) ∈ wx_all := wx_mem 858 (by decide +kernel) (by decide +kernel)
theorem wt_815 : (.instanceMethod ⟨"WidthCampaignsModel", "tell", "(J)V"⟩ : Cond) ∈ wx_all := wx_mem 859 (by decide +kernel) (by decide +kernel)
theorem wt_816 : (.selects "WidthCampaignsModel" ⟨"WidthCampaignsModel", "tell", "(J)V"⟩ ⟨"WidthCampaignsModel", "tell", "(J)V"⟩ : Cond) ∈ wx_all := wx_mem 860 (by decide +kernel) (by decide +kernel)
theorem wt_817 : (.code ⟨"WidthCampaignsModel", "tell", "(J)V"⟩ prog_8_method_27_code 5 (Option.none : Option Jvm.ClassFile.FieldType) : Cond) ∈ wx_all := wx_mem 861 (by decide +kernel) (by decide +kernel)
theorem wt_823 : (.methodLink "WidthCampaignsLaw" 133 ⟨"WidthCampaignsModel", "improve", "(I)I"⟩ : Cond) ∈ wx_all := wx_mem 867 (by decide +kernel) (by decide +kernel)
theorem wt_824 : (.instanceMethod ⟨"WidthCampaignsModel", "improve", "(I)I"⟩ : Cond) ∈ wx_all := wx_mem 868 (by decide +kernel) (by decide +kernel)
theorem wt_825 : (.selects "WidthCampaignsModel" ⟨"WidthCampaignsModel", "improve", "(I)I"⟩ ⟨"WidthCampaignsModel", "improve", "(I)I"⟩ : Cond) ∈ wx_all := wx_mem 869 (by decide +kernel) (by decide +kernel)
theorem wt_826 : (.code ⟨"WidthCampaignsModel", "improve", "(I)I"⟩ prog_8_method_30_code 3 (Option.some Jvm.ClassFile.FieldType.int) : Cond) ∈ wx_all := wx_mem 870 (by decide +kernel) (by decide +kernel)
theorem wt_835 : (.constantLong "WidthCampaignsLaw" 125 4294967295 : Cond) ∈ wx_all := wx_mem 879 (by decide +kernel) (by decide +kernel)
/-! the law's calls of its own wrappers, and its start -/
section WLB
variable {p : Program} {l : Launch} {e : Env} {R : Room} {s : State} {m : MethodId} {args : Array Value} {below : List Frame} {meth : Method} {c : Code} {H : Heap} {locs : List Loc} {cells slots : Nat} {Q : State → Prop}
variable {cc : ByteArray} {pc : Nat} {ls : Array Slot} {rest st0 : List Value} {D : va_G} {ad : Nat → Nat} {cI cZ cJ cG : ClassId} {σ τ : wc_S} {A : Nat → Prop} {H0 : Heap} {mc ms : Nat} {c0 : Cond}
theorem wz_runSW {y : MethodName} {bytes : ByteArray} {maxL nL n index : Nat} {ret : Option FieldType} {hh : List (Nat × Nat × Nat × Nat)} {rm : Room} {Pc : Array Value → State → Prop} {Qc : Array Value → State → Outcome → State → Prop} {fr : Addr → Prop} {own : String} {As : List Value} {g : JFrame}
    (S : CallFix p m c cc nL s args (c0 :: wx_all) own) (hM : Met l y (Cond.codeWith y bytes maxL ret hh :: wx_all) rm Pc Qc mc ms fr) (hco : Cond.codeWith y bytes maxL ret hh ∈ wx_all) (hst : Cond.static y ∈ wx_all) (hini : Cond.initialized y.cls ∈ wx_all) (hl : Cond.methodLink own index y ∈ wx_all) (hd : y.cls ≠ "java/lang/invoke/MethodHandle" ∧ y.cls ≠ "java/lang/invoke/VarHandle" ∧ (parseMethodDescriptor y.desc).map (fun d => d.parameters.length) = some n) (hrc : rm.cells = mc) (hrs : rm.slots = ms) (hR : rm.frames + 1 ≤ R.frames ∧ 8 + (maxL + 11) + rm.locals ≤ R.locals) (hp : PreS s H Pc As)
    (hg : g.method = m) (hn : As.length = n) (hsize : g.locals.size = nL) (hstack : g.stack = As.reverse ++ rest) (hW : 2 * g.monitorRoom + (rest.map fun v => v.category).sum ≤ 8) (hdg : decode cc g.pc = .ok (.invokestatic index, 3)) (hf : cells + mc ≤ R.cells ∧ slots + ms ≤ R.slots) :
    va_Run p l e R s m args below meth c H locs cells slots mc ms g rest (Qc As.toArray) fr := by
  obtain ⟨hx, hb, hml, ho, hts⟩ := S
  have word : ∀ w ∈ wx_all, ∀ (a' : Array Value) (U : State), s.WarmedH U.vm → w.before a' U = true := fun w hw a' U hWU => word_at hWU (good_of_word (List.mem_filter.mp hw).2) (wx_hw hts hw)
  have hK : Back l R p e below s args y 3 8 (PreOf R mc ms Pc) (PostOf Qc mc ms fr) := va_backW (bytes := bytes) (maxL := maxL) (ret := ret) (hh := hh) hM hp.1 hrc hrs hR.1 hR.2
    (fun w hw a' U hWU => by
      rcases List.mem_cons.mp hw with rfl | h
      · exact word _ hco a' U hWU
      · exact word _ h a' U hWU) List.mem_cons_self (word _ hini)
  intro T hT X
  obtain ⟨mk, mM, cM, hnm, hmM, hcM, -, -, -, -, -, hsig⟩ := Cond.codeWith_spec (wx_hw hts hco)
  have hstatic : mM.isStatic = true := Cond.static_spec hnm hmM (wx_hw hts hst)
  obtain ⟨kP, hkP, -⟩ := className_of_methodNamed hnm
  have hinit : kP.init = .initialized := Cond.initialized_spec (findClass_of_methodNamed hnm) hkP (wx_hw hts hini)
  have hlen : As.length = mM.sig.parameters.length := by
    have h2 := hd.2.2
    rw [hsig] at h2
    exact hn.trans (Option.some.inj h2).symm
  obtain ⟨vm1, X1, step1⟩ := X.invokestatic hx ho (wx_hw hts hl) hnm hmM hstatic hkP hinit ⟨hd.1, hd.2.1⟩ (g := g) hg (argsL := As) (rest := rest) hlen hstack (by rw [hb]; exact hdg)
  obtain ⟨v, ⟨U', l2, c2, s2⟩, X', ⟨g', mk', t, L, e1, e2, hq, h1, hL, h2, h3⟩, run⟩ := hK m meth c ⟨T.setVm vm1, locs, cells, slots⟩ { g with stack := rest } (.invokestatic index) mk As.toArray X1 hg (hsize.trans hml.symm) (by rw [hb]; exact hdg) hW (X1.named hnm) ⟨hf.1, hf.2, hp.2 (T.setVm vm1) hT X1.warmed⟩
  dsimp only [Pt.U, Pt.locs, Pt.cells, Pt.slots] at X' e1 e2 h1 h2 h3 run
  subst h1; subst h2; subst h3
  exact ⟨v, (T.setVm vm1).calling g' mk' As.toArray, t, U', L, hT, X', hL, e1, e2, hq, fun target h => step1 _ fun acts => by rw [doInvoke_state]; exact run.trans h⟩
theorem wx_callik {r : Int32} {a : Array Value} (hr : va_Run p l e R s m args below meth c H locs cells slots mc ms (F0 m pc ls st0) rest (wx_Qi D ad cI cZ cJ cG (r, τ) (va_A (wx_W ad cI cZ cJ cG σ) H.size) a) (va_A (wx_W ad cI cZ cJ cG σ) H.size)) (hD : va_D A (wx_W ad cI cZ cJ cG σ)) (hS : va_S A H0 H locs) (hA : ∀ q, H0.size ≤ q → A q)
    (kk : ∀ (H1 : Heap) (locs1 : List Loc), va_P D wx_cl (wx_W ad cI cZ cJ cG τ) H1 → va_D A (wx_W ad cI cZ cJ cG τ) → va_S A H0 H1 locs1 → W p l e R s m args below meth c H1 locs1 (cells + mc) (slots + ms) Q (F0 m (pc + 3) ls (.int r :: rest))) : W p l e R s m args below meth c H locs cells slots Q (F0 m pc ls st0) := by
  refine va_calli hr hS (fun q _ h => wx_fr hD hS hA q h) (wx_fr hD hS hA) (fun r' u t H1 locs1 ht hvm hw hB hz hk hS1 => ?_)
  cases hw
  exact kk H1 locs1 (by rw [← ht]; exact hB) (wc_D hD) hS1
theorem wl_in {v : Int32} {k : Nat} (h : v = Int32.ofNat k) (hk : k < 100) : ¬ v.toInt < 0 ∧ v.toInt = k := by
  subst h
  have := Int32.toInt_ofNat_of_lt (n := k) (by omega)
  omega
end WLB
theorem wl_hts {c0 : Cond} {args : Array Value} {s : State} (hts : ∀ w ∈ lw_tbl, w.before args s = true) (h0 : c0 ∈ wx_all) : ∀ w ∈ c0 :: wx_all, w.before args s = true := by
  intro w hw
  rcases List.mem_cons.mp hw with rfl | h
  · exact hts _ (List.mem_filter.mp h0).1
  · exact hts w (List.mem_filter.mp h).1
