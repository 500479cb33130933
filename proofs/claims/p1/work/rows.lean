section
-- ===== PART A: goes FIRST, ahead of the names: the tables' words, and 'selects' of the private methods out of them =====
/-- a private method of a class that the tables say can be made, by its rows of tables_1 -/
def lw_okq (q : MethodName × Nat) : Prop := (q.1.cls ≠ "java/lang/invoke/MethodHandle" ∧ q.1.cls ≠ "java/lang/invoke/VarHandle") ∧ Cond.instantiable q.1.cls q.2 ∈ tables_1 ∧ Cond.privateMethod q.1 ∈ tables_1 ∧ Cond.instanceMethod q.1 ∈ tables_1
theorem lw_p0 : lw_okq (⟨"WidthCampaigns$Plant", "leastJumpTo", "(I)I"⟩, 15) := ⟨⟨by decide +kernel, by decide +kernel⟩, List.mem_of_getElem? (i := 26) (by decide +kernel), List.mem_of_getElem? (i := 246) (by decide +kernel), List.mem_of_getElem? (i := 247) (by decide +kernel)⟩
theorem lw_p1 : lw_okq (⟨"java/lang/Throwable", "fillInStackTrace", "(I)Ljava/lang/Throwable;"⟩, 6) := ⟨⟨by decide +kernel, by decide +kernel⟩, List.mem_of_getElem? (i := 304) (by decide +kernel), List.mem_of_getElem? (i := 302) (by decide +kernel), List.mem_of_getElem? (i := 303) (by decide +kernel)⟩
theorem lw_p2 : lw_okq (⟨"WidthCampaigns", "forgetOrder", "()V"⟩, 7) := ⟨⟨by decide +kernel, by decide +kernel⟩, List.mem_of_getElem? (i := 18) (by decide +kernel), List.mem_of_getElem? (i := 350) (by decide +kernel), List.mem_of_getElem? (i := 351) (by decide +kernel)⟩
theorem lw_p3 : lw_okq (⟨"WidthCampaigns$Plant", "addCoil", "(IIII)I"⟩, 15) := ⟨⟨by decide +kernel, by decide +kernel⟩, List.mem_of_getElem? (i := 26) (by decide +kernel), List.mem_of_getElem? (i := 354) (by decide +kernel), List.mem_of_getElem? (i := 355) (by decide +kernel)⟩
theorem lw_p4 : lw_okq (⟨"WidthCampaigns$Plant", "reckonJumps", "()V"⟩, 15) := ⟨⟨by decide +kernel, by decide +kernel⟩, List.mem_of_getElem? (i := 26) (by decide +kernel), List.mem_of_getElem? (i := 358) (by decide +kernel), List.mem_of_getElem? (i := 359) (by decide +kernel)⟩
theorem lw_p5 : lw_okq (⟨"WidthCampaigns$Plant", "reckonJump", "(II)I"⟩, 15) := ⟨⟨by decide +kernel, by decide +kernel⟩, List.mem_of_getElem? (i := 26) (by decide +kernel), List.mem_of_getElem? (i := 362) (by decide +kernel), List.mem_of_getElem? (i := 363) (by decide +kernel)⟩
theorem lw_p6 : lw_okq (⟨"WidthCampaigns$JumpTable", "costOf", "(I)I"⟩, 4) := ⟨⟨by decide +kernel, by decide +kernel⟩, List.mem_of_getElem? (i := 34) (by decide +kernel), List.mem_of_getElem? (i := 369) (by decide +kernel), List.mem_of_getElem? (i := 370) (by decide +kernel)⟩
theorem lw_p7 : lw_okq (⟨"WidthCampaigns$JumpTable", "addRow", "(III)V"⟩, 4) := ⟨⟨by decide +kernel, by decide +kernel⟩, List.mem_of_getElem? (i := 34) (by decide +kernel), List.mem_of_getElem? (i := 399) (by decide +kernel), List.mem_of_getElem? (i := 400) (by decide +kernel)⟩
theorem lw_p8 : lw_okq (⟨"WidthCampaigns$WidthGroups", "addGroup", "(III)V"⟩, 4) := ⟨⟨by decide +kernel, by decide +kernel⟩, List.mem_of_getElem? (i := 55) (by decide +kernel), List.mem_of_getElem? (i := 413) (by decide +kernel), List.mem_of_getElem? (i := 414) (by decide +kernel)⟩
theorem lw_p9 : lw_okq (⟨"WidthCampaigns", "isNoCoil", "(I)Z"⟩, 7) := ⟨⟨by decide +kernel, by decide +kernel⟩, List.mem_of_getElem? (i := 18) (by decide +kernel), List.mem_of_getElem? (i := 424) (by decide +kernel), List.mem_of_getElem? (i := 425) (by decide +kernel)⟩
theorem lw_p10 : lw_okq (⟨"WidthCampaigns$Search", "searchWith", "(I)V"⟩, 7) := ⟨⟨by decide +kernel, by decide +kernel⟩, List.mem_of_getElem? (i := 189) (by decide +kernel), List.mem_of_getElem? (i := 455) (by decide +kernel), List.mem_of_getElem? (i := 456) (by decide +kernel)⟩
theorem lw_p11 : lw_okq (⟨"WidthCampaigns$Line", "clear", "()V"⟩, 10) := ⟨⟨by decide +kernel, by decide +kernel⟩, List.mem_of_getElem? (i := 147) (by decide +kernel), List.mem_of_getElem? (i := 460) (by decide +kernel), List.mem_of_getElem? (i := 461) (by decide +kernel)⟩
theorem lw_p12 : lw_okq (⟨"WidthCampaigns$Search", "goOnAt", "(I)V"⟩, 7) := ⟨⟨by decide +kernel, by decide +kernel⟩, List.mem_of_getElem? (i := 189) (by decide +kernel), List.mem_of_getElem? (i := 464) (by decide +kernel), List.mem_of_getElem? (i := 465) (by decide +kernel)⟩
theorem lw_p13 : lw_okq (⟨"WidthCampaigns$Search", "keepBest", "()V"⟩, 7) := ⟨⟨by decide +kernel, by decide +kernel⟩, List.mem_of_getElem? (i := 189) (by decide +kernel), List.mem_of_getElem? (i := 468) (by decide +kernel), List.mem_of_getElem? (i := 469) (by decide +kernel)⟩
theorem lw_p14 : lw_okq (⟨"WidthCampaigns$Line", "penaltySoFar", "()I"⟩, 10) := ⟨⟨by decide +kernel, by decide +kernel⟩, List.mem_of_getElem? (i := 147) (by decide +kernel), List.mem_of_getElem? (i := 472) (by decide +kernel), List.mem_of_getElem? (i := 473) (by decide +kernel)⟩
theorem lw_p15 : lw_okq (⟨"WidthCampaigns$Line", "mayPut", "(I)Z"⟩, 10) := ⟨⟨by decide +kernel, by decide +kernel⟩, List.mem_of_getElem? (i := 147) (by decide +kernel), List.mem_of_getElem? (i := 479) (by decide +kernel), List.mem_of_getElem? (i := 480) (by decide +kernel)⟩
def lw_privs_1 : List (MethodName × Nat) := [(⟨"WidthCampaigns$Plant", "leastJumpTo", "(I)I"⟩, 15), (⟨"java/lang/Throwable", "fillInStackTrace", "(I)Ljava/lang/Throwable;"⟩, 6), (⟨"WidthCampaigns", "forgetOrder", "()V"⟩, 7), (⟨"WidthCampaigns$Plant", "addCoil", "(IIII)I"⟩, 15), (⟨"WidthCampaigns$Plant", "reckonJumps", "()V"⟩, 15), (⟨"WidthCampaigns$Plant", "reckonJump", "(II)I"⟩, 15), (⟨"WidthCampaigns$JumpTable", "costOf", "(I)I"⟩, 4), (⟨"WidthCampaigns$JumpTable", "addRow", "(III)V"⟩, 4), (⟨"WidthCampaigns$WidthGroups", "addGroup", "(III)V"⟩, 4), (⟨"WidthCampaigns", "isNoCoil", "(I)Z"⟩, 7), (⟨"WidthCampaigns$Search", "searchWith", "(I)V"⟩, 7), (⟨"WidthCampaigns$Line", "clear", "()V"⟩, 10), (⟨"WidthCampaigns$Search", "goOnAt", "(I)V"⟩, 7), (⟨"WidthCampaigns$Search", "keepBest", "()V"⟩, 7), (⟨"WidthCampaigns$Line", "penaltySoFar", "()I"⟩, 10), (⟨"WidthCampaigns$Line", "mayPut", "(I)Z"⟩, 10)]
theorem lw_r1 : ∀ q ∈ lw_privs_1, lw_okq q := List.forall_mem_cons.mpr ⟨lw_p0, List.forall_mem_cons.mpr ⟨lw_p1, List.forall_mem_cons.mpr ⟨lw_p2, List.forall_mem_cons.mpr ⟨lw_p3, List.forall_mem_cons.mpr ⟨lw_p4, List.forall_mem_cons.mpr ⟨lw_p5, List.forall_mem_cons.mpr ⟨lw_p6, List.forall_mem_cons.mpr ⟨lw_p7, List.forall_mem_cons.mpr ⟨lw_p8, List.forall_mem_cons.mpr ⟨lw_p9, List.forall_mem_cons.mpr ⟨lw_p10, List.forall_mem_cons.mpr ⟨lw_p11, List.forall_mem_cons.mpr ⟨lw_p12, List.forall_mem_cons.mpr ⟨lw_p13, List.forall_mem_cons.mpr ⟨lw_p14, List.forall_mem_cons.mpr ⟨lw_p15, fun _ h => absurd h List.not_mem_nil⟩⟩⟩⟩⟩⟩⟩⟩⟩⟩⟩⟩⟩⟩⟩⟩
theorem lw_p16 : lw_okq (⟨"WidthCampaigns$Line", "mayFollow", "(II)Z"⟩, 10) := ⟨⟨by decide +kernel, by decide +kernel⟩, List.mem_of_getElem? (i := 147) (by decide +kernel), List.mem_of_getElem? (i := 483) (by decide +kernel), List.mem_of_getElem? (i := 484) (by decide +kernel)⟩
theorem lw_p17 : lw_okq (⟨"WidthCampaigns$Search", "putAndGoOn", "(II)V"⟩, 7) := ⟨⟨by decide +kernel, by decide +kernel⟩, List.mem_of_getElem? (i := 189) (by decide +kernel), List.mem_of_getElem? (i := 487) (by decide +kernel), List.mem_of_getElem? (i := 488) (by decide +kernel)⟩
theorem lw_p18 : lw_okq (⟨"WidthCampaigns$Line", "put", "(I)V"⟩, 10) := ⟨⟨by decide +kernel, by decide +kernel⟩, List.mem_of_getElem? (i := 147) (by decide +kernel), List.mem_of_getElem? (i := 491) (by decide +kernel), List.mem_of_getElem? (i := 492) (by decide +kernel)⟩
theorem lw_p19 : lw_okq (⟨"WidthCampaigns$Line", "isWornWith", "(I)Z"⟩, 10) := ⟨⟨by decide +kernel, by decide +kernel⟩, List.mem_of_getElem? (i := 147) (by decide +kernel), List.mem_of_getElem? (i := 495) (by decide +kernel), List.mem_of_getElem? (i := 496) (by decide +kernel)⟩
theorem lw_p20 : lw_okq (⟨"WidthCampaigns$Plant", "kilometresInGroup", "(II)I"⟩, 15) := ⟨⟨by decide +kernel, by decide +kernel⟩, List.mem_of_getElem? (i := 26) (by decide +kernel), List.mem_of_getElem? (i := 499) (by decide +kernel), List.mem_of_getElem? (i := 500) (by decide +kernel)⟩
theorem lw_p21 : lw_okq (⟨"WidthCampaigns$Line", "countKilometres", "(IZ)V"⟩, 10) := ⟨⟨by decide +kernel, by decide +kernel⟩, List.mem_of_getElem? (i := 147) (by decide +kernel), List.mem_of_getElem? (i := 503) (by decide +kernel), List.mem_of_getElem? (i := 504) (by decide +kernel)⟩
theorem lw_p22 : lw_okq (⟨"WidthCampaigns$Line", "countCosts", "(IZ)V"⟩, 10) := ⟨⟨by decide +kernel, by decide +kernel⟩, List.mem_of_getElem? (i := 147) (by decide +kernel), List.mem_of_getElem? (i := 507) (by decide +kernel), List.mem_of_getElem? (i := 508) (by decide +kernel)⟩
theorem lw_p23 : lw_okq (⟨"WidthCampaigns$Line", "takeBack", "()V"⟩, 10) := ⟨⟨by decide +kernel, by decide +kernel⟩, List.mem_of_getElem? (i := 147) (by decide +kernel), List.mem_of_getElem? (i := 511) (by decide +kernel), List.mem_of_getElem? (i := 512) (by decide +kernel)⟩
theorem lw_p24 : lw_okq (⟨"WidthCampaigns$Line", "layAll", "([I)Z"⟩, 10) := ⟨⟨by decide +kernel, by decide +kernel⟩, List.mem_of_getElem? (i := 147) (by decide +kernel), List.mem_of_getElem? (i := 515) (by decide +kernel), List.mem_of_getElem? (i := 516) (by decide +kernel)⟩
theorem lw_p25 : lw_okq (⟨"WidthCampaigns", "requireOrder", "()V"⟩, 7) := ⟨⟨by decide +kernel, by decide +kernel⟩, List.mem_of_getElem? (i := 18) (by decide +kernel), List.mem_of_getElem? (i := 553) (by decide +kernel), List.mem_of_getElem? (i := 554) (by decide +kernel)⟩
theorem lw_p26 : lw_okq (⟨"WidthCampaigns", "requirePlace", "(I)V"⟩, 7) := ⟨⟨by decide +kernel, by decide +kernel⟩, List.mem_of_getElem? (i := 18) (by decide +kernel), List.mem_of_getElem? (i := 558) (by decide +kernel), List.mem_of_getElem? (i := 559) (by decide +kernel)⟩
theorem lw_p27 : lw_okq (⟨"WidthCampaigns$Line", "changesSoFar", "()I"⟩, 10) := ⟨⟨by decide +kernel, by decide +kernel⟩, List.mem_of_getElem? (i := 147) (by decide +kernel), List.mem_of_getElem? (i := 572) (by decide +kernel), List.mem_of_getElem? (i := 573) (by decide +kernel)⟩
theorem lw_p28 : lw_okq (⟨"WidthCampaigns$Line", "movedSoFar", "()I"⟩, 10) := ⟨⟨by decide +kernel, by decide +kernel⟩, List.mem_of_getElem? (i := 147) (by decide +kernel), List.mem_of_getElem? (i := 576) (by decide +kernel), List.mem_of_getElem? (i := 577) (by decide +kernel)⟩
theorem lw_p29 : lw_okq (⟨"WidthCampaigns", "readIntoScratch", "(J)Z"⟩, 7) := ⟨⟨by decide +kernel, by decide +kernel⟩, List.mem_of_getElem? (i := 18) (by decide +kernel), List.mem_of_getElem? (i := 602) (by decide +kernel), List.mem_of_getElem? (i := 603) (by decide +kernel)⟩
theorem lw_p30 : lw_okq (⟨"WidthCampaigns", "takeFirstBetterPair", "()Z"⟩, 7) := ⟨⟨by decide +kernel, by decide +kernel⟩, List.mem_of_getElem? (i := 18) (by decide +kernel), List.mem_of_getElem? (i := 616) (by decide +kernel), List.mem_of_getElem? (i := 617) (by decide +kernel)⟩
theorem lw_p31 : lw_okq (⟨"WidthCampaigns", "takePairIfBetter", "(II)Z"⟩, 7) := ⟨⟨by decide +kernel, by decide +kernel⟩, List.mem_of_getElem? (i := 18) (by decide +kernel), List.mem_of_getElem? (i := 620) (by decide +kernel), List.mem_of_getElem? (i := 621) (by decide +kernel)⟩
def lw_privs_2 : List (MethodName × Nat) := [(⟨"WidthCampaigns$Line", "mayFollow", "(II)Z"⟩, 10), (⟨"WidthCampaigns$Search", "putAndGoOn", "(II)V"⟩, 7), (⟨"WidthCampaigns$Line", "put", "(I)V"⟩, 10), (⟨"WidthCampaigns$Line", "isWornWith", "(I)Z"⟩, 10), (⟨"WidthCampaigns$Plant", "kilometresInGroup", "(II)I"⟩, 15), (⟨"WidthCampaigns$Line", "countKilometres", "(IZ)V"⟩, 10), (⟨"WidthCampaigns$Line", "countCosts", "(IZ)V"⟩, 10), (⟨"WidthCampaigns$Line", "takeBack", "()V"⟩, 10), (⟨"WidthCampaigns$Line", "layAll", "([I)Z"⟩, 10), (⟨"WidthCampaigns", "requireOrder", "()V"⟩, 7), (⟨"WidthCampaigns", "requirePlace", "(I)V"⟩, 7), (⟨"WidthCampaigns$Line", "changesSoFar", "()I"⟩, 10), (⟨"WidthCampaigns$Line", "movedSoFar", "()I"⟩, 10), (⟨"WidthCampaigns", "readIntoScratch", "(J)Z"⟩, 7), (⟨"WidthCampaigns", "takeFirstBetterPair", "()Z"⟩, 7), (⟨"WidthCampaigns", "takePairIfBetter", "(II)Z"⟩, 7)]
theorem lw_r2 : ∀ q ∈ lw_privs_2, lw_okq q := List.forall_mem_cons.mpr ⟨lw_p16, List.forall_mem_cons.mpr ⟨lw_p17, List.forall_mem_cons.mpr ⟨lw_p18, List.forall_mem_cons.mpr ⟨lw_p19, List.forall_mem_cons.mpr ⟨lw_p20, List.forall_mem_cons.mpr ⟨lw_p21, List.forall_mem_cons.mpr ⟨lw_p22, List.forall_mem_cons.mpr ⟨lw_p23, List.forall_mem_cons.mpr ⟨lw_p24, List.forall_mem_cons.mpr ⟨lw_p25, List.forall_mem_cons.mpr ⟨lw_p26, List.forall_mem_cons.mpr ⟨lw_p27, List.forall_mem_cons.mpr ⟨lw_p28, List.forall_mem_cons.mpr ⟨lw_p29, List.forall_mem_cons.mpr ⟨lw_p30, List.forall_mem_cons.mpr ⟨lw_p31, fun _ h => absurd h List.not_mem_nil⟩⟩⟩⟩⟩⟩⟩⟩⟩⟩⟩⟩⟩⟩⟩⟩
theorem lw_p32 : lw_okq (⟨"WidthCampaignsModel", "goes", "(ZZZ)Z"⟩, 29) := ⟨⟨by decide +kernel, by decide +kernel⟩, List.mem_of_getElem? (i := 625) (by decide +kernel), List.mem_of_getElem? (i := 730) (by decide +kernel), List.mem_of_getElem? (i := 731) (by decide +kernel)⟩
theorem lw_p33 : lw_okq (⟨"WidthCampaignsModel", "gone", "()V"⟩, 29) := ⟨⟨by decide +kernel, by decide +kernel⟩, List.mem_of_getElem? (i := 625) (by decide +kernel), List.mem_of_getElem? (i := 734) (by decide +kernel), List.mem_of_getElem? (i := 735) (by decide +kernel)⟩
theorem lw_p34 : lw_okq (⟨"WidthCampaignsModel", "isCoil", "(I)Z"⟩, 29) := ⟨⟨by decide +kernel, by decide +kernel⟩, List.mem_of_getElem? (i := 625) (by decide +kernel), List.mem_of_getElem? (i := 750) (by decide +kernel), List.mem_of_getElem? (i := 751) (by decide +kernel)⟩
theorem lw_p35 : lw_okq (⟨"WidthCampaignsModel", "stands", "(II)Z"⟩, 29) := ⟨⟨by decide +kernel, by decide +kernel⟩, List.mem_of_getElem? (i := 625) (by decide +kernel), List.mem_of_getElem? (i := 767) (by decide +kernel), List.mem_of_getElem? (i := 768) (by decide +kernel)⟩
theorem lw_p36 : lw_okq (⟨"WidthCampaignsModel", "mayBe", "([II)Z"⟩, 29) := ⟨⟨by decide +kernel, by decide +kernel⟩, List.mem_of_getElem? (i := 625) (by decide +kernel), List.mem_of_getElem? (i := 771) (by decide +kernel), List.mem_of_getElem? (i := 772) (by decide +kernel)⟩
theorem lw_p37 : lw_okq (⟨"WidthCampaignsModel", "jumpOf", "(II)I"⟩, 29) := ⟨⟨by decide +kernel, by decide +kernel⟩, List.mem_of_getElem? (i := 625) (by decide +kernel), List.mem_of_getElem? (i := 775) (by decide +kernel), List.mem_of_getElem? (i := 776) (by decide +kernel)⟩
theorem lw_p38 : lw_okq (⟨"WidthCampaignsModel", "costOf", "(II)I"⟩, 29) := ⟨⟨by decide +kernel, by decide +kernel⟩, List.mem_of_getElem? (i := 625) (by decide +kernel), List.mem_of_getElem? (i := 779) (by decide +kernel), List.mem_of_getElem? (i := 780) (by decide +kernel)⟩
theorem lw_p39 : lw_okq (⟨"WidthCampaignsModel", "reckon", "([II)V"⟩, 29) := ⟨⟨by decide +kernel, by decide +kernel⟩, List.mem_of_getElem? (i := 625) (by decide +kernel), List.mem_of_getElem? (i := 783) (by decide +kernel), List.mem_of_getElem? (i := 784) (by decide +kernel)⟩
theorem lw_p40 : lw_okq (⟨"WidthCampaignsModel", "isWorn", "([III)Z"⟩, 29) := ⟨⟨by decide +kernel, by decide +kernel⟩, List.mem_of_getElem? (i := 625) (by decide +kernel), List.mem_of_getElem? (i := 787) (by decide +kernel), List.mem_of_getElem? (i := 788) (by decide +kernel)⟩
theorem lw_p41 : lw_okq (⟨"WidthCampaignsModel", "isGood", "([I)Z"⟩, 29) := ⟨⟨by decide +kernel, by decide +kernel⟩, List.mem_of_getElem? (i := 625) (by decide +kernel), List.mem_of_getElem? (i := 820) (by decide +kernel), List.mem_of_getElem? (i := 821) (by decide +kernel)⟩
theorem lw_p42 : lw_okq (⟨"WidthCampaignsModel", "better", "()Z"⟩, 29) := ⟨⟨by decide +kernel, by decide +kernel⟩, List.mem_of_getElem? (i := 625) (by decide +kernel), List.mem_of_getElem? (i := 828) (by decide +kernel), List.mem_of_getElem? (i := 829) (by decide +kernel)⟩
theorem lw_p43 : lw_okq (⟨"WidthCampaignsModel", "swaps", "(II)Z"⟩, 29) := ⟨⟨by decide +kernel, by decide +kernel⟩, List.mem_of_getElem? (i := 625) (by decide +kernel), List.mem_of_getElem? (i := 832) (by decide +kernel), List.mem_of_getElem? (i := 833) (by decide +kernel)⟩
def lw_privs_3 : List (MethodName × Nat) := [(⟨"WidthCampaignsModel", "goes", "(ZZZ)Z"⟩, 29), (⟨"WidthCampaignsModel", "gone", "()V"⟩, 29), (⟨"WidthCampaignsModel", "isCoil", "(I)Z"⟩, 29), (⟨"WidthCampaignsModel", "stands", "(II)Z"⟩, 29), (⟨"WidthCampaignsModel", "mayBe", "([II)Z"⟩, 29), (⟨"WidthCampaignsModel", "jumpOf", "(II)I"⟩, 29), (⟨"WidthCampaignsModel", "costOf", "(II)I"⟩, 29), (⟨"WidthCampaignsModel", "reckon", "([II)V"⟩, 29), (⟨"WidthCampaignsModel", "isWorn", "([III)Z"⟩, 29), (⟨"WidthCampaignsModel", "isGood", "([I)Z"⟩, 29), (⟨"WidthCampaignsModel", "better", "()Z"⟩, 29), (⟨"WidthCampaignsModel", "swaps", "(II)Z"⟩, 29)]
theorem lw_r3 : ∀ q ∈ lw_privs_3, lw_okq q := List.forall_mem_cons.mpr ⟨lw_p32, List.forall_mem_cons.mpr ⟨lw_p33, List.forall_mem_cons.mpr ⟨lw_p34, List.forall_mem_cons.mpr ⟨lw_p35, List.forall_mem_cons.mpr ⟨lw_p36, List.forall_mem_cons.mpr ⟨lw_p37, List.forall_mem_cons.mpr ⟨lw_p38, List.forall_mem_cons.mpr ⟨lw_p39, List.forall_mem_cons.mpr ⟨lw_p40, List.forall_mem_cons.mpr ⟨lw_p41, List.forall_mem_cons.mpr ⟨lw_p42, List.forall_mem_cons.mpr ⟨lw_p43, fun _ h => absurd h List.not_mem_nil⟩⟩⟩⟩⟩⟩⟩⟩⟩⟩⟩⟩
def lw_privs : List (MethodName × Nat) := lw_privs_1 ++ (lw_privs_2 ++ (lw_privs_3))
def lw_tbl : List Cond := k2_sels lw_privs ++ tables_1
theorem lw_privs_ok : ∀ q ∈ lw_privs, lw_okq q := by
  show ∀ q ∈ lw_privs_1 ++ (lw_privs_2 ++ (lw_privs_3)), lw_okq q
  exact List.forall_mem_append.mpr ⟨lw_r1, List.forall_mem_append.mpr ⟨lw_r2, lw_r3⟩⟩
end
section
/-! a method as a value: what it answers and what the state is then; none where it would leave its road -/
abbrev wc_S : Type := Nat → Nat → Int32
abbrev wc_X (α : Type) : Type := (Nat × wc_S) ⊕ α
def wc_st {α β : Type} (x : α) (f : α → Option β) : Option β := f x
theorem wc_st_e {α β : Type} {x v : α} {f : α → Option β} {y : β} (e : v = x) (h : wc_st x f = some y) : f v = some y := by subst e; exact h
def wc_gd {β : Type} (c : Bool) (k : Option β) : Option β := match c with
  | true => k
  | false => none
theorem wc_gd_e {β : Type} {c : Bool} {k : Option β} {y : β} (h : wc_gd c k = some y) : c = true ∧ k = some y := by
  cases c with
  | false => cases h
  | true => exact ⟨rfl, h⟩
def wc_b1 {β : Type} (o : Option wc_S) (f : wc_S → Option β) : Option β := match o with
  | none => none
  | some u => f u
theorem wc_b1_e {β : Type} {o : Option wc_S} {f : wc_S → Option β} {y : β} (h : wc_b1 o f = some y) : ∃ x, o = some x ∧ f x = some y := by
  cases o with
  | none => cases h
  | some x => exact ⟨x, rfl, h⟩
def wc_b2 {β : Type} (o : Option (Int32 × wc_S)) (f : Int32 → wc_S → Option β) : Option β := match o with
  | none => none
  | some q => f q.1 q.2
theorem wc_b2_e {β : Type} {o : Option (Int32 × wc_S)} {f : Int32 → wc_S → Option β} {y : β} (h : wc_b2 o f = some y) : ∃ a b, o = some (a, b) ∧ f a b = some y := by
  cases o with
  | none => cases h
  | some x => exact ⟨x.1, x.2, rfl, h⟩
/-- a callee that may throw, not caught here -/
def wc_bxk {β : Type} (q : wc_X wc_S) (f : wc_S → Option (wc_X β)) : Option (wc_X β) := match q with
  | .inl e => some (.inl e)
  | .inr a => f a
def wc_bx {β : Type} (o : Option (wc_X wc_S)) (f : wc_S → Option (wc_X β)) : Option (wc_X β) := match o with
  | none => none
  | some q => wc_bxk q f
theorem wc_bx_e {β : Type} {o : Option (wc_X wc_S)} {f : wc_S → Option (wc_X β)} {y : wc_X β} (h : wc_bx o f = some y) : ∃ q, o = some q ∧ wc_bxk q f = some y := by
  cases o with
  | none => cases h
  | some x => exact ⟨x, rfl, h⟩
theorem wc_bx_l {β : Type} {u : Nat × wc_S} {f : wc_S → Option (wc_X β)} {y : wc_X β} (h : wc_bxk (.inl u) f = some y) : (Sum.inl u : wc_X β) = y := Option.some.inj h
theorem wc_bx_r {β : Type} {u : wc_S} {f : wc_S → Option (wc_X β)} {y : wc_X β} (h : wc_bxk (.inr u) f = some y) : f u = some y := h
/-- a callee that may throw, caught here -/
def wc_ctik {β : Type} (q : wc_X (Int32 × wc_S)) (x : Nat → wc_S → Option β) (f : Int32 → wc_S → Option β) : Option β := match q with
  | .inl e => x e.1 e.2
  | .inr a => f a.1 a.2
def wc_cti {β : Type} (o : Option (wc_X (Int32 × wc_S))) (x : Nat → wc_S → Option β) (f : Int32 → wc_S → Option β) : Option β := match o with
  | none => none
  | some q => wc_ctik q x f
theorem wc_cti_e {β : Type} {o : Option (wc_X (Int32 × wc_S))} {x : Nat → wc_S → Option β} {f : Int32 → wc_S → Option β} {y : β} (h : wc_cti o x f = some y) : ∃ q, o = some q ∧ wc_ctik q x f = some y := by
  cases o with
  | none => cases h
  | some q => exact ⟨q, rfl, h⟩
theorem wc_cti_l {β : Type} {k : Nat} {u : wc_S} {x : Nat → wc_S → Option β} {f : Int32 → wc_S → Option β} {y : β} (h : wc_ctik (.inl (k, u)) x f = some y) : x k u = some y := h
theorem wc_cti_r {β : Type} {r : Int32} {u : wc_S} {x : Nat → wc_S → Option β} {f : Int32 → wc_S → Option β} {y : β} (h : wc_ctik (.inr (r, u)) x f = some y) : f r u = some y := h
def wc_ctvk {β : Type} (q : wc_X wc_S) (x : Nat → wc_S → Option β) (f : wc_S → Option β) : Option β := match q with
  | .inl e => x e.1 e.2
  | .inr a => f a
def wc_ctv {β : Type} (o : Option (wc_X wc_S)) (x : Nat → wc_S → Option β) (f : wc_S → Option β) : Option β := match o with
  | none => none
  | some q => wc_ctvk q x f
theorem wc_ctv_e {β : Type} {o : Option (wc_X wc_S)} {x : Nat → wc_S → Option β} {f : wc_S → Option β} {y : β} (h : wc_ctv o x f = some y) : ∃ q, o = some q ∧ wc_ctvk q x f = some y := by
  cases o with
  | none => cases h
  | some q => exact ⟨q, rfl, h⟩
theorem wc_ctv_l {β : Type} {k : Nat} {u : wc_S} {x : Nat → wc_S → Option β} {f : wc_S → Option β} {y : β} (h : wc_ctvk (.inl (k, u)) x f = some y) : x k u = some y := h
theorem wc_ctv_r {β : Type} {u : wc_S} {x : Nat → wc_S → Option β} {f : wc_S → Option β} {y : β} (h : wc_ctvk (.inr u) x f = some y) : f u = some y := h
theorem wc_t {β : Type} {c : Prop} {i : Decidable c} {a b : Option β} {y : β} (h : c) (hf : @ite _ c i a b = some y) : a = some y := by rw [if_pos h] at hf; exact hf
theorem wc_f {β : Type} {c : Prop} {i : Decidable c} {a b : Option β} {y : β} (h : ¬ c) (hf : @ite _ c i a b = some y) : b = some y := by rw [if_neg h] at hf; exact hf
def wc_in (i : Int32) (n : Nat) : Bool := !(decide (i < 0) || decide (n ≤ i.toNatClampNeg))
theorem wc_in_e {i : Int32} {n : Nat} (h : wc_in i n = true) : vp_in i n := by
  intro q
  simp only [wc_in, Bool.not_eq_true', Bool.or_eq_false_iff, decide_eq_false_iff_not] at h
  rcases q with q | q
  · exact h.1 q
  · exact h.2 q
theorem wc_in_lt {i : Int32} {n : Nat} (h : wc_in i n = true) : i.toNatClampNeg < n := Nat.not_le.mp fun q => wc_in_e h (Or.inr q)
/-- from 0 on as many as i: within n -/
def wc_le (i : Int32) (n : Nat) : Bool := !(decide (i < 0)) && decide (i.toNatClampNeg ≤ n)
theorem wc_le_e {i : Int32} {n : Nat} (h : wc_le i n = true) : ¬ i < 0 ∧ i.toNatClampNeg ≤ n := by
  simpa only [wc_le, Bool.and_eq_true, Bool.not_eq_true', decide_eq_false_iff_not, decide_eq_true_eq] using h
/-- a truth value as the machine has it -/
def wc_z (v : Int32) : Bool := decide (v = 0) || decide (v = 1)
theorem wc_z_e {v : Int32} (h : wc_z v = true) : narrow .boolean (.int v) = .int v := by
  simp only [wc_z, Bool.or_eq_true, decide_eq_true_eq] at h
  rcases h with rfl | rfl
  · exact narrow_b0
  · exact narrow_b1
theorem wc_z_f {v : Int32} (h : wc_z v = true) : fits .boolean (.int v) = true := by
  simp only [wc_z, Bool.or_eq_true, decide_eq_true_eq] at h
  rcases h with rfl | rfl <;> rfl
/-- a state with another content of cell k -/
def wc_uA (σ : wc_S) (k : Nat) (f : Nat → Int32) : wc_S := fun k' => if k' = k then f else σ k'
def wc_u (σ : wc_S) (k i : Nat) (x : Int32) : wc_S := wc_uA σ k (upd (σ k) i x)
/-- the world: N cells, cell k at ad k, made of the k-th content -/
def wc_W (N : Nat) (ad : Nat → Nat) (mk : Nat → (Nat → Int32) → va_E) (σ : wc_S) : va_W := (List.range N).map (fun k => (ad k, mk k (σ k)))
theorem wc_at {N : Nat} {ad : Nat → Nat} {mk : Nat → (Nat → Int32) → va_E} {σ : wc_S} (k : Nat) {E : va_E} (hk : k < N) (hm : mk k (σ k) = E) : (wc_W N ad mk σ)[k]? = some (ad k, E) := by
  subst hm
  simp [wc_W, List.getElem?_map, List.getElem?_range hk]
theorem wc_set {N : Nat} {ad : Nat → Nat} {mk : Nat → (Nat → Int32) → va_E} {σ : wc_S} {k : Nat} {f : Nat → Int32} {E : va_E} (hm : mk k f = E) : (wc_W N ad mk σ).set k (ad k, E) = wc_W N ad mk (wc_uA σ k f) := by
  subst hm
  apply List.ext_getElem?
  intro j
  rw [List.getElem?_set]
  by_cases hj : j < N
  · by_cases hkj : k = j
    · subst hkj
      simp [wc_W, List.getElem?_range hj, hj, wc_uA]
    · rw [if_neg hkj]
      have h2 : ¬ j = k := fun h => hkj h.symm
      simp [wc_W, List.getElem?_range hj, wc_uA, h2]
  · have h1 : (wc_W N ad mk (wc_uA σ k f))[j]? = none := by simp [wc_W]; omega
    have h2 : (wc_W N ad mk σ)[j]? = none := by simp [wc_W]; omega
    rw [h1, h2]
    have h3 : ¬ j < (wc_W N ad mk σ).length := by simp [wc_W]; omega
    by_cases hkj : k = j
    · rw [if_pos hkj, if_neg (by rw [hkj]; exact h3)]
    · rw [if_neg hkj]
/-- whether the addresses are apart depends on the addresses alone -/
theorem wc_D {N : Nat} {ad : Nat → Nat} {mk : Nat → (Nat → Int32) → va_E} {σ τ : wc_S} {A : Nat → Prop} (h : va_D A (wc_W N ad mk σ)) : va_D A (wc_W N ad mk τ) := by
  have key : ∀ (k : Nat) (q : Nat × va_E), (wc_W N ad mk τ)[k]? = some q → (wc_W N ad mk σ)[k]? = some (q.1, mk k (σ k)) := by
    intro k q hk
    have hl : k < N := by
      have := (List.getElem?_eq_some_iff.mp hk).1
      simpa [wc_W] using this
    have e1 := wc_at (ad := ad) (mk := mk) (σ := τ) k hl rfl
    rw [e1] at hk
    cases hk
    exact wc_at k hl rfl
  exact ⟨fun i j x y hi hj hxy => h.1 i j _ _ (key i x hi) (key j y hj) hxy, fun k q hk => h.2 k (q.1, mk k (σ k)) (key k q hk)⟩
theorem wc_VA {N : Nat} {ad : Nat → Nat} {mk : Nat → (Nat → Int32) → va_E} {σ τ : wc_S} {sz q : Nat} (h : va_A (wc_W N ad mk σ) sz q) : va_A (wc_W N ad mk τ) sz q := by
  rcases h with ⟨k, e, h⟩ | h
  · have hl : k < N := by
      have := (List.getElem?_eq_some_iff.mp h).1
      simpa [wc_W] using this
    have e1 := wc_at (ad := ad) (mk := mk) (σ := σ) k hl rfl
    rw [e1] at h
    cases h
    exact Or.inl ⟨k, _, wc_at k hl rfl⟩
  · exact Or.inr h
theorem wc_inr {α : Type} {x y : α} (h : some x = some y) : some (Sum.inr x : wc_X α) = some (Sum.inr y) := by rw [Option.some.inj h]
def wc_big : Nat := 100000000000
theorem wc_st_n {α β : Type} {x : α} {f : α → Option β} {y : β} (h : wc_st x f = some y) : ∃ v, v = x ∧ f v = some y := ⟨x, rfl, h⟩
/-! what is written: outside S nothing -/
def wr_q (S : Nat → Nat → Prop) (σ τ : wc_S) : Prop := ∀ k i, ¬ S k i → τ k i = σ k i
def wr_sv (q : wc_X wc_S) : wc_S := match q with
  | .inl u => u.2
  | .inr u => u
def wr_si (q : wc_X (Int32 × wc_S)) : wc_S := match q with
  | .inl u => u.2
  | .inr u => u.2
theorem wr_0 {S : Nat → Nat → Prop} {σ : wc_S} : wr_q S σ σ := fun _ _ _ => rfl
theorem wr_u {S : Nat → Nat → Prop} {σ τ υ : wc_S} {k j : Nat} {x : Int32} (h : wr_q S σ τ) (e : υ = wc_u τ k j x) (hs : S k j) : wr_q S σ υ := by
  intro k' i' hn
  subst e
  rw [← h k' i' hn]
  by_cases hk : k' = k
  · subst hk
    by_cases hi : i' = j
    · subst hi; exact absurd hs hn
    · simp [wc_u, wc_uA, upd, hi]
  · simp [wc_u, wc_uA, hk]
theorem wr_A {S : Nat → Nat → Prop} {σ τ υ : wc_S} {k : Nat} {f : Nat → Int32} (h : wr_q S σ τ) (e : υ = wc_uA τ k f) (hs : ∀ i, S k i) : wr_q S σ υ := by
  intro k' i' hn
  subst e
  rw [← h k' i' hn]
  by_cases hk : k' = k
  · subst hk; exact absurd (hs i') hn
  · simp [wc_uA, hk]
theorem wr_x {S S' : Nat → Nat → Prop} {σ τ υ : wc_S} (h : wr_q S σ τ) (h2 : wr_q S' τ υ) (hs : ∀ k i, S' k i → S k i) : wr_q S σ υ := fun k i hn => (h2 k i (fun q => hn (hs k i q))).trans (h k i hn)
theorem wr_j {S : Nat → Nat → Prop} {σ τ υ : wc_S} (h : wr_q S σ τ) (h2 : wr_q S τ υ) : wr_q S σ υ := fun k i hn => (h2 k i hn).trans (h k i hn)
theorem wr_e {α : Type} {g : α → wc_S} {S : Nat → Nat → Prop} {σ : wc_S} {x res : α} (hm : wr_q S σ (g x)) (hf : some x = some res) : wr_q S σ (g res) := by
  rw [← Option.some.inj hf]; exact hm
end
section
/-! classes, their fields, the words of the tables; printed by a program of mine -/
def wx_TW : u_T := fun k => match k with
  | 0 => ("WidthCampaigns", "plant", "LWidthCampaigns$Plant;", true)
  | 1 => ("WidthCampaigns", "trial", "LWidthCampaigns$Line;", true)
  | 2 => ("WidthCampaigns", "standing", "LWidthCampaigns$Line;", true)
  | 3 => ("WidthCampaigns", "search", "LWidthCampaigns$Search;", true)
  | 4 => ("WidthCampaigns", "scratch", "[I", true)
  | 5 => ("WidthCampaigns", "ordered", "Z", false)
  | _ => ("WidthCampaigns", "searched", "Z", false)
def wx_tW : Nat → FieldType := fun k => match k with
  | 0 => (.object "WidthCampaigns$Plant")
  | 1 => (.object "WidthCampaigns$Line")
  | 2 => (.object "WidthCampaigns$Line")
  | 3 => (.object "WidthCampaigns$Search")
  | 4 => (.array .int)
  | 5 => .boolean
  | _ => .boolean
theorem wx_nW : ∀ a, a < 7 → ∀ b, b < 7 → a ≠ b → (wx_TW a).2.1 ≠ (wx_TW b).2.1 := by decide +kernel
theorem wx_toW : ∀ k, k < 7 → parseFieldDescriptor (wx_TW k).2.2.1 = some (wx_tW k) := by decide +kernel
def wx_TP : u_T := fun k => match k with
  | 0 => ("WidthCampaigns$Plant", "width", "[I", true)
  | 1 => ("WidthCampaigns$Plant", "thick", "[I", true)
  | 2 => ("WidthCampaigns$Plant", "hard", "[I", true)
  | 3 => ("WidthCampaigns$Plant", "kilometres", "[I", true)
  | 4 => ("WidthCampaigns$Plant", "last", "[I", true)
  | 5 => ("WidthCampaigns$Plant", "oldPlace", "[I", true)
  | 6 => ("WidthCampaigns$Plant", "jumpCost", "[[I", true)
  | 7 => ("WidthCampaigns$Plant", "hardJumps", "LWidthCampaigns$JumpTable;", true)
  | 8 => ("WidthCampaigns$Plant", "thickJumps", "LWidthCampaigns$JumpTable;", true)
  | 9 => ("WidthCampaigns$Plant", "groups", "LWidthCampaigns$WidthGroups;", true)
  | 10 => ("WidthCampaigns$Plant", "count", "I", false)
  | 11 => ("WidthCampaigns$Plant", "rise", "I", false)
  | 12 => ("WidthCampaigns$Plant", "wear", "I", false)
  | 13 => ("WidthCampaigns$Plant", "changeCents", "I", false)
  | _ => ("WidthCampaigns$Plant", "movedCents", "I", false)
def wx_tP : Nat → FieldType := fun k => match k with
  | 0 => (.array .int)
  | 1 => (.array .int)
  | 2 => (.array .int)
  | 3 => (.array .int)
  | 4 => (.array .int)
  | 5 => (.array .int)
  | 6 => (.array (.array .int))
  | 7 => (.object "WidthCampaigns$JumpTable")
  | 8 => (.object "WidthCampaigns$JumpTable")
  | 9 => (.object "WidthCampaigns$WidthGroups")
  | 10 => .int
  | 11 => .int
  | 12 => .int
  | 13 => .int
  | _ => .int
theorem wx_nP : ∀ a, a < 15 → ∀ b, b < 15 → a ≠ b → (wx_TP a).2.1 ≠ (wx_TP b).2.1 := by decide +kernel
theorem wx_toP : ∀ k, k < 15 → parseFieldDescriptor (wx_TP k).2.2.1 = some (wx_tP k) := by decide +kernel
def wx_TJ : u_T := fun k => match k with
  | 0 => ("WidthCampaigns$JumpTable", "from", "[I", true)
  | 1 => ("WidthCampaigns$JumpTable", "to", "[I", true)
  | 2 => ("WidthCampaigns$JumpTable", "cost", "[I", true)
  | _ => ("WidthCampaigns$JumpTable", "rows", "I", false)
def wx_tJ : Nat → FieldType := fun k => match k with
  | 0 => (.array .int)
  | 1 => (.array .int)
  | 2 => (.array .int)
  | _ => .int
theorem wx_nJ : ∀ a, a < 4 → ∀ b, b < 4 → a ≠ b → (wx_TJ a).2.1 ≠ (wx_TJ b).2.1 := by decide +kernel
theorem wx_toJ : ∀ k, k < 4 → parseFieldDescriptor (wx_TJ k).2.2.1 = some (wx_tJ k) := by decide +kernel
def wx_TG : u_T := fun k => match k with
  | 0 => ("WidthCampaigns$WidthGroups", "from", "[I", true)
  | 1 => ("WidthCampaigns$WidthGroups", "to", "[I", true)
  | 2 => ("WidthCampaigns$WidthGroups", "most", "[I", true)
  | _ => ("WidthCampaigns$WidthGroups", "count", "I", false)
def wx_tG : Nat → FieldType := fun k => match k with
  | 0 => (.array .int)
  | 1 => (.array .int)
  | 2 => (.array .int)
  | _ => .int
theorem wx_nG : ∀ a, a < 4 → ∀ b, b < 4 → a ≠ b → (wx_TG a).2.1 ≠ (wx_TG b).2.1 := by decide +kernel
theorem wx_toG : ∀ k, k < 4 → parseFieldDescriptor (wx_TG k).2.2.1 = some (wx_tG k) := by decide +kernel
def wx_TL : u_T := fun k => match k with
  | 0 => ("WidthCampaigns$Line", "plant", "LWidthCampaigns$Plant;", true)
  | 1 => ("WidthCampaigns$Line", "coils", "[I", true)
  | 2 => ("WidthCampaigns$Line", "stands", "[Z", true)
  | 3 => ("WidthCampaigns$Line", "changeAhead", "[Z", true)
  | 4 => ("WidthCampaigns$Line", "penalty", "[I", true)
  | 5 => ("WidthCampaigns$Line", "changes", "[I", true)
  | 6 => ("WidthCampaigns$Line", "moved", "[I", true)
  | 7 => ("WidthCampaigns$Line", "rolled", "[I", true)
  | 8 => ("WidthCampaigns$Line", "rolledInGroup", "[[I", true)
  | _ => ("WidthCampaigns$Line", "length", "I", false)
def wx_tL : Nat → FieldType := fun k => match k with
  | 0 => (.object "WidthCampaigns$Plant")
  | 1 => (.array .int)
  | 2 => (.array .boolean)
  | 3 => (.array .boolean)
  | 4 => (.array .int)
  | 5 => (.array .int)
  | 6 => (.array .int)
  | 7 => (.array .int)
  | 8 => (.array (.array .int))
  | _ => .int
theorem wx_nL : ∀ a, a < 10 → ∀ b, b < 10 → a ≠ b → (wx_TL a).2.1 ≠ (wx_TL b).2.1 := by decide +kernel
theorem wx_toL : ∀ k, k < 10 → parseFieldDescriptor (wx_TL k).2.2.1 = some (wx_tL k) := by decide +kernel
def wx_TS : u_T := fun k => match k with
  | 0 => ("WidthCampaigns$Search", "plant", "LWidthCampaigns$Plant;", true)
  | 1 => ("WidthCampaigns$Search", "line", "LWidthCampaigns$Line;", true)
  | 2 => ("WidthCampaigns$Search", "best", "[I", true)
  | 3 => ("WidthCampaigns$Search", "bestPenalty", "I", false)
  | 4 => ("WidthCampaigns$Search", "nodesLeft", "I", false)
  | 5 => ("WidthCampaigns$Search", "found", "Z", false)
  | _ => ("WidthCampaigns$Search", "leftOut", "Z", false)
def wx_tS : Nat → FieldType := fun k => match k with
  | 0 => (.object "WidthCampaigns$Plant")
  | 1 => (.object "WidthCampaigns$Line")
  | 2 => (.array .int)
  | 3 => .int
  | 4 => .int
  | 5 => .boolean
  | _ => .boolean
theorem wx_nS : ∀ a, a < 7 → ∀ b, b < 7 → a ≠ b → (wx_TS a).2.1 ≠ (wx_TS b).2.1 := by decide +kernel
theorem wx_toS : ∀ k, k < 7 → parseFieldDescriptor (wx_TS k).2.2.1 = some (wx_tS k) := by decide +kernel
def wx_TM : u_T := fun k => match k with
  | 0 => ("WidthCampaignsModel", "thrown", "I", false)
  | 1 => ("WidthCampaignsModel", "coils", "I", false)
  | 2 => ("WidthCampaignsModel", "width", "[I", true)
  | 3 => ("WidthCampaignsModel", "thick", "[I", true)
  | 4 => ("WidthCampaignsModel", "hard", "[I", true)
  | 5 => ("WidthCampaignsModel", "kilometres", "[I", true)
  | 6 => ("WidthCampaignsModel", "last", "[I", true)
  | 7 => ("WidthCampaignsModel", "old", "[I", true)
  | 8 => ("WidthCampaignsModel", "rows", "[I", true)
  | 9 => ("WidthCampaignsModel", "rowFrom", "[I", true)
  | 10 => ("WidthCampaignsModel", "rowTo", "[I", true)
  | 11 => ("WidthCampaignsModel", "rowCost", "[I", true)
  | 12 => ("WidthCampaignsModel", "groups", "I", false)
  | 13 => ("WidthCampaignsModel", "groupFrom", "[I", true)
  | 14 => ("WidthCampaignsModel", "groupTo", "[I", true)
  | 15 => ("WidthCampaignsModel", "groupMost", "[I", true)
  | 16 => ("WidthCampaignsModel", "rise", "I", false)
  | 17 => ("WidthCampaignsModel", "wear", "I", false)
  | 18 => ("WidthCampaignsModel", "changeCost", "I", false)
  | 19 => ("WidthCampaignsModel", "movedCost", "I", false)
  | 20 => ("WidthCampaignsModel", "searched", "Z", false)
  | 21 => ("WidthCampaignsModel", "proved", "Z", false)
  | 22 => ("WidthCampaignsModel", "ordered", "Z", false)
  | 23 => ("WidthCampaignsModel", "order", "[I", true)
  | 24 => ("WidthCampaignsModel", "tried", "[I", true)
  | 25 => ("WidthCampaignsModel", "penalty", "I", false)
  | 26 => ("WidthCampaignsModel", "changes", "I", false)
  | 27 => ("WidthCampaignsModel", "moved", "I", false)
  | _ => ("WidthCampaignsModel", "changed", "[Z", true)
def wx_tM : Nat → FieldType := fun k => match k with
  | 0 => .int
  | 1 => .int
  | 2 => (.array .int)
  | 3 => (.array .int)
  | 4 => (.array .int)
  | 5 => (.array .int)
  | 6 => (.array .int)
  | 7 => (.array .int)
  | 8 => (.array .int)
  | 9 => (.array .int)
  | 10 => (.array .int)
  | 11 => (.array .int)
  | 12 => .int
  | 13 => (.array .int)
  | 14 => (.array .int)
  | 15 => (.array .int)
  | 16 => .int
  | 17 => .int
  | 18 => .int
  | 19 => .int
  | 20 => .boolean
  | 21 => .boolean
  | 22 => .boolean
  | 23 => (.array .int)
  | 24 => (.array .int)
  | 25 => .int
  | 26 => .int
  | 27 => .int
  | _ => (.array .boolean)
theorem wx_nM : ∀ a, a < 29 → ∀ b, b < 29 → a ≠ b → (wx_TM a).2.1 ≠ (wx_TM b).2.1 := by decide +kernel
theorem wx_toM : ∀ k, k < 29 → parseFieldDescriptor (wx_TM k).2.2.1 = some (wx_tM k) := by decide +kernel
abbrev wx_cl : List vw_C := [("WidthCampaigns", wx_TW, 7), ("WidthCampaigns$Plant", wx_TP, 15), ("WidthCampaigns$JumpTable", wx_TJ, 4), ("WidthCampaigns$WidthGroups", wx_TG, 4), ("WidthCampaigns$Line", wx_TL, 10), ("WidthCampaigns$Search", wx_TS, 7), ("WidthCampaignsModel", wx_TM, 29)]
def wx_all : List Cond := lw_tbl.filter goodWord
theorem wx_mem {w : Cond} (i : Nat) (h : lw_tbl[i]? = some w) (hg : goodWord w = true) : w ∈ wx_all := List.mem_filter.mpr ⟨List.mem_of_getElem? h, hg⟩
theorem wx_hw {c0 w : Cond} {args : Array Value} {s : State} (hts : ∀ w ∈ c0 :: wx_all, w.before args s = true) (h : w ∈ wx_all) : w.before args s = true := hts w (List.mem_cons_of_mem _ h)
theorem wx_good {c0 c1 : Cond} (h : c1 ∈ wx_all) : GoodIn (c0 :: wx_all) (c1 :: wx_all) := by
  intro w hw
  have hm : w ∈ wx_all := by
    rcases List.mem_cons.mp hw with rfl | h1
    · exact h
    · exact h1
  exact ⟨List.mem_cons_of_mem _ hm, good_of_word (List.mem_filter.mp hm).2⟩
theorem wj_W : ∀ w ∈ u_ws "WidthCampaigns" wx_TW 7, w ∈ lw_tbl := by decide +kernel
theorem wj2_W : ∀ w ∈ u_ws "WidthCampaigns" wx_TW 7, goodWord w = true := by decide +kernel
theorem wi_W : ∀ w ∈ u_ws "WidthCampaigns" wx_TW 7, w ∈ wx_all := fun w h => List.mem_filter.mpr ⟨wj_W w h, wj2_W w h⟩
theorem wj_P : ∀ w ∈ u_ws "WidthCampaigns$Plant" wx_TP 15, w ∈ lw_tbl := by decide +kernel
theorem wj2_P : ∀ w ∈ u_ws "WidthCampaigns$Plant" wx_TP 15, goodWord w = true := by decide +kernel
theorem wi_P : ∀ w ∈ u_ws "WidthCampaigns$Plant" wx_TP 15, w ∈ wx_all := fun w h => List.mem_filter.mpr ⟨wj_P w h, wj2_P w h⟩
theorem wj_J : ∀ w ∈ u_ws "WidthCampaigns$JumpTable" wx_TJ 4, w ∈ lw_tbl := by decide +kernel
theorem wj2_J : ∀ w ∈ u_ws "WidthCampaigns$JumpTable" wx_TJ 4, goodWord w = true := by decide +kernel
theorem wi_J : ∀ w ∈ u_ws "WidthCampaigns$JumpTable" wx_TJ 4, w ∈ wx_all := fun w h => List.mem_filter.mpr ⟨wj_J w h, wj2_J w h⟩
theorem wj_G : ∀ w ∈ u_ws "WidthCampaigns$WidthGroups" wx_TG 4, w ∈ lw_tbl := by decide +kernel
theorem wj2_G : ∀ w ∈ u_ws "WidthCampaigns$WidthGroups" wx_TG 4, goodWord w = true := by decide +kernel
theorem wi_G : ∀ w ∈ u_ws "WidthCampaigns$WidthGroups" wx_TG 4, w ∈ wx_all := fun w h => List.mem_filter.mpr ⟨wj_G w h, wj2_G w h⟩
theorem wj_L : ∀ w ∈ u_ws "WidthCampaigns$Line" wx_TL 10, w ∈ lw_tbl := by decide +kernel
theorem wj2_L : ∀ w ∈ u_ws "WidthCampaigns$Line" wx_TL 10, goodWord w = true := by decide +kernel
theorem wi_L : ∀ w ∈ u_ws "WidthCampaigns$Line" wx_TL 10, w ∈ wx_all := fun w h => List.mem_filter.mpr ⟨wj_L w h, wj2_L w h⟩
theorem wj_S : ∀ w ∈ u_ws "WidthCampaigns$Search" wx_TS 7, w ∈ lw_tbl := by decide +kernel
theorem wj2_S : ∀ w ∈ u_ws "WidthCampaigns$Search" wx_TS 7, goodWord w = true := by decide +kernel
theorem wi_S : ∀ w ∈ u_ws "WidthCampaigns$Search" wx_TS 7, w ∈ wx_all := fun w h => List.mem_filter.mpr ⟨wj_S w h, wj2_S w h⟩
theorem wj_M : ∀ w ∈ u_ws "WidthCampaignsModel" wx_TM 29, w ∈ lw_tbl := by decide +kernel
theorem wj2_M : ∀ w ∈ u_ws "WidthCampaignsModel" wx_TM 29, goodWord w = true := by decide +kernel
theorem wi_M : ∀ w ∈ u_ws "WidthCampaignsModel" wx_TM 29, w ∈ wx_all := fun w h => List.mem_filter.mpr ⟨wj_M w h, wj2_M w h⟩
end
section
/-! words that rows use -/
theorem wt_1 : (.initialized "WidthCampaigns" : Cond) ∈ wx_all := wx_mem 45 (by decide +kernel) (by decide +kernel)
theorem wt_2 : (.initialized "WidthCampaigns$Plant" : Cond) ∈ wx_all := wx_mem 46 (by decide +kernel) (by decide +kernel)
theorem wt_3 : (.initialized "WidthCampaigns$JumpTable" : Cond) ∈ wx_all := wx_mem 47 (by decide +kernel) (by decide +kernel)
theorem wt_4 : (.initialized "WidthCampaigns$WidthGroups" : Cond) ∈ wx_all := wx_mem 48 (by decide +kernel) (by decide +kernel)
theorem wt_5 : (.initialized "WidthCampaigns$Line" : Cond) ∈ wx_all := wx_mem 49 (by decide +kernel) (by decide +kernel)
theorem wt_6 : (.initialized "WidthCampaigns$Search" : Cond) ∈ wx_all := wx_mem 50 (by decide +kernel) (by decide +kernel)
theorem wt_7 : (.initialized "WidthCampaignsModel" : Cond) ∈ wx_all := wx_mem 51 (by decide +kernel) (by decide +kernel)
theorem wt_11 : (.initialized "java/lang/IllegalArgumentException" : Cond) ∈ wx_all := wx_mem 55 (by decide +kernel) (by decide +kernel)
theorem wt_12 : (.initialized "java/lang/UnsupportedOperationException" : Cond) ∈ wx_all := wx_mem 56 (by decide +kernel) (by decide +kernel)
theorem wt_13 : (.initialized "java/lang/Math" : Cond) ∈ wx_all := wx_mem 57 (by decide +kernel) (by decide +kernel)
theorem wt_14 : (.initialized "java/lang/IndexOutOfBoundsException" : Cond) ∈ wx_all := wx_mem 58 (by decide +kernel) (by decide +kernel)
theorem wt_15 : (.initialized "java/lang/System" : Cond) ∈ wx_all := wx_mem 59 (by decide +kernel) (by decide +kernel)
theorem wt_16 : (.initialized "java/lang/IllegalStateException" : Cond) ∈ wx_all := wx_mem 60 (by decide +kernel) (by decide +kernel)
theorem wt_39 : (.fieldLink "WidthCampaigns$JumpTable" 9 "WidthCampaigns$JumpTable" "from" "[I" : Cond) ∈ wx_all := wx_mem 83 (by decide +kernel) (by decide +kernel)
theorem wt_40 : (.fieldLink "WidthCampaigns$JumpTable" 15 "WidthCampaigns$JumpTable" "to" "[I" : Cond) ∈ wx_all := wx_mem 84 (by decide +kernel) (by decide +kernel)
theorem wt_41 : (.fieldLink "WidthCampaigns$JumpTable" 18 "WidthCampaigns$JumpTable" "cost" "[I" : Cond) ∈ wx_all := wx_mem 85 (by decide +kernel) (by decide +kernel)
theorem wt_42 : (.fieldLink "WidthCampaigns$JumpTable" 21 "WidthCampaigns$JumpTable" "rows" "I" : Cond) ∈ wx_all := wx_mem 86 (by decide +kernel) (by decide +kernel)
theorem wt_60 : (.fieldLink "WidthCampaigns$WidthGroups" 9 "WidthCampaigns$WidthGroups" "from" "[I" : Cond) ∈ wx_all := wx_mem 104 (by decide +kernel) (by decide +kernel)
theorem wt_62 : (.fieldLink "WidthCampaigns$WidthGroups" 15 "WidthCampaigns$WidthGroups" "to" "[I" : Cond) ∈ wx_all := wx_mem 106 (by decide +kernel) (by decide +kernel)
theorem wt_64 : (.fieldLink "WidthCampaigns$WidthGroups" 18 "WidthCampaigns$WidthGroups" "most" "[I" : Cond) ∈ wx_all := wx_mem 108 (by decide +kernel) (by decide +kernel)
theorem wt_66 : (.fieldLink "WidthCampaigns$WidthGroups" 21 "WidthCampaigns$WidthGroups" "count" "I" : Cond) ∈ wx_all := wx_mem 110 (by decide +kernel) (by decide +kernel)
theorem wt_78 : (.fieldLink "WidthCampaigns$Plant" 9 "WidthCampaigns$Plant" "width" "[I" : Cond) ∈ wx_all := wx_mem 122 (by decide +kernel) (by decide +kernel)
theorem wt_80 : (.fieldLink "WidthCampaigns$Plant" 15 "WidthCampaigns$Plant" "thick" "[I" : Cond) ∈ wx_all := wx_mem 124 (by decide +kernel) (by decide +kernel)
theorem wt_81 : (.fieldLink "WidthCampaigns$Plant" 18 "WidthCampaigns$Plant" "hard" "[I" : Cond) ∈ wx_all := wx_mem 125 (by decide +kernel) (by decide +kernel)
theorem wt_82 : (.fieldLink "WidthCampaigns$Plant" 21 "WidthCampaigns$Plant" "kilometres" "[I" : Cond) ∈ wx_all := wx_mem 126 (by decide +kernel) (by decide +kernel)
theorem wt_84 : (.fieldLink "WidthCampaigns$Plant" 24 "WidthCampaigns$Plant" "last" "[I" : Cond) ∈ wx_all := wx_mem 128 (by decide +kernel) (by decide +kernel)
theorem wt_87 : (.fieldLink "WidthCampaigns$Plant" 27 "WidthCampaigns$Plant" "oldPlace" "[I" : Cond) ∈ wx_all := wx_mem 131 (by decide +kernel) (by decide +kernel)
theorem wt_90 : (.fieldLink "WidthCampaigns$Plant" 32 "WidthCampaigns$Plant" "jumpCost" "[[I" : Cond) ∈ wx_all := wx_mem 134 (by decide +kernel) (by decide +kernel)
theorem wt_93 : (.fieldLink "WidthCampaigns$Plant" 38 "WidthCampaigns$Plant" "hardJumps" "LWidthCampaigns$JumpTable;" : Cond) ∈ wx_all := wx_mem 137 (by decide +kernel) (by decide +kernel)
theorem wt_95 : (.fieldLink "WidthCampaigns$Plant" 42 "WidthCampaigns$Plant" "thickJumps" "LWidthCampaigns$JumpTable;" : Cond) ∈ wx_all := wx_mem 139 (by decide +kernel) (by decide +kernel)
theorem wt_97 : (.fieldLink "WidthCampaigns$Plant" 48 "WidthCampaigns$Plant" "groups" "LWidthCampaigns$WidthGroups;" : Cond) ∈ wx_all := wx_mem 141 (by decide +kernel) (by decide +kernel)
theorem wt_100 : (.fieldLink "WidthCampaigns$Plant" 62 "WidthCampaigns$Plant" "count" "I" : Cond) ∈ wx_all := wx_mem 144 (by decide +kernel) (by decide +kernel)
theorem wt_153 : (.fieldLink "WidthCampaigns$Line" 39 "WidthCampaigns$Line" "plant" "LWidthCampaigns$Plant;" : Cond) ∈ wx_all := wx_mem 197 (by decide +kernel) (by decide +kernel)
theorem wt_154 : (.fieldLink "WidthCampaigns$Line" 9 "WidthCampaigns$Line" "coils" "[I" : Cond) ∈ wx_all := wx_mem 198 (by decide +kernel) (by decide +kernel)
theorem wt_157 : (.fieldLink "WidthCampaigns$Line" 15 "WidthCampaigns$Line" "stands" "[Z" : Cond) ∈ wx_all := wx_mem 201 (by decide +kernel) (by decide +kernel)
theorem wt_158 : (.fieldLink "WidthCampaigns$Line" 19 "WidthCampaigns$Line" "changeAhead" "[Z" : Cond) ∈ wx_all := wx_mem 202 (by decide +kernel) (by decide +kernel)
theorem wt_160 : (.fieldLink "WidthCampaigns$Line" 22 "WidthCampaigns$Line" "penalty" "[I" : Cond) ∈ wx_all := wx_mem 204 (by decide +kernel) (by decide +kernel)
theorem wt_161 : (.fieldLink "WidthCampaigns$Line" 25 "WidthCampaigns$Line" "changes" "[I" : Cond) ∈ wx_all := wx_mem 205 (by decide +kernel) (by decide +kernel)
theorem wt_162 : (.fieldLink "WidthCampaigns$Line" 28 "WidthCampaigns$Line" "moved" "[I" : Cond) ∈ wx_all := wx_mem 206 (by decide +kernel) (by decide +kernel)
theorem wt_163 : (.fieldLink "WidthCampaigns$Line" 31 "WidthCampaigns$Line" "rolled" "[I" : Cond) ∈ wx_all := wx_mem 207 (by decide +kernel) (by decide +kernel)
theorem wt_164 : (.fieldLink "WidthCampaigns$Line" 36 "WidthCampaigns$Line" "rolledInGroup" "[[I" : Cond) ∈ wx_all := wx_mem 208 (by decide +kernel) (by decide +kernel)
theorem wt_165 : (.fieldLink "WidthCampaigns$Line" 43 "WidthCampaigns$Line" "length" "I" : Cond) ∈ wx_all := wx_mem 209 (by decide +kernel) (by decide +kernel)
theorem wt_194 : (.fieldLink "WidthCampaigns$Search" 15 "WidthCampaigns$Search" "plant" "LWidthCampaigns$Plant;" : Cond) ∈ wx_all := wx_mem 238 (by decide +kernel) (by decide +kernel)
theorem wt_195 : (.fieldLink "WidthCampaigns$Search" 19 "WidthCampaigns$Search" "line" "LWidthCampaigns$Line;" : Cond) ∈ wx_all := wx_mem 239 (by decide +kernel) (by decide +kernel)
theorem wt_196 : (.fieldLink "WidthCampaigns$Search" 9 "WidthCampaigns$Search" "best" "[I" : Cond) ∈ wx_all := wx_mem 240 (by decide +kernel) (by decide +kernel)
theorem wt_198 : (.fieldLink "WidthCampaigns$Search" 30 "WidthCampaigns$Search" "bestPenalty" "I" : Cond) ∈ wx_all := wx_mem 242 (by decide +kernel) (by decide +kernel)
theorem wt_199 : (.fieldLink "WidthCampaigns$Search" 23 "WidthCampaigns$Search" "nodesLeft" "I" : Cond) ∈ wx_all := wx_mem 243 (by decide +kernel) (by decide +kernel)
theorem wt_200 : (.fieldLink "WidthCampaigns$Search" 33 "WidthCampaigns$Search" "found" "Z" : Cond) ∈ wx_all := wx_mem 244 (by decide +kernel) (by decide +kernel)
theorem wt_202 : (.fieldLink "WidthCampaigns$Search" 37 "WidthCampaigns$Search" "leftOut" "Z" : Cond) ∈ wx_all := wx_mem 246 (by decide +kernel) (by decide +kernel)
theorem wt_219 : (.fieldLink "WidthCampaigns" 10 "WidthCampaigns" "plant" "LWidthCampaigns$Plant;" : Cond) ∈ wx_all := wx_mem 263 (by decide +kernel) (by decide +kernel)
theorem wt_220 : (.fieldLink "WidthCampaigns" 21 "WidthCampaigns" "trial" "LWidthCampaigns$Line;" : Cond) ∈ wx_all := wx_mem 264 (by decide +kernel) (by decide +kernel)
theorem wt_221 : (.fieldLink "WidthCampaigns" 25 "WidthCampaigns" "standing" "LWidthCampaigns$Line;" : Cond) ∈ wx_all := wx_mem 265 (by decide +kernel) (by decide +kernel)
theorem wt_222 : (.fieldLink "WidthCampaigns" 33 "WidthCampaigns" "search" "LWidthCampaigns$Search;" : Cond) ∈ wx_all := wx_mem 266 (by decide +kernel) (by decide +kernel)
theorem wt_223 : (.fieldLink "WidthCampaigns" 37 "WidthCampaigns" "scratch" "[I" : Cond) ∈ wx_all := wx_mem 267 (by decide +kernel) (by decide +kernel)
theorem wt_224 : (.fieldLink "WidthCampaigns" 154 "WidthCampaigns" "ordered" "Z" : Cond) ∈ wx_all := wx_mem 268 (by decide +kernel) (by decide +kernel)
theorem wt_225 : (.fieldLink "WidthCampaigns" 147 "WidthCampaigns" "searched" "Z" : Cond) ∈ wx_all := wx_mem 269 (by decide +kernel) (by decide +kernel)
theorem wt_247 : (.instanceMethod ⟨"WidthCampaigns$Plant", "leastJumpTo", "(I)I"⟩ : Cond) ∈ wx_all := wx_mem 291 (by decide +kernel) (by decide +kernel)
theorem wt_248 : (.code ⟨"WidthCampaigns$Plant", "leastJumpTo", "(I)I"⟩ prog_4_method_5_code 5 (Option.some Jvm.ClassFile.FieldType.int) : Cond) ∈ wx_all := wx_mem 292 (by decide +kernel) (by decide +kernel)
theorem wt_249 : (.methodLink "WidthCampaigns" 207 ⟨"java/lang/Math", "max", "(II)I"⟩ : Cond) ∈ wx_all := wx_mem 293 (by decide +kernel) (by decide +kernel)
theorem wt_250 : (.static ⟨"java/lang/Math", "max", "(II)I"⟩ : Cond) ∈ wx_all := wx_mem 294 (by decide +kernel) (by decide +kernel)
theorem wt_251 : (.code ⟨"java/lang/Math", "max", "(II)I"⟩ prog_13_method_65_code 2 (Option.some Jvm.ClassFile.FieldType.int) : Cond) ∈ wx_all := wx_mem 295 (by decide +kernel) (by decide +kernel)
theorem wt_257 : (.methodLink "WidthCampaignsLaw" 7 ⟨"WidthCampaigns", "coil", "(IIII)I"⟩ : Cond) ∈ wx_all := wx_mem 301 (by decide +kernel) (by decide +kernel)
theorem wt_258 : (.instanceMethod ⟨"WidthCampaigns", "coil", "(IIII)I"⟩ : Cond) ∈ wx_all := wx_mem 302 (by decide +kernel) (by decide +kernel)
theorem wt_259 : (.selects "WidthCampaigns" ⟨"WidthCampaigns", "coil", "(IIII)I"⟩ ⟨"WidthCampaigns", "coil", "(IIII)I"⟩ : Cond) ∈ wx_all := wx_mem 303 (by decide +kernel) (by decide +kernel)
theorem wt_260 : (.code ⟨"WidthCampaigns", "coil", "(IIII)I"⟩ prog_1_method_2_code 5 (Option.some Jvm.ClassFile.FieldType.int) : Cond) ∈ wx_all := wx_mem 304 (by decide +kernel) (by decide +kernel)
theorem wt_261 : (.methodLink "WidthCampaigns" 41 ⟨"WidthCampaigns", "isOutside", "(III)Z"⟩ : Cond) ∈ wx_all := wx_mem 305 (by decide +kernel) (by decide +kernel)
theorem wt_262 : (.static ⟨"WidthCampaigns", "isOutside", "(III)Z"⟩ : Cond) ∈ wx_all := wx_mem 306 (by decide +kernel) (by decide +kernel)
theorem wt_263 : (.code ⟨"WidthCampaigns", "isOutside", "(III)Z"⟩ prog_1_method_17_code 3 (Option.some Jvm.ClassFile.FieldType.boolean) : Cond) ∈ wx_all := wx_mem 307 (by decide +kernel) (by decide +kernel)
theorem wt_264 : (.classLink "WidthCampaigns" 45 "java/lang/IllegalArgumentException" : Cond) ∈ wx_all := wx_mem 308 (by decide +kernel) (by decide +kernel)
theorem wt_333 : (.classLink "WidthCampaigns" 56 "java/lang/UnsupportedOperationException" : Cond) ∈ wx_all := wx_mem 377 (by decide +kernel) (by decide +kernel)
theorem wt_349 : (.methodLink "WidthCampaigns" 61 ⟨"WidthCampaigns", "forgetOrder", "()V"⟩ : Cond) ∈ wx_all := wx_mem 393 (by decide +kernel) (by decide +kernel)
theorem wt_351 : (.instanceMethod ⟨"WidthCampaigns", "forgetOrder", "()V"⟩ : Cond) ∈ wx_all := wx_mem 395 (by decide +kernel) (by decide +kernel)
theorem wt_352 : (.code ⟨"WidthCampaigns", "forgetOrder", "()V"⟩ prog_1_method_19_code 1 (Option.none : Option Jvm.ClassFile.FieldType) : Cond) ∈ wx_all := wx_mem 396 (by decide +kernel) (by decide +kernel)
theorem wt_355 : (.instanceMethod ⟨"WidthCampaigns$Plant", "addCoil", "(IIII)I"⟩ : Cond) ∈ wx_all := wx_mem 399 (by decide +kernel) (by decide +kernel)
theorem wt_356 : (.code ⟨"WidthCampaigns$Plant", "addCoil", "(IIII)I"⟩ prog_4_method_2_code 6 (Option.some Jvm.ClassFile.FieldType.int) : Cond) ∈ wx_all := wx_mem 400 (by decide +kernel) (by decide +kernel)
theorem wt_357 : (.methodLink "WidthCampaigns$Plant" 65 ⟨"WidthCampaigns$Plant", "reckonJumps", "()V"⟩ : Cond) ∈ wx_all := wx_mem 401 (by decide +kernel) (by decide +kernel)
theorem wt_359 : (.instanceMethod ⟨"WidthCampaigns$Plant", "reckonJumps", "()V"⟩ : Cond) ∈ wx_all := wx_mem 403 (by decide +kernel) (by decide +kernel)
theorem wt_360 : (.code ⟨"WidthCampaigns$Plant", "reckonJumps", "()V"⟩ prog_4_method_3_code 3 (Option.none : Option Jvm.ClassFile.FieldType) : Cond) ∈ wx_all := wx_mem 404 (by decide +kernel) (by decide +kernel)
theorem wt_361 : (.methodLink "WidthCampaigns$Plant" 68 ⟨"WidthCampaigns$Plant", "reckonJump", "(II)I"⟩ : Cond) ∈ wx_all := wx_mem 405 (by decide +kernel) (by decide +kernel)
theorem wt_363 : (.instanceMethod ⟨"WidthCampaigns$Plant", "reckonJump", "(II)I"⟩ : Cond) ∈ wx_all := wx_mem 407 (by decide +kernel) (by decide +kernel)
theorem wt_364 : (.code ⟨"WidthCampaigns$Plant", "reckonJump", "(II)I"⟩ prog_4_method_4_code 5 (Option.some Jvm.ClassFile.FieldType.int) : Cond) ∈ wx_all := wx_mem 408 (by decide +kernel) (by decide +kernel)
theorem wt_365 : (.methodLink "WidthCampaigns$Plant" 72 ⟨"java/lang/Math", "abs", "(I)I"⟩ : Cond) ∈ wx_all := wx_mem 409 (by decide +kernel) (by decide +kernel)
theorem wt_366 : (.static ⟨"java/lang/Math", "abs", "(I)I"⟩ : Cond) ∈ wx_all := wx_mem 410 (by decide +kernel) (by decide +kernel)
theorem wt_367 : (.code ⟨"java/lang/Math", "abs", "(I)I"⟩ prog_13_method_59_code 1 (Option.some Jvm.ClassFile.FieldType.int) : Cond) ∈ wx_all := wx_mem 411 (by decide +kernel) (by decide +kernel)
theorem wt_370 : (.instanceMethod ⟨"WidthCampaigns$JumpTable", "costOf", "(I)I"⟩ : Cond) ∈ wx_all := wx_mem 414 (by decide +kernel) (by decide +kernel)
theorem wt_371 : (.code ⟨"WidthCampaigns$JumpTable", "costOf", "(I)I"⟩ prog_2_method_3_code 3 (Option.some Jvm.ClassFile.FieldType.int) : Cond) ∈ wx_all := wx_mem 415 (by decide +kernel) (by decide +kernel)
theorem wt_376 : (.methodLink "WidthCampaignsLaw" 17 ⟨"WidthCampaigns", "table", "(IIII)I"⟩ : Cond) ∈ wx_all := wx_mem 420 (by decide +kernel) (by decide +kernel)
theorem wt_377 : (.instanceMethod ⟨"WidthCampaigns", "table", "(IIII)I"⟩ : Cond) ∈ wx_all := wx_mem 421 (by decide +kernel) (by decide +kernel)
theorem wt_378 : (.selects "WidthCampaigns" ⟨"WidthCampaigns", "table", "(IIII)I"⟩ ⟨"WidthCampaigns", "table", "(IIII)I"⟩ : Cond) ∈ wx_all := wx_mem 422 (by decide +kernel) (by decide +kernel)
theorem wt_379 : (.code ⟨"WidthCampaigns", "table", "(IIII)I"⟩ prog_1_method_3_code 6 (Option.some Jvm.ClassFile.FieldType.int) : Cond) ∈ wx_all := wx_mem 423 (by decide +kernel) (by decide +kernel)
theorem wt_380 : (.classLink "WidthCampaigns" 68 "java/lang/IndexOutOfBoundsException" : Cond) ∈ wx_all := wx_mem 424 (by decide +kernel) (by decide +kernel)
theorem wt_400 : (.instanceMethod ⟨"WidthCampaigns$JumpTable", "addRow", "(III)V"⟩ : Cond) ∈ wx_all := wx_mem 444 (by decide +kernel) (by decide +kernel)
theorem wt_401 : (.code ⟨"WidthCampaigns$JumpTable", "addRow", "(III)V"⟩ prog_2_method_2_code 4 (Option.none : Option Jvm.ClassFile.FieldType) : Cond) ∈ wx_all := wx_mem 445 (by decide +kernel) (by decide +kernel)
theorem wt_406 : (.methodLink "WidthCampaignsLaw" 22 ⟨"WidthCampaigns", "group", "(III)I"⟩ : Cond) ∈ wx_all := wx_mem 450 (by decide +kernel) (by decide +kernel)
theorem wt_407 : (.instanceMethod ⟨"WidthCampaigns", "group", "(III)I"⟩ : Cond) ∈ wx_all := wx_mem 451 (by decide +kernel) (by decide +kernel)
theorem wt_408 : (.selects "WidthCampaigns" ⟨"WidthCampaigns", "group", "(III)I"⟩ ⟨"WidthCampaigns", "group", "(III)I"⟩ : Cond) ∈ wx_all := wx_mem 452 (by decide +kernel) (by decide +kernel)
theorem wt_409 : (.code ⟨"WidthCampaigns", "group", "(III)I"⟩ prog_1_method_4_code 4 (Option.some Jvm.ClassFile.FieldType.int) : Cond) ∈ wx_all := wx_mem 453 (by decide +kernel) (by decide +kernel)
theorem wt_414 : (.instanceMethod ⟨"WidthCampaigns$WidthGroups", "addGroup", "(III)V"⟩ : Cond) ∈ wx_all := wx_mem 458 (by decide +kernel) (by decide +kernel)
theorem wt_415 : (.code ⟨"WidthCampaigns$WidthGroups", "addGroup", "(III)V"⟩ prog_6_method_2_code 4 (Option.none : Option Jvm.ClassFile.FieldType) : Cond) ∈ wx_all := wx_mem 459 (by decide +kernel) (by decide +kernel)
theorem wt_419 : (.methodLink "WidthCampaignsLaw" 26 ⟨"WidthCampaigns", "urgent", "(II)V"⟩ : Cond) ∈ wx_all := wx_mem 463 (by decide +kernel) (by decide +kernel)
theorem wt_420 : (.instanceMethod ⟨"WidthCampaigns", "urgent", "(II)V"⟩ : Cond) ∈ wx_all := wx_mem 464 (by decide +kernel) (by decide +kernel)
theorem wt_421 : (.selects "WidthCampaigns" ⟨"WidthCampaigns", "urgent", "(II)V"⟩ ⟨"WidthCampaigns", "urgent", "(II)V"⟩ : Cond) ∈ wx_all := wx_mem 465 (by decide +kernel) (by decide +kernel)
theorem wt_422 : (.code ⟨"WidthCampaigns", "urgent", "(II)V"⟩ prog_1_method_5_code 3 (Option.none : Option Jvm.ClassFile.FieldType) : Cond) ∈ wx_all := wx_mem 466 (by decide +kernel) (by decide +kernel)
theorem wt_423 : (.methodLink "WidthCampaigns" 110 ⟨"WidthCampaigns", "isNoCoil", "(I)Z"⟩ : Cond) ∈ wx_all := wx_mem 467 (by decide +kernel) (by decide +kernel)
theorem wt_425 : (.instanceMethod ⟨"WidthCampaigns", "isNoCoil", "(I)Z"⟩ : Cond) ∈ wx_all := wx_mem 469 (by decide +kernel) (by decide +kernel)
theorem wt_426 : (.code ⟨"WidthCampaigns", "isNoCoil", "(I)Z"⟩ prog_1_method_18_code 2 (Option.some Jvm.ClassFile.FieldType.boolean) : Cond) ∈ wx_all := wx_mem 470 (by decide +kernel) (by decide +kernel)
theorem wt_432 : (.methodLink "WidthCampaignsLaw" 30 ⟨"WidthCampaigns", "old", "(II)V"⟩ : Cond) ∈ wx_all := wx_mem 476 (by decide +kernel) (by decide +kernel)
theorem wt_433 : (.instanceMethod ⟨"WidthCampaigns", "old", "(II)V"⟩ : Cond) ∈ wx_all := wx_mem 477 (by decide +kernel) (by decide +kernel)
theorem wt_434 : (.selects "WidthCampaigns" ⟨"WidthCampaigns", "old", "(II)V"⟩ ⟨"WidthCampaigns", "old", "(II)V"⟩ : Cond) ∈ wx_all := wx_mem 478 (by decide +kernel) (by decide +kernel)
theorem wt_435 : (.code ⟨"WidthCampaigns", "old", "(II)V"⟩ prog_1_method_6_code 3 (Option.none : Option Jvm.ClassFile.FieldType) : Cond) ∈ wx_all := wx_mem 479 (by decide +kernel) (by decide +kernel)
theorem wt_440 : (.methodLink "WidthCampaignsLaw" 33 ⟨"WidthCampaigns", "rules", "(IIII)V"⟩ : Cond) ∈ wx_all := wx_mem 484 (by decide +kernel) (by decide +kernel)
theorem wt_441 : (.instanceMethod ⟨"WidthCampaigns", "rules", "(IIII)V"⟩ : Cond) ∈ wx_all := wx_mem 485 (by decide +kernel) (by decide +kernel)
theorem wt_442 : (.selects "WidthCampaigns" ⟨"WidthCampaigns", "rules", "(IIII)V"⟩ ⟨"WidthCampaigns", "rules", "(IIII)V"⟩ : Cond) ∈ wx_all := wx_mem 486 (by decide +kernel) (by decide +kernel)
theorem wt_443 : (.code ⟨"WidthCampaigns", "rules", "(IIII)V"⟩ prog_1_method_7_code 5 (Option.none : Option Jvm.ClassFile.FieldType) : Cond) ∈ wx_all := wx_mem 487 (by decide +kernel) (by decide +kernel)
theorem wt_448 : (.methodLink "WidthCampaignsLaw" 37 ⟨"WidthCampaigns", "run", "(I)I"⟩ : Cond) ∈ wx_all := wx_mem 492 (by decide +kernel) (by decide +kernel)
theorem wt_449 : (.instanceMethod ⟨"WidthCampaigns", "run", "(I)I"⟩ : Cond) ∈ wx_all := wx_mem 493 (by decide +kernel) (by decide +kernel)
theorem wt_450 : (.selects "WidthCampaigns" ⟨"WidthCampaigns", "run", "(I)I"⟩ ⟨"WidthCampaigns", "run", "(I)I"⟩ : Cond) ∈ wx_all := wx_mem 494 (by decide +kernel) (by decide +kernel)
theorem wt_451 : (.code ⟨"WidthCampaigns", "run", "(I)I"⟩ prog_1_method_8_code 2 (Option.some Jvm.ClassFile.FieldType.int) : Cond) ∈ wx_all := wx_mem 495 (by decide +kernel) (by decide +kernel)
theorem wt_452 : (.constant "WidthCampaigns" 140 100000 : Cond) ∈ wx_all := wx_mem 496 (by decide +kernel) (by decide +kernel)
theorem wt_456 : (.instanceMethod ⟨"WidthCampaigns$Search", "searchWith", "(I)V"⟩ : Cond) ∈ wx_all := wx_mem 500 (by decide +kernel) (by decide +kernel)
theorem wt_457 : (.code ⟨"WidthCampaigns$Search", "searchWith", "(I)V"⟩ prog_5_method_2_code 2 (Option.none : Option Jvm.ClassFile.FieldType) : Cond) ∈ wx_all := wx_mem 501 (by decide +kernel) (by decide +kernel)
theorem wt_458 : (.constant "WidthCampaigns$Search" 29 2147483647 : Cond) ∈ wx_all := wx_mem 502 (by decide +kernel) (by decide +kernel)
theorem wt_461 : (.instanceMethod ⟨"WidthCampaigns$Line", "clear", "()V"⟩ : Cond) ∈ wx_all := wx_mem 505 (by decide +kernel) (by decide +kernel)
theorem wt_462 : (.code ⟨"WidthCampaigns$Line", "clear", "()V"⟩ prog_3_method_5_code 2 (Option.none : Option Jvm.ClassFile.FieldType) : Cond) ∈ wx_all := wx_mem 506 (by decide +kernel) (by decide +kernel)
theorem wt_463 : (.methodLink "WidthCampaigns$Search" 45 ⟨"WidthCampaigns$Search", "goOnAt", "(I)V"⟩ : Cond) ∈ wx_all := wx_mem 507 (by decide +kernel) (by decide +kernel)
theorem wt_465 : (.instanceMethod ⟨"WidthCampaigns$Search", "goOnAt", "(I)V"⟩ : Cond) ∈ wx_all := wx_mem 509 (by decide +kernel) (by decide +kernel)
theorem wt_466 : (.code ⟨"WidthCampaigns$Search", "goOnAt", "(I)V"⟩ prog_5_method_3_code 3 (Option.none : Option Jvm.ClassFile.FieldType) : Cond) ∈ wx_all := wx_mem 510 (by decide +kernel) (by decide +kernel)
theorem wt_467 : (.methodLink "WidthCampaigns$Search" 54 ⟨"WidthCampaigns$Search", "keepBest", "()V"⟩ : Cond) ∈ wx_all := wx_mem 511 (by decide +kernel) (by decide +kernel)
theorem wt_469 : (.instanceMethod ⟨"WidthCampaigns$Search", "keepBest", "()V"⟩ : Cond) ∈ wx_all := wx_mem 513 (by decide +kernel) (by decide +kernel)
theorem wt_470 : (.code ⟨"WidthCampaigns$Search", "keepBest", "()V"⟩ prog_5_method_5_code 1 (Option.none : Option Jvm.ClassFile.FieldType) : Cond) ∈ wx_all := wx_mem 514 (by decide +kernel) (by decide +kernel)
theorem wt_473 : (.instanceMethod ⟨"WidthCampaigns$Line", "penaltySoFar", "()I"⟩ : Cond) ∈ wx_all := wx_mem 517 (by decide +kernel) (by decide +kernel)
theorem wt_474 : (.code ⟨"WidthCampaigns$Line", "penaltySoFar", "()I"⟩ prog_3_method_2_code 1 (Option.some Jvm.ClassFile.FieldType.int) : Cond) ∈ wx_all := wx_mem 518 (by decide +kernel) (by decide +kernel)
theorem wt_475 : (.methodLink "WidthCampaigns$Search" 78 ⟨"java/lang/System", "arraycopy", "(Ljava/lang/Object;ILjava/lang/Object;II)V"⟩ : Cond) ∈ wx_all := wx_mem 519 (by decide +kernel) (by decide +kernel)
theorem wt_476 : (.static ⟨"java/lang/System", "arraycopy", "(Ljava/lang/Object;ILjava/lang/Object;II)V"⟩ : Cond) ∈ wx_all := wx_mem 520 (by decide +kernel) (by decide +kernel)
theorem wt_477 : (.native ⟨"java/lang/System", "arraycopy", "(Ljava/lang/Object;ILjava/lang/Object;II)V"⟩ : Cond) ∈ wx_all := wx_mem 521 (by decide +kernel) (by decide +kernel)
theorem wt_480 : (.instanceMethod ⟨"WidthCampaigns$Line", "mayPut", "(I)Z"⟩ : Cond) ∈ wx_all := wx_mem 524 (by decide +kernel) (by decide +kernel)
theorem wt_481 : (.code ⟨"WidthCampaigns$Line", "mayPut", "(I)Z"⟩ prog_3_method_7_code 2 (Option.some Jvm.ClassFile.FieldType.boolean) : Cond) ∈ wx_all := wx_mem 525 (by decide +kernel) (by decide +kernel)
theorem wt_482 : (.methodLink "WidthCampaigns$Line" 66 ⟨"WidthCampaigns$Line", "mayFollow", "(II)Z"⟩ : Cond) ∈ wx_all := wx_mem 526 (by decide +kernel) (by decide +kernel)
theorem wt_484 : (.instanceMethod ⟨"WidthCampaigns$Line", "mayFollow", "(II)Z"⟩ : Cond) ∈ wx_all := wx_mem 528 (by decide +kernel) (by decide +kernel)
theorem wt_485 : (.code ⟨"WidthCampaigns$Line", "mayFollow", "(II)Z"⟩ prog_3_method_8_code 4 (Option.some Jvm.ClassFile.FieldType.boolean) : Cond) ∈ wx_all := wx_mem 529 (by decide +kernel) (by decide +kernel)
theorem wt_486 : (.methodLink "WidthCampaigns$Search" 61 ⟨"WidthCampaigns$Search", "putAndGoOn", "(II)V"⟩ : Cond) ∈ wx_all := wx_mem 530 (by decide +kernel) (by decide +kernel)
theorem wt_488 : (.instanceMethod ⟨"WidthCampaigns$Search", "putAndGoOn", "(II)V"⟩ : Cond) ∈ wx_all := wx_mem 532 (by decide +kernel) (by decide +kernel)
theorem wt_489 : (.code ⟨"WidthCampaigns$Search", "putAndGoOn", "(II)V"⟩ prog_5_method_4_code 3 (Option.none : Option Jvm.ClassFile.FieldType) : Cond) ∈ wx_all := wx_mem 533 (by decide +kernel) (by decide +kernel)
theorem wt_492 : (.instanceMethod ⟨"WidthCampaigns$Line", "put", "(I)V"⟩ : Cond) ∈ wx_all := wx_mem 536 (by decide +kernel) (by decide +kernel)
theorem wt_493 : (.code ⟨"WidthCampaigns$Line", "put", "(I)V"⟩ prog_3_method_9_code 3 (Option.none : Option Jvm.ClassFile.FieldType) : Cond) ∈ wx_all := wx_mem 537 (by decide +kernel) (by decide +kernel)
theorem wt_494 : (.methodLink "WidthCampaigns$Line" 79 ⟨"WidthCampaigns$Line", "isWornWith", "(I)Z"⟩ : Cond) ∈ wx_all := wx_mem 538 (by decide +kernel) (by decide +kernel)
theorem wt_496 : (.instanceMethod ⟨"WidthCampaigns$Line", "isWornWith", "(I)Z"⟩ : Cond) ∈ wx_all := wx_mem 540 (by decide +kernel) (by decide +kernel)
theorem wt_497 : (.code ⟨"WidthCampaigns$Line", "isWornWith", "(I)Z"⟩ prog_3_method_11_code 4 (Option.some Jvm.ClassFile.FieldType.boolean) : Cond) ∈ wx_all := wx_mem 541 (by decide +kernel) (by decide +kernel)
theorem wt_500 : (.instanceMethod ⟨"WidthCampaigns$Plant", "kilometresInGroup", "(II)I"⟩ : Cond) ∈ wx_all := wx_mem 544 (by decide +kernel) (by decide +kernel)
theorem wt_501 : (.code ⟨"WidthCampaigns$Plant", "kilometresInGroup", "(II)I"⟩ prog_4_method_6_code 4 (Option.some Jvm.ClassFile.FieldType.int) : Cond) ∈ wx_all := wx_mem 545 (by decide +kernel) (by decide +kernel)
theorem wt_502 : (.methodLink "WidthCampaigns$Line" 82 ⟨"WidthCampaigns$Line", "countKilometres", "(IZ)V"⟩ : Cond) ∈ wx_all := wx_mem 546 (by decide +kernel) (by decide +kernel)
theorem wt_504 : (.instanceMethod ⟨"WidthCampaigns$Line", "countKilometres", "(IZ)V"⟩ : Cond) ∈ wx_all := wx_mem 548 (by decide +kernel) (by decide +kernel)
theorem wt_505 : (.code ⟨"WidthCampaigns$Line", "countKilometres", "(IZ)V"⟩ prog_3_method_12_code 6 (Option.none : Option Jvm.ClassFile.FieldType) : Cond) ∈ wx_all := wx_mem 549 (by decide +kernel) (by decide +kernel)
theorem wt_506 : (.methodLink "WidthCampaigns$Line" 86 ⟨"WidthCampaigns$Line", "countCosts", "(IZ)V"⟩ : Cond) ∈ wx_all := wx_mem 550 (by decide +kernel) (by decide +kernel)
theorem wt_508 : (.instanceMethod ⟨"WidthCampaigns$Line", "countCosts", "(IZ)V"⟩ : Cond) ∈ wx_all := wx_mem 552 (by decide +kernel) (by decide +kernel)
theorem wt_509 : (.code ⟨"WidthCampaigns$Line", "countCosts", "(IZ)V"⟩ prog_3_method_13_code 7 (Option.none : Option Jvm.ClassFile.FieldType) : Cond) ∈ wx_all := wx_mem 553 (by decide +kernel) (by decide +kernel)
theorem wt_512 : (.instanceMethod ⟨"WidthCampaigns$Line", "takeBack", "()V"⟩ : Cond) ∈ wx_all := wx_mem 556 (by decide +kernel) (by decide +kernel)
theorem wt_513 : (.code ⟨"WidthCampaigns$Line", "takeBack", "()V"⟩ prog_3_method_10_code 1 (Option.none : Option Jvm.ClassFile.FieldType) : Cond) ∈ wx_all := wx_mem 557 (by decide +kernel) (by decide +kernel)
theorem wt_516 : (.instanceMethod ⟨"WidthCampaigns$Line", "layAll", "([I)Z"⟩ : Cond) ∈ wx_all := wx_mem 560 (by decide +kernel) (by decide +kernel)
theorem wt_517 : (.code ⟨"WidthCampaigns$Line", "layAll", "([I)Z"⟩ prog_3_method_6_code 3 (Option.some Jvm.ClassFile.FieldType.boolean) : Cond) ∈ wx_all := wx_mem 561 (by decide +kernel) (by decide +kernel)
theorem wt_518 : (.methodLink "WidthCampaigns$Line" 47 ⟨"WidthCampaigns$Line", "clear", "()V"⟩ : Cond) ∈ wx_all := wx_mem 562 (by decide +kernel) (by decide +kernel)
theorem wt_519 : (.methodLink "WidthCampaigns$Line" 55 ⟨"WidthCampaigns$Line", "mayPut", "(I)Z"⟩ : Cond) ∈ wx_all := wx_mem 563 (by decide +kernel) (by decide +kernel)
theorem wt_520 : (.methodLink "WidthCampaigns$Line" 59 ⟨"WidthCampaigns$Line", "put", "(I)V"⟩ : Cond) ∈ wx_all := wx_mem 564 (by decide +kernel) (by decide +kernel)
theorem wt_525 : (.methodLink "WidthCampaignsLaw" 41 ⟨"WidthCampaigns", "proved", "()Z"⟩ : Cond) ∈ wx_all := wx_mem 569 (by decide +kernel) (by decide +kernel)
theorem wt_526 : (.instanceMethod ⟨"WidthCampaigns", "proved", "()Z"⟩ : Cond) ∈ wx_all := wx_mem 570 (by decide +kernel) (by decide +kernel)
theorem wt_527 : (.selects "WidthCampaigns" ⟨"WidthCampaigns", "proved", "()Z"⟩ ⟨"WidthCampaigns", "proved", "()Z"⟩ : Cond) ∈ wx_all := wx_mem 571 (by decide +kernel) (by decide +kernel)
theorem wt_528 : (.code ⟨"WidthCampaigns", "proved", "()Z"⟩ prog_1_method_9_code 1 (Option.some Jvm.ClassFile.FieldType.boolean) : Cond) ∈ wx_all := wx_mem 572 (by decide +kernel) (by decide +kernel)
theorem wt_529 : (.classLink "WidthCampaigns" 164 "java/lang/IllegalStateException" : Cond) ∈ wx_all := wx_mem 573 (by decide +kernel) (by decide +kernel)
theorem wt_548 : (.methodLink "WidthCampaignsLaw" 47 ⟨"WidthCampaigns", "order", "(I)I"⟩ : Cond) ∈ wx_all := wx_mem 592 (by decide +kernel) (by decide +kernel)
theorem wt_549 : (.instanceMethod ⟨"WidthCampaigns", "order", "(I)I"⟩ : Cond) ∈ wx_all := wx_mem 593 (by decide +kernel) (by decide +kernel)
theorem wt_550 : (.selects "WidthCampaigns" ⟨"WidthCampaigns", "order", "(I)I"⟩ ⟨"WidthCampaigns", "order", "(I)I"⟩ : Cond) ∈ wx_all := wx_mem 594 (by decide +kernel) (by decide +kernel)
theorem wt_551 : (.code ⟨"WidthCampaigns", "order", "(I)I"⟩ prog_1_method_10_code 2 (Option.some Jvm.ClassFile.FieldType.int) : Cond) ∈ wx_all := wx_mem 595 (by decide +kernel) (by decide +kernel)
theorem wt_552 : (.methodLink "WidthCampaigns" 172 ⟨"WidthCampaigns", "requireOrder", "()V"⟩ : Cond) ∈ wx_all := wx_mem 596 (by decide +kernel) (by decide +kernel)
theorem wt_554 : (.instanceMethod ⟨"WidthCampaigns", "requireOrder", "()V"⟩ : Cond) ∈ wx_all := wx_mem 598 (by decide +kernel) (by decide +kernel)
theorem wt_555 : (.code ⟨"WidthCampaigns", "requireOrder", "()V"⟩ prog_1_method_20_code 1 (Option.none : Option Jvm.ClassFile.FieldType) : Cond) ∈ wx_all := wx_mem 599 (by decide +kernel) (by decide +kernel)
theorem wt_557 : (.methodLink "WidthCampaigns" 175 ⟨"WidthCampaigns", "requirePlace", "(I)V"⟩ : Cond) ∈ wx_all := wx_mem 601 (by decide +kernel) (by decide +kernel)
theorem wt_559 : (.instanceMethod ⟨"WidthCampaigns", "requirePlace", "(I)V"⟩ : Cond) ∈ wx_all := wx_mem 603 (by decide +kernel) (by decide +kernel)
theorem wt_560 : (.code ⟨"WidthCampaigns", "requirePlace", "(I)V"⟩ prog_1_method_21_code 2 (Option.none : Option Jvm.ClassFile.FieldType) : Cond) ∈ wx_all := wx_mem 604 (by decide +kernel) (by decide +kernel)
theorem wt_565 : (.methodLink "WidthCampaignsLaw" 50 ⟨"WidthCampaigns", "told", "(I)I"⟩ : Cond) ∈ wx_all := wx_mem 609 (by decide +kernel) (by decide +kernel)
theorem wt_566 : (.instanceMethod ⟨"WidthCampaigns", "told", "(I)I"⟩ : Cond) ∈ wx_all := wx_mem 610 (by decide +kernel) (by decide +kernel)
theorem wt_567 : (.selects "WidthCampaigns" ⟨"WidthCampaigns", "told", "(I)I"⟩ ⟨"WidthCampaigns", "told", "(I)I"⟩ : Cond) ∈ wx_all := wx_mem 611 (by decide +kernel) (by decide +kernel)
theorem wt_568 : (.code ⟨"WidthCampaigns", "told", "(I)I"⟩ prog_1_method_11_code 2 (Option.some Jvm.ClassFile.FieldType.int) : Cond) ∈ wx_all := wx_mem 612 (by decide +kernel) (by decide +kernel)
theorem wt_573 : (.instanceMethod ⟨"WidthCampaigns$Line", "changesSoFar", "()I"⟩ : Cond) ∈ wx_all := wx_mem 617 (by decide +kernel) (by decide +kernel)
theorem wt_574 : (.code ⟨"WidthCampaigns$Line", "changesSoFar", "()I"⟩ prog_3_method_3_code 1 (Option.some Jvm.ClassFile.FieldType.int) : Cond) ∈ wx_all := wx_mem 618 (by decide +kernel) (by decide +kernel)
theorem wt_577 : (.instanceMethod ⟨"WidthCampaigns$Line", "movedSoFar", "()I"⟩ : Cond) ∈ wx_all := wx_mem 621 (by decide +kernel) (by decide +kernel)
theorem wt_578 : (.code ⟨"WidthCampaigns$Line", "movedSoFar", "()I"⟩ prog_3_method_4_code 1 (Option.some Jvm.ClassFile.FieldType.int) : Cond) ∈ wx_all := wx_mem 622 (by decide +kernel) (by decide +kernel)
theorem wt_582 : (.methodLink "WidthCampaignsLaw" 53 ⟨"WidthCampaigns", "change", "(I)Z"⟩ : Cond) ∈ wx_all := wx_mem 626 (by decide +kernel) (by decide +kernel)
theorem wt_583 : (.instanceMethod ⟨"WidthCampaigns", "change", "(I)Z"⟩ : Cond) ∈ wx_all := wx_mem 627 (by decide +kernel) (by decide +kernel)
theorem wt_584 : (.selects "WidthCampaigns" ⟨"WidthCampaigns", "change", "(I)Z"⟩ ⟨"WidthCampaigns", "change", "(I)Z"⟩ : Cond) ∈ wx_all := wx_mem 628 (by decide +kernel) (by decide +kernel)
theorem wt_585 : (.code ⟨"WidthCampaigns", "change", "(I)Z"⟩ prog_1_method_12_code 2 (Option.some Jvm.ClassFile.FieldType.boolean) : Cond) ∈ wx_all := wx_mem 629 (by decide +kernel) (by decide +kernel)
theorem wt_589 : (.methodLink "WidthCampaignsLaw" 57 ⟨"WidthCampaigns", "jump", "(II)I"⟩ : Cond) ∈ wx_all := wx_mem 633 (by decide +kernel) (by decide +kernel)
theorem wt_590 : (.instanceMethod ⟨"WidthCampaigns", "jump", "(II)I"⟩ : Cond) ∈ wx_all := wx_mem 634 (by decide +kernel) (by decide +kernel)
theorem wt_591 : (.selects "WidthCampaigns" ⟨"WidthCampaigns", "jump", "(II)I"⟩ ⟨"WidthCampaigns", "jump", "(II)I"⟩ : Cond) ∈ wx_all := wx_mem 635 (by decide +kernel) (by decide +kernel)
theorem wt_592 : (.code ⟨"WidthCampaigns", "jump", "(II)I"⟩ prog_1_method_13_code 3 (Option.some Jvm.ClassFile.FieldType.int) : Cond) ∈ wx_all := wx_mem 636 (by decide +kernel) (by decide +kernel)
theorem wt_597 : (.methodLink "WidthCampaignsLaw" 61 ⟨"WidthCampaigns", "tell", "(J)V"⟩ : Cond) ∈ wx_all := wx_mem 641 (by decide +kernel) (by decide +kernel)
theorem wt_598 : (.instanceMethod ⟨"WidthCampaigns", "tell", "(J)V"⟩ : Cond) ∈ wx_all := wx_mem 642 (by decide +kernel) (by decide +kernel)
theorem wt_599 : (.selects "WidthCampaigns" ⟨"WidthCampaigns", "tell", "(J)V"⟩ ⟨"WidthCampaigns", "tell", "(J)V"⟩ : Cond) ∈ wx_all := wx_mem 643 (by decide +kernel) (by decide +kernel)
theorem wt_600 : (.code ⟨"WidthCampaigns", "tell", "(J)V"⟩ prog_1_method_15_code 3 (Option.none : Option Jvm.ClassFile.FieldType) : Cond) ∈ wx_all := wx_mem 644 (by decide +kernel) (by decide +kernel)
theorem wt_601 : (.methodLink "WidthCampaigns" 213 ⟨"WidthCampaigns", "readIntoScratch", "(J)Z"⟩ : Cond) ∈ wx_all := wx_mem 645 (by decide +kernel) (by decide +kernel)
theorem wt_603 : (.instanceMethod ⟨"WidthCampaigns", "readIntoScratch", "(J)Z"⟩ : Cond) ∈ wx_all := wx_mem 647 (by decide +kernel) (by decide +kernel)
theorem wt_604 : (.code ⟨"WidthCampaigns", "readIntoScratch", "(J)Z"⟩ prog_1_method_22_code 6 (Option.some Jvm.ClassFile.FieldType.boolean) : Cond) ∈ wx_all := wx_mem 648 (by decide +kernel) (by decide +kernel)
theorem wt_610 : (.methodLink "WidthCampaignsLaw" 65 ⟨"WidthCampaigns", "improve", "(I)I"⟩ : Cond) ∈ wx_all := wx_mem 654 (by decide +kernel) (by decide +kernel)
theorem wt_611 : (.instanceMethod ⟨"WidthCampaigns", "improve", "(I)I"⟩ : Cond) ∈ wx_all := wx_mem 655 (by decide +kernel) (by decide +kernel)
theorem wt_612 : (.selects "WidthCampaigns" ⟨"WidthCampaigns", "improve", "(I)I"⟩ ⟨"WidthCampaigns", "improve", "(I)I"⟩ : Cond) ∈ wx_all := wx_mem 656 (by decide +kernel) (by decide +kernel)
theorem wt_613 : (.code ⟨"WidthCampaigns", "improve", "(I)I"⟩ prog_1_method_16_code 3 (Option.some Jvm.ClassFile.FieldType.int) : Cond) ∈ wx_all := wx_mem 657 (by decide +kernel) (by decide +kernel)
theorem wt_615 : (.methodLink "WidthCampaigns" 223 ⟨"WidthCampaigns", "takeFirstBetterPair", "()Z"⟩ : Cond) ∈ wx_all := wx_mem 659 (by decide +kernel) (by decide +kernel)
theorem wt_617 : (.instanceMethod ⟨"WidthCampaigns", "takeFirstBetterPair", "()Z"⟩ : Cond) ∈ wx_all := wx_mem 661 (by decide +kernel) (by decide +kernel)
theorem wt_618 : (.code ⟨"WidthCampaigns", "takeFirstBetterPair", "()Z"⟩ prog_1_method_23_code 3 (Option.some Jvm.ClassFile.FieldType.boolean) : Cond) ∈ wx_all := wx_mem 662 (by decide +kernel) (by decide +kernel)
theorem wt_619 : (.methodLink "WidthCampaigns" 231 ⟨"WidthCampaigns", "takePairIfBetter", "(II)Z"⟩ : Cond) ∈ wx_all := wx_mem 663 (by decide +kernel) (by decide +kernel)
theorem wt_621 : (.instanceMethod ⟨"WidthCampaigns", "takePairIfBetter", "(II)Z"⟩ : Cond) ∈ wx_all := wx_mem 665 (by decide +kernel) (by decide +kernel)
theorem wt_622 : (.code ⟨"WidthCampaigns", "takePairIfBetter", "(II)Z"⟩ prog_1_method_24_code 3 (Option.some Jvm.ClassFile.FieldType.boolean) : Cond) ∈ wx_all := wx_mem 666 (by decide +kernel) (by decide +kernel)
theorem wt_623 : (.methodLink "WidthCampaigns" 235 ⟨"java/lang/System", "arraycopy", "(Ljava/lang/Object;ILjava/lang/Object;II)V"⟩ : Cond) ∈ wx_all := wx_mem 667 (by decide +kernel) (by decide +kernel)
theorem wt_630 : (.fieldLink "WidthCampaignsModel" 69 "WidthCampaignsModel" "thrown" "I" : Cond) ∈ wx_all := wx_mem 674 (by decide +kernel) (by decide +kernel)
theorem wt_631 : (.fieldLink "WidthCampaignsModel" 79 "WidthCampaignsModel" "coils" "I" : Cond) ∈ wx_all := wx_mem 675 (by decide +kernel) (by decide +kernel)
theorem wt_632 : (.fieldLink "WidthCampaignsModel" 7 "WidthCampaignsModel" "width" "[I" : Cond) ∈ wx_all := wx_mem 676 (by decide +kernel) (by decide +kernel)
theorem wt_633 : (.fieldLink "WidthCampaignsModel" 13 "WidthCampaignsModel" "thick" "[I" : Cond) ∈ wx_all := wx_mem 677 (by decide +kernel) (by decide +kernel)
theorem wt_634 : (.fieldLink "WidthCampaignsModel" 16 "WidthCampaignsModel" "hard" "[I" : Cond) ∈ wx_all := wx_mem 678 (by decide +kernel) (by decide +kernel)
theorem wt_635 : (.fieldLink "WidthCampaignsModel" 19 "WidthCampaignsModel" "kilometres" "[I" : Cond) ∈ wx_all := wx_mem 679 (by decide +kernel) (by decide +kernel)
theorem wt_636 : (.fieldLink "WidthCampaignsModel" 22 "WidthCampaignsModel" "last" "[I" : Cond) ∈ wx_all := wx_mem 680 (by decide +kernel) (by decide +kernel)
theorem wt_637 : (.fieldLink "WidthCampaignsModel" 25 "WidthCampaignsModel" "old" "[I" : Cond) ∈ wx_all := wx_mem 681 (by decide +kernel) (by decide +kernel)
theorem wt_638 : (.fieldLink "WidthCampaignsModel" 28 "WidthCampaignsModel" "rows" "[I" : Cond) ∈ wx_all := wx_mem 682 (by decide +kernel) (by decide +kernel)
theorem wt_639 : (.fieldLink "WidthCampaignsModel" 31 "WidthCampaignsModel" "rowFrom" "[I" : Cond) ∈ wx_all := wx_mem 683 (by decide +kernel) (by decide +kernel)
theorem wt_640 : (.fieldLink "WidthCampaignsModel" 34 "WidthCampaignsModel" "rowTo" "[I" : Cond) ∈ wx_all := wx_mem 684 (by decide +kernel) (by decide +kernel)
theorem wt_641 : (.fieldLink "WidthCampaignsModel" 37 "WidthCampaignsModel" "rowCost" "[I" : Cond) ∈ wx_all := wx_mem 685 (by decide +kernel) (by decide +kernel)
theorem wt_642 : (.fieldLink "WidthCampaignsModel" 93 "WidthCampaignsModel" "groups" "I" : Cond) ∈ wx_all := wx_mem 686 (by decide +kernel) (by decide +kernel)
theorem wt_643 : (.fieldLink "WidthCampaignsModel" 40 "WidthCampaignsModel" "groupFrom" "[I" : Cond) ∈ wx_all := wx_mem 687 (by decide +kernel) (by decide +kernel)
theorem wt_644 : (.fieldLink "WidthCampaignsModel" 43 "WidthCampaignsModel" "groupTo" "[I" : Cond) ∈ wx_all := wx_mem 688 (by decide +kernel) (by decide +kernel)
theorem wt_645 : (.fieldLink "WidthCampaignsModel" 46 "WidthCampaignsModel" "groupMost" "[I" : Cond) ∈ wx_all := wx_mem 689 (by decide +kernel) (by decide +kernel)
theorem wt_646 : (.fieldLink "WidthCampaignsModel" 49 "WidthCampaignsModel" "rise" "I" : Cond) ∈ wx_all := wx_mem 690 (by decide +kernel) (by decide +kernel)
theorem wt_647 : (.fieldLink "WidthCampaignsModel" 53 "WidthCampaignsModel" "wear" "I" : Cond) ∈ wx_all := wx_mem 691 (by decide +kernel) (by decide +kernel)
theorem wt_648 : (.fieldLink "WidthCampaignsModel" 56 "WidthCampaignsModel" "changeCost" "I" : Cond) ∈ wx_all := wx_mem 692 (by decide +kernel) (by decide +kernel)
theorem wt_649 : (.fieldLink "WidthCampaignsModel" 100 "WidthCampaignsModel" "movedCost" "I" : Cond) ∈ wx_all := wx_mem 693 (by decide +kernel) (by decide +kernel)
theorem wt_650 : (.fieldLink "WidthCampaignsModel" 72 "WidthCampaignsModel" "searched" "Z" : Cond) ∈ wx_all := wx_mem 694 (by decide +kernel) (by decide +kernel)
theorem wt_651 : (.fieldLink "WidthCampaignsModel" 124 "WidthCampaignsModel" "proved" "Z" : Cond) ∈ wx_all := wx_mem 695 (by decide +kernel) (by decide +kernel)
theorem wt_652 : (.fieldLink "WidthCampaignsModel" 76 "WidthCampaignsModel" "ordered" "Z" : Cond) ∈ wx_all := wx_mem 696 (by decide +kernel) (by decide +kernel)
theorem wt_653 : (.fieldLink "WidthCampaignsModel" 59 "WidthCampaignsModel" "order" "[I" : Cond) ∈ wx_all := wx_mem 697 (by decide +kernel) (by decide +kernel)
theorem wt_654 : (.fieldLink "WidthCampaignsModel" 62 "WidthCampaignsModel" "tried" "[I" : Cond) ∈ wx_all := wx_mem 698 (by decide +kernel) (by decide +kernel)
theorem wt_655 : (.fieldLink "WidthCampaignsModel" 110 "WidthCampaignsModel" "penalty" "I" : Cond) ∈ wx_all := wx_mem 699 (by decide +kernel) (by decide +kernel)
theorem wt_656 : (.fieldLink "WidthCampaignsModel" 113 "WidthCampaignsModel" "changes" "I" : Cond) ∈ wx_all := wx_mem 700 (by decide +kernel) (by decide +kernel)
theorem wt_657 : (.fieldLink "WidthCampaignsModel" 116 "WidthCampaignsModel" "moved" "I" : Cond) ∈ wx_all := wx_mem 701 (by decide +kernel) (by decide +kernel)
theorem wt_658 : (.fieldLink "WidthCampaignsModel" 65 "WidthCampaignsModel" "changed" "[Z" : Cond) ∈ wx_all := wx_mem 702 (by decide +kernel) (by decide +kernel)
theorem wt_726 : (.methodLink "WidthCampaignsModel" 82 ⟨"WidthCampaignsModel", "in", "(III)Z"⟩ : Cond) ∈ wx_all := wx_mem 770 (by decide +kernel) (by decide +kernel)
theorem wt_727 : (.static ⟨"WidthCampaignsModel", "in", "(III)Z"⟩ : Cond) ∈ wx_all := wx_mem 771 (by decide +kernel) (by decide +kernel)
theorem wt_728 : (.code ⟨"WidthCampaignsModel", "in", "(III)Z"⟩ prog_8_method_3_code 3 (Option.some Jvm.ClassFile.FieldType.boolean) : Cond) ∈ wx_all := wx_mem 772 (by decide +kernel) (by decide +kernel)
theorem wt_729 : (.methodLink "WidthCampaignsModel" 86 ⟨"WidthCampaignsModel", "goes", "(ZZZ)Z"⟩ : Cond) ∈ wx_all := wx_mem 773 (by decide +kernel) (by decide +kernel)
theorem wt_731 : (.instanceMethod ⟨"WidthCampaignsModel", "goes", "(ZZZ)Z"⟩ : Cond) ∈ wx_all := wx_mem 775 (by decide +kernel) (by decide +kernel)
theorem wt_732 : (.code ⟨"WidthCampaignsModel", "goes", "(ZZZ)Z"⟩ prog_8_method_4_code 4 (Option.some Jvm.ClassFile.FieldType.boolean) : Cond) ∈ wx_all := wx_mem 776 (by decide +kernel) (by decide +kernel)
theorem wt_733 : (.methodLink "WidthCampaignsModel" 90 ⟨"WidthCampaignsModel", "gone", "()V"⟩ : Cond) ∈ wx_all := wx_mem 777 (by decide +kernel) (by decide +kernel)
theorem wt_735 : (.instanceMethod ⟨"WidthCampaignsModel", "gone", "()V"⟩ : Cond) ∈ wx_all := wx_mem 779 (by decide +kernel) (by decide +kernel)
theorem wt_736 : (.code ⟨"WidthCampaignsModel", "gone", "()V"⟩ prog_8_method_5_code 1 (Option.none : Option Jvm.ClassFile.FieldType) : Cond) ∈ wx_all := wx_mem 780 (by decide +kernel) (by decide +kernel)
theorem wt_749 : (.methodLink "WidthCampaignsModel" 96 ⟨"WidthCampaignsModel", "isCoil", "(I)Z"⟩ : Cond) ∈ wx_all := wx_mem 793 (by decide +kernel) (by decide +kernel)
theorem wt_751 : (.instanceMethod ⟨"WidthCampaignsModel", "isCoil", "(I)Z"⟩ : Cond) ∈ wx_all := wx_mem 795 (by decide +kernel) (by decide +kernel)
theorem wt_752 : (.code ⟨"WidthCampaignsModel", "isCoil", "(I)Z"⟩ prog_8_method_6_code 2 (Option.some Jvm.ClassFile.FieldType.boolean) : Cond) ∈ wx_all := wx_mem 796 (by decide +kernel) (by decide +kernel)
theorem wt_765 : (.constant "WidthCampaignsModel" 123 100000 : Cond) ∈ wx_all := wx_mem 809 (by decide +kernel) (by decide +kernel)
theorem wt_766 : (.methodLink "WidthCampaignsModel" 127 ⟨"WidthCampaignsModel", "stands", "(II)Z"⟩ : Cond) ∈ wx_all := wx_mem 810 (by decide +kernel) (by decide +kernel)
theorem wt_768 : (.instanceMethod ⟨"WidthCampaignsModel", "stands", "(II)Z"⟩ : Cond) ∈ wx_all := wx_mem 812 (by decide +kernel) (by decide +kernel)
theorem wt_769 : (.code ⟨"WidthCampaignsModel", "stands", "(II)Z"⟩ prog_8_method_18_code 4 (Option.some Jvm.ClassFile.FieldType.boolean) : Cond) ∈ wx_all := wx_mem 813 (by decide +kernel) (by decide +kernel)
theorem wt_770 : (.methodLink "WidthCampaignsModel" 131 ⟨"WidthCampaignsModel", "mayBe", "([II)Z"⟩ : Cond) ∈ wx_all := wx_mem 814 (by decide +kernel) (by decide +kernel)
theorem wt_772 : (.instanceMethod ⟨"WidthCampaignsModel", "mayBe", "([II)Z"⟩ : Cond) ∈ wx_all := wx_mem 816 (by decide +kernel) (by decide +kernel)
theorem wt_773 : (.code ⟨"WidthCampaignsModel", "mayBe", "([II)Z"⟩ prog_8_method_15_code 5 (Option.some Jvm.ClassFile.FieldType.boolean) : Cond) ∈ wx_all := wx_mem 817 (by decide +kernel) (by decide +kernel)
theorem wt_774 : (.methodLink "WidthCampaignsModel" 107 ⟨"WidthCampaignsModel", "jumpOf", "(II)I"⟩ : Cond) ∈ wx_all := wx_mem 818 (by decide +kernel) (by decide +kernel)
theorem wt_776 : (.instanceMethod ⟨"WidthCampaignsModel", "jumpOf", "(II)I"⟩ : Cond) ∈ wx_all := wx_mem 820 (by decide +kernel) (by decide +kernel)
theorem wt_777 : (.code ⟨"WidthCampaignsModel", "jumpOf", "(II)I"⟩ prog_8_method_14_code 5 (Option.some Jvm.ClassFile.FieldType.int) : Cond) ∈ wx_all := wx_mem 821 (by decide +kernel) (by decide +kernel)
theorem wt_778 : (.methodLink "WidthCampaignsModel" 103 ⟨"WidthCampaignsModel", "costOf", "(II)I"⟩ : Cond) ∈ wx_all := wx_mem 822 (by decide +kernel) (by decide +kernel)
theorem wt_780 : (.instanceMethod ⟨"WidthCampaignsModel", "costOf", "(II)I"⟩ : Cond) ∈ wx_all := wx_mem 824 (by decide +kernel) (by decide +kernel)
theorem wt_781 : (.code ⟨"WidthCampaignsModel", "costOf", "(II)I"⟩ prog_8_method_13_code 5 (Option.some Jvm.ClassFile.FieldType.int) : Cond) ∈ wx_all := wx_mem 825 (by decide +kernel) (by decide +kernel)
theorem wt_782 : (.methodLink "WidthCampaignsModel" 135 ⟨"WidthCampaignsModel", "reckon", "([II)V"⟩ : Cond) ∈ wx_all := wx_mem 826 (by decide +kernel) (by decide +kernel)
theorem wt_784 : (.instanceMethod ⟨"WidthCampaignsModel", "reckon", "([II)V"⟩ : Cond) ∈ wx_all := wx_mem 828 (by decide +kernel) (by decide +kernel)
theorem wt_785 : (.code ⟨"WidthCampaignsModel", "reckon", "([II)V"⟩ prog_8_method_16_code 5 (Option.none : Option Jvm.ClassFile.FieldType) : Cond) ∈ wx_all := wx_mem 829 (by decide +kernel) (by decide +kernel)
theorem wt_786 : (.methodLink "WidthCampaignsModel" 119 ⟨"WidthCampaignsModel", "isWorn", "([III)Z"⟩ : Cond) ∈ wx_all := wx_mem 830 (by decide +kernel) (by decide +kernel)
theorem wt_788 : (.instanceMethod ⟨"WidthCampaignsModel", "isWorn", "([III)Z"⟩ : Cond) ∈ wx_all := wx_mem 832 (by decide +kernel) (by decide +kernel)
theorem wt_789 : (.code ⟨"WidthCampaignsModel", "isWorn", "([III)Z"⟩ prog_8_method_17_code 9 (Option.some Jvm.ClassFile.FieldType.boolean) : Cond) ∈ wx_all := wx_mem 833 (by decide +kernel) (by decide +kernel)
theorem wt_818 : (.constantLong "WidthCampaignsModel" 139 15 : Cond) ∈ wx_all := wx_mem 862 (by decide +kernel) (by decide +kernel)
theorem wt_819 : (.methodLink "WidthCampaignsModel" 141 ⟨"WidthCampaignsModel", "isGood", "([I)Z"⟩ : Cond) ∈ wx_all := wx_mem 863 (by decide +kernel) (by decide +kernel)
theorem wt_821 : (.instanceMethod ⟨"WidthCampaignsModel", "isGood", "([I)Z"⟩ : Cond) ∈ wx_all := wx_mem 865 (by decide +kernel) (by decide +kernel)
theorem wt_822 : (.code ⟨"WidthCampaignsModel", "isGood", "([I)Z"⟩ prog_8_method_26_code 3 (Option.some Jvm.ClassFile.FieldType.boolean) : Cond) ∈ wx_all := wx_mem 866 (by decide +kernel) (by decide +kernel)
theorem wt_827 : (.methodLink "WidthCampaignsModel" 148 ⟨"WidthCampaignsModel", "better", "()Z"⟩ : Cond) ∈ wx_all := wx_mem 871 (by decide +kernel) (by decide +kernel)
theorem wt_829 : (.instanceMethod ⟨"WidthCampaignsModel", "better", "()Z"⟩ : Cond) ∈ wx_all := wx_mem 873 (by decide +kernel) (by decide +kernel)
theorem wt_830 : (.code ⟨"WidthCampaignsModel", "better", "()Z"⟩ prog_8_method_29_code 3 (Option.some Jvm.ClassFile.FieldType.boolean) : Cond) ∈ wx_all := wx_mem 874 (by decide +kernel) (by decide +kernel)
theorem wt_831 : (.methodLink "WidthCampaignsModel" 145 ⟨"WidthCampaignsModel", "swaps", "(II)Z"⟩ : Cond) ∈ wx_all := wx_mem 875 (by decide +kernel) (by decide +kernel)
theorem wt_833 : (.instanceMethod ⟨"WidthCampaignsModel", "swaps", "(II)Z"⟩ : Cond) ∈ wx_all := wx_mem 877 (by decide +kernel) (by decide +kernel)
theorem wt_834 : (.code ⟨"WidthCampaignsModel", "swaps", "(II)Z"⟩ prog_8_method_28_code 5 (Option.some Jvm.ClassFile.FieldType.boolean) : Cond) ∈ wx_all := wx_mem 878 (by decide +kernel) (by decide +kernel)
theorem wp_0 : (.selects "WidthCampaigns$Plant" ⟨"WidthCampaigns$Plant", "leastJumpTo", "(I)I"⟩ ⟨"WidthCampaigns$Plant", "leastJumpTo", "(I)I"⟩ : Cond) ∈ wx_all := wx_mem 0 (by decide +kernel) (by decide +kernel)
theorem wp_2 : (.selects "WidthCampaigns" ⟨"WidthCampaigns", "forgetOrder", "()V"⟩ ⟨"WidthCampaigns", "forgetOrder", "()V"⟩ : Cond) ∈ wx_all := wx_mem 2 (by decide +kernel) (by decide +kernel)
theorem wp_3 : (.selects "WidthCampaigns$Plant" ⟨"WidthCampaigns$Plant", "addCoil", "(IIII)I"⟩ ⟨"WidthCampaigns$Plant", "addCoil", "(IIII)I"⟩ : Cond) ∈ wx_all := wx_mem 3 (by decide +kernel) (by decide +kernel)
theorem wp_4 : (.selects "WidthCampaigns$Plant" ⟨"WidthCampaigns$Plant", "reckonJumps", "()V"⟩ ⟨"WidthCampaigns$Plant", "reckonJumps", "()V"⟩ : Cond) ∈ wx_all := wx_mem 4 (by decide +kernel) (by decide +kernel)
theorem wp_5 : (.selects "WidthCampaigns$Plant" ⟨"WidthCampaigns$Plant", "reckonJump", "(II)I"⟩ ⟨"WidthCampaigns$Plant", "reckonJump", "(II)I"⟩ : Cond) ∈ wx_all := wx_mem 5 (by decide +kernel) (by decide +kernel)
theorem wp_6 : (.selects "WidthCampaigns$JumpTable" ⟨"WidthCampaigns$JumpTable", "costOf", "(I)I"⟩ ⟨"WidthCampaigns$JumpTable", "costOf", "(I)I"⟩ : Cond) ∈ wx_all := wx_mem 6 (by decide +kernel) (by decide +kernel)
theorem wp_7 : (.selects "WidthCampaigns$JumpTable" ⟨"WidthCampaigns$JumpTable", "addRow", "(III)V"⟩ ⟨"WidthCampaigns$JumpTable", "addRow", "(III)V"⟩ : Cond) ∈ wx_all := wx_mem 7 (by decide +kernel) (by decide +kernel)
theorem wp_8 : (.selects "WidthCampaigns$WidthGroups" ⟨"WidthCampaigns$WidthGroups", "addGroup", "(III)V"⟩ ⟨"WidthCampaigns$WidthGroups", "addGroup", "(III)V"⟩ : Cond) ∈ wx_all := wx_mem 8 (by decide +kernel) (by decide +kernel)
theorem wp_9 : (.selects "WidthCampaigns" ⟨"WidthCampaigns", "isNoCoil", "(I)Z"⟩ ⟨"WidthCampaigns", "isNoCoil", "(I)Z"⟩ : Cond) ∈ wx_all := wx_mem 9 (by decide +kernel) (by decide +kernel)
theorem wp_10 : (.selects "WidthCampaigns$Search" ⟨"WidthCampaigns$Search", "searchWith", "(I)V"⟩ ⟨"WidthCampaigns$Search", "searchWith", "(I)V"⟩ : Cond) ∈ wx_all := wx_mem 10 (by decide +kernel) (by decide +kernel)
theorem wp_11 : (.selects "WidthCampaigns$Line" ⟨"WidthCampaigns$Line", "clear", "()V"⟩ ⟨"WidthCampaigns$Line", "clear", "()V"⟩ : Cond) ∈ wx_all := wx_mem 11 (by decide +kernel) (by decide +kernel)
theorem wp_12 : (.selects "WidthCampaigns$Search" ⟨"WidthCampaigns$Search", "goOnAt", "(I)V"⟩ ⟨"WidthCampaigns$Search", "goOnAt", "(I)V"⟩ : Cond) ∈ wx_all := wx_mem 12 (by decide +kernel) (by decide +kernel)
theorem wp_13 : (.selects "WidthCampaigns$Search" ⟨"WidthCampaigns$Search", "keepBest", "()V"⟩ ⟨"WidthCampaigns$Search", "keepBest", "()V"⟩ : Cond) ∈ wx_all := wx_mem 13 (by decide +kernel) (by decide +kernel)
theorem wp_14 : (.selects "WidthCampaigns$Line" ⟨"WidthCampaigns$Line", "penaltySoFar", "()I"⟩ ⟨"WidthCampaigns$Line", "penaltySoFar", "()I"⟩ : Cond) ∈ wx_all := wx_mem 14 (by decide +kernel) (by decide +kernel)
theorem wp_15 : (.selects "WidthCampaigns$Line" ⟨"WidthCampaigns$Line", "mayPut", "(I)Z"⟩ ⟨"WidthCampaigns$Line", "mayPut", "(I)Z"⟩ : Cond) ∈ wx_all := wx_mem 15 (by decide +kernel) (by decide +kernel)
theorem wp_16 : (.selects "WidthCampaigns$Line" ⟨"WidthCampaigns$Line", "mayFollow", "(II)Z"⟩ ⟨"WidthCampaigns$Line", "mayFollow", "(II)Z"⟩ : Cond) ∈ wx_all := wx_mem 16 (by decide +kernel) (by decide +kernel)
theorem wp_17 : (.selects "WidthCampaigns$Search" ⟨"WidthCampaigns$Search", "putAndGoOn", "(II)V"⟩ ⟨"WidthCampaigns$Search", "putAndGoOn", "(II)V"⟩ : Cond) ∈ wx_all := wx_mem 17 (by decide +kernel) (by decide +kernel)
theorem wp_18 : (.selects "WidthCampaigns$Line" ⟨"WidthCampaigns$Line", "put", "(I)V"⟩ ⟨"WidthCampaigns$Line", "put", "(I)V"⟩ : Cond) ∈ wx_all := wx_mem 18 (by decide +kernel) (by decide +kernel)
theorem wp_19 : (.selects "WidthCampaigns$Line" ⟨"WidthCampaigns$Line", "isWornWith", "(I)Z"⟩ ⟨"WidthCampaigns$Line", "isWornWith", "(I)Z"⟩ : Cond) ∈ wx_all := wx_mem 19 (by decide +kernel) (by decide +kernel)
theorem wp_20 : (.selects "WidthCampaigns$Plant" ⟨"WidthCampaigns$Plant", "kilometresInGroup", "(II)I"⟩ ⟨"WidthCampaigns$Plant", "kilometresInGroup", "(II)I"⟩ : Cond) ∈ wx_all := wx_mem 20 (by decide +kernel) (by decide +kernel)
theorem wp_21 : (.selects "WidthCampaigns$Line" ⟨"WidthCampaigns$Line", "countKilometres", "(IZ)V"⟩ ⟨"WidthCampaigns$Line", "countKilometres", "(IZ)V"⟩ : Cond) ∈ wx_all := wx_mem 21 (by decide +kernel) (by decide +kernel)
theorem wp_22 : (.selects "WidthCampaigns$Line" ⟨"WidthCampaigns$Line", "countCosts", "(IZ)V"⟩ ⟨"WidthCampaigns$Line", "countCosts", "(IZ)V"⟩ : Cond) ∈ wx_all := wx_mem 22 (by decide +kernel) (by decide +kernel)
theorem wp_23 : (.selects "WidthCampaigns$Line" ⟨"WidthCampaigns$Line", "takeBack", "()V"⟩ ⟨"WidthCampaigns$Line", "takeBack", "()V"⟩ : Cond) ∈ wx_all := wx_mem 23 (by decide +kernel) (by decide +kernel)
theorem wp_24 : (.selects "WidthCampaigns$Line" ⟨"WidthCampaigns$Line", "layAll", "([I)Z"⟩ ⟨"WidthCampaigns$Line", "layAll", "([I)Z"⟩ : Cond) ∈ wx_all := wx_mem 24 (by decide +kernel) (by decide +kernel)
theorem wp_25 : (.selects "WidthCampaigns" ⟨"WidthCampaigns", "requireOrder", "()V"⟩ ⟨"WidthCampaigns", "requireOrder", "()V"⟩ : Cond) ∈ wx_all := wx_mem 25 (by decide +kernel) (by decide +kernel)
theorem wp_26 : (.selects "WidthCampaigns" ⟨"WidthCampaigns", "requirePlace", "(I)V"⟩ ⟨"WidthCampaigns", "requirePlace", "(I)V"⟩ : Cond) ∈ wx_all := wx_mem 26 (by decide +kernel) (by decide +kernel)
theorem wp_27 : (.selects "WidthCampaigns$Line" ⟨"WidthCampaigns$Line", "changesSoFar", "()I"⟩ ⟨"WidthCampaigns$Line", "changesSoFar", "()I"⟩ : Cond) ∈ wx_all := wx_mem 27 (by decide +kernel) (by decide +kernel)
theorem wp_28 : (.selects "WidthCampaigns$Line" ⟨"WidthCampaigns$Line", "movedSoFar", "()I"⟩ ⟨"WidthCampaigns$Line", "movedSoFar", "()I"⟩ : Cond) ∈ wx_all := wx_mem 28 (by decide +kernel) (by decide +kernel)
theorem wp_29 : (.selects "WidthCampaigns" ⟨"WidthCampaigns", "readIntoScratch", "(J)Z"⟩ ⟨"WidthCampaigns", "readIntoScratch", "(J)Z"⟩ : Cond) ∈ wx_all := wx_mem 29 (by decide +kernel) (by decide +kernel)
theorem wp_30 : (.selects "WidthCampaigns" ⟨"WidthCampaigns", "takeFirstBetterPair", "()Z"⟩ ⟨"WidthCampaigns", "takeFirstBetterPair", "()Z"⟩ : Cond) ∈ wx_all := wx_mem 30 (by decide +kernel) (by decide +kernel)
theorem wp_31 : (.selects "WidthCampaigns" ⟨"WidthCampaigns", "takePairIfBetter", "(II)Z"⟩ ⟨"WidthCampaigns", "takePairIfBetter", "(II)Z"⟩ : Cond) ∈ wx_all := wx_mem 31 (by decide +kernel) (by decide +kernel)
theorem wp_32 : (.selects "WidthCampaignsModel" ⟨"WidthCampaignsModel", "goes", "(ZZZ)Z"⟩ ⟨"WidthCampaignsModel", "goes", "(ZZZ)Z"⟩ : Cond) ∈ wx_all := wx_mem 32 (by decide +kernel) (by decide +kernel)
theorem wp_33 : (.selects "WidthCampaignsModel" ⟨"WidthCampaignsModel", "gone", "()V"⟩ ⟨"WidthCampaignsModel", "gone", "()V"⟩ : Cond) ∈ wx_all := wx_mem 33 (by decide +kernel) (by decide +kernel)
theorem wp_34 : (.selects "WidthCampaignsModel" ⟨"WidthCampaignsModel", "isCoil", "(I)Z"⟩ ⟨"WidthCampaignsModel", "isCoil", "(I)Z"⟩ : Cond) ∈ wx_all := wx_mem 34 (by decide +kernel) (by decide +kernel)
theorem wp_35 : (.selects "WidthCampaignsModel" ⟨"WidthCampaignsModel", "stands", "(II)Z"⟩ ⟨"WidthCampaignsModel", "stands", "(II)Z"⟩ : Cond) ∈ wx_all := wx_mem 35 (by decide +kernel) (by decide +kernel)
theorem wp_36 : (.selects "WidthCampaignsModel" ⟨"WidthCampaignsModel", "mayBe", "([II)Z"⟩ ⟨"WidthCampaignsModel", "mayBe", "([II)Z"⟩ : Cond) ∈ wx_all := wx_mem 36 (by decide +kernel) (by decide +kernel)
theorem wp_37 : (.selects "WidthCampaignsModel" ⟨"WidthCampaignsModel", "jumpOf", "(II)I"⟩ ⟨"WidthCampaignsModel", "jumpOf", "(II)I"⟩ : Cond) ∈ wx_all := wx_mem 37 (by decide +kernel) (by decide +kernel)
theorem wp_38 : (.selects "WidthCampaignsModel" ⟨"WidthCampaignsModel", "costOf", "(II)I"⟩ ⟨"WidthCampaignsModel", "costOf", "(II)I"⟩ : Cond) ∈ wx_all := wx_mem 38 (by decide +kernel) (by decide +kernel)
theorem wp_39 : (.selects "WidthCampaignsModel" ⟨"WidthCampaignsModel", "reckon", "([II)V"⟩ ⟨"WidthCampaignsModel", "reckon", "([II)V"⟩ : Cond) ∈ wx_all := wx_mem 39 (by decide +kernel) (by decide +kernel)
theorem wp_40 : (.selects "WidthCampaignsModel" ⟨"WidthCampaignsModel", "isWorn", "([III)Z"⟩ ⟨"WidthCampaignsModel", "isWorn", "([III)Z"⟩ : Cond) ∈ wx_all := wx_mem 40 (by decide +kernel) (by decide +kernel)
theorem wp_41 : (.selects "WidthCampaignsModel" ⟨"WidthCampaignsModel", "isGood", "([I)Z"⟩ ⟨"WidthCampaignsModel", "isGood", "([I)Z"⟩ : Cond) ∈ wx_all := wx_mem 41 (by decide +kernel) (by decide +kernel)
theorem wp_42 : (.selects "WidthCampaignsModel" ⟨"WidthCampaignsModel", "better", "()Z"⟩ ⟨"WidthCampaignsModel", "better", "()Z"⟩ : Cond) ∈ wx_all := wx_mem 42 (by decide +kernel) (by decide +kernel)
theorem wp_43 : (.selects "WidthCampaignsModel" ⟨"WidthCampaignsModel", "swaps", "(II)Z"⟩ ⟨"WidthCampaignsModel", "swaps", "(II)Z"⟩ : Cond) ∈ wx_all := wx_mem 43 (by decide +kernel) (by decide +kernel)
abbrev wy_G_addGroup : MethodName := ⟨"WidthCampaigns$WidthGroups", "addGroup", "(III)V"⟩
abbrev wx_ws_G_addGroup : List Cond := (.code ⟨"WidthCampaigns$WidthGroups", "addGroup", "(III)V"⟩ prog_6_method_2_code 4 (Option.none : Option Jvm.ClassFile.FieldType) : Cond) :: wx_all
theorem wh_G_addGroup : (wy_G_addGroup).cls ≠ "java/lang/invoke/MethodHandle" ∧ (wy_G_addGroup).cls ≠ "java/lang/invoke/VarHandle" ∧ (parseMethodDescriptor (wy_G_addGroup).desc).map (fun d => d.parameters.length) = some 3 := by decide +kernel
abbrev wy_J_addRow : MethodName := ⟨"WidthCampaigns$JumpTable", "addRow", "(III)V"⟩
abbrev wx_ws_J_addRow : List Cond := (.code ⟨"WidthCampaigns$JumpTable", "addRow", "(III)V"⟩ prog_2_method_2_code 4 (Option.none : Option Jvm.ClassFile.FieldType) : Cond) :: wx_all
theorem wh_J_addRow : (wy_J_addRow).cls ≠ "java/lang/invoke/MethodHandle" ∧ (wy_J_addRow).cls ≠ "java/lang/invoke/VarHandle" ∧ (parseMethodDescriptor (wy_J_addRow).desc).map (fun d => d.parameters.length) = some 3 := by decide +kernel
abbrev wy_J_costOf : MethodName := ⟨"WidthCampaigns$JumpTable", "costOf", "(I)I"⟩
abbrev wx_ws_J_costOf : List Cond := (.code ⟨"WidthCampaigns$JumpTable", "costOf", "(I)I"⟩ prog_2_method_3_code 3 (Option.some Jvm.ClassFile.FieldType.int) : Cond) :: wx_all
theorem wh_J_costOf : (wy_J_costOf).cls ≠ "java/lang/invoke/MethodHandle" ∧ (wy_J_costOf).cls ≠ "java/lang/invoke/VarHandle" ∧ (parseMethodDescriptor (wy_J_costOf).desc).map (fun d => d.parameters.length) = some 1 := by decide +kernel
abbrev wy_K_change : MethodName := ⟨"WidthCampaignsLaw", "change", "(LWidthCampaigns;I[J)I"⟩
abbrev wx_ws_K_change : List Cond := (.codeWith ⟨"WidthCampaignsLaw", "change", "(LWidthCampaigns;I[J)I"⟩ method_13_code 4 (Option.some Jvm.ClassFile.FieldType.int) [(0, 16, 19, 20), (0, 16, 22, 45)] : Cond) :: wx_all
theorem wh_K_change : (wy_K_change).cls ≠ "java/lang/invoke/MethodHandle" ∧ (wy_K_change).cls ≠ "java/lang/invoke/VarHandle" ∧ (parseMethodDescriptor (wy_K_change).desc).map (fun d => d.parameters.length) = some 3 := by decide +kernel
abbrev wy_K_coil : MethodName := ⟨"WidthCampaignsLaw", "coil", "(LWidthCampaigns;IIII[J)I"⟩
abbrev wx_ws_K_coil : List Cond := (.codeWith ⟨"WidthCampaignsLaw", "coil", "(LWidthCampaigns;IIII[J)I"⟩ method_3_code 7 (Option.some Jvm.ClassFile.FieldType.int) [(0, 14, 17, 13), (0, 14, 21, 15)] : Cond) :: wx_all
theorem wh_K_coil : (wy_K_coil).cls ≠ "java/lang/invoke/MethodHandle" ∧ (wy_K_coil).cls ≠ "java/lang/invoke/VarHandle" ∧ (parseMethodDescriptor (wy_K_coil).desc).map (fun d => d.parameters.length) = some 6 := by decide +kernel
abbrev wy_K_group : MethodName := ⟨"WidthCampaignsLaw", "group", "(LWidthCampaigns;III[J)I"⟩
abbrev wx_ws_K_group : List Cond := (.codeWith ⟨"WidthCampaignsLaw", "group", "(LWidthCampaigns;III[J)I"⟩ method_5_code 6 (Option.some Jvm.ClassFile.FieldType.int) [(0, 12, 15, 13), (0, 12, 19, 15)] : Cond) :: wx_all
theorem wh_K_group : (wy_K_group).cls ≠ "java/lang/invoke/MethodHandle" ∧ (wy_K_group).cls ≠ "java/lang/invoke/VarHandle" ∧ (parseMethodDescriptor (wy_K_group).desc).map (fun d => d.parameters.length) = some 5 := by decide +kernel
abbrev wy_K_improve : MethodName := ⟨"WidthCampaignsLaw", "improve", "(LWidthCampaigns;I[J)I"⟩
abbrev wx_ws_K_improve : List Cond := (.codeWith ⟨"WidthCampaignsLaw", "improve", "(LWidthCampaigns;I[J)I"⟩ method_16_code 4 (Option.some Jvm.ClassFile.FieldType.int) [(0, 9, 12, 45), (0, 9, 15, 13)] : Cond) :: wx_all
theorem wh_K_improve : (wy_K_improve).cls ≠ "java/lang/invoke/MethodHandle" ∧ (wy_K_improve).cls ≠ "java/lang/invoke/VarHandle" ∧ (parseMethodDescriptor (wy_K_improve).desc).map (fun d => d.parameters.length) = some 3 := by decide +kernel
abbrev wy_K_jump : MethodName := ⟨"WidthCampaignsLaw", "jump", "(LWidthCampaigns;II[J)I"⟩
abbrev wx_ws_K_jump : List Cond := (.codeWith ⟨"WidthCampaignsLaw", "jump", "(LWidthCampaigns;II[J)I"⟩ method_14_code 5 (Option.some Jvm.ClassFile.FieldType.int) [(0, 10, 13, 20)] : Cond) :: wx_all
theorem wh_K_jump : (wy_K_jump).cls ≠ "java/lang/invoke/MethodHandle" ∧ (wy_K_jump).cls ≠ "java/lang/invoke/VarHandle" ∧ (parseMethodDescriptor (wy_K_jump).desc).map (fun d => d.parameters.length) = some 4 := by decide +kernel
abbrev wy_K_old : MethodName := ⟨"WidthCampaignsLaw", "old", "(LWidthCampaigns;II)I"⟩
abbrev wx_ws_K_old : List Cond := (.codeWith ⟨"WidthCampaignsLaw", "old", "(LWidthCampaigns;II)I"⟩ method_7_code 4 (Option.some Jvm.ClassFile.FieldType.int) [(0, 6, 9, 20), (0, 6, 12, 13)] : Cond) :: wx_all
theorem wh_K_old : (wy_K_old).cls ≠ "java/lang/invoke/MethodHandle" ∧ (wy_K_old).cls ≠ "java/lang/invoke/VarHandle" ∧ (parseMethodDescriptor (wy_K_old).desc).map (fun d => d.parameters.length) = some 3 := by decide +kernel
abbrev wy_K_order : MethodName := ⟨"WidthCampaignsLaw", "order", "(LWidthCampaigns;I[J)I"⟩
abbrev wx_ws_K_order : List Cond := (.codeWith ⟨"WidthCampaignsLaw", "order", "(LWidthCampaigns;I[J)I"⟩ method_11_code 4 (Option.some Jvm.ClassFile.FieldType.int) [(0, 9, 12, 20), (0, 9, 15, 45)] : Cond) :: wx_all
theorem wh_K_order : (wy_K_order).cls ≠ "java/lang/invoke/MethodHandle" ∧ (wy_K_order).cls ≠ "java/lang/invoke/VarHandle" ∧ (parseMethodDescriptor (wy_K_order).desc).map (fun d => d.parameters.length) = some 3 := by decide +kernel
abbrev wy_K_proved : MethodName := ⟨"WidthCampaignsLaw", "proved", "(LWidthCampaigns;[J)I"⟩
abbrev wx_ws_K_proved : List Cond := (.codeWith ⟨"WidthCampaignsLaw", "proved", "(LWidthCampaigns;[J)I"⟩ method_10_code 3 (Option.some Jvm.ClassFile.FieldType.int) [(0, 15, 18, 45)] : Cond) :: wx_all
theorem wh_K_proved : (wy_K_proved).cls ≠ "java/lang/invoke/MethodHandle" ∧ (wy_K_proved).cls ≠ "java/lang/invoke/VarHandle" ∧ (parseMethodDescriptor (wy_K_proved).desc).map (fun d => d.parameters.length) = some 2 := by decide +kernel
abbrev wy_K_rules : MethodName := ⟨"WidthCampaignsLaw", "rules", "(LWidthCampaigns;IIII)I"⟩
abbrev wx_ws_K_rules : List Cond := (.codeWith ⟨"WidthCampaignsLaw", "rules", "(LWidthCampaigns;IIII)I"⟩ method_8_code 6 (Option.some Jvm.ClassFile.FieldType.int) [(0, 9, 12, 13)] : Cond) :: wx_all
theorem wh_K_rules : (wy_K_rules).cls ≠ "java/lang/invoke/MethodHandle" ∧ (wy_K_rules).cls ≠ "java/lang/invoke/VarHandle" ∧ (parseMethodDescriptor (wy_K_rules).desc).map (fun d => d.parameters.length) = some 5 := by decide +kernel
abbrev wy_K_run : MethodName := ⟨"WidthCampaignsLaw", "run", "(LWidthCampaigns;I[J)I"⟩
abbrev wx_ws_K_run : List Cond := (.codeWith ⟨"WidthCampaignsLaw", "run", "(LWidthCampaigns;I[J)I"⟩ method_9_code 4 (Option.some Jvm.ClassFile.FieldType.int) [(0, 9, 12, 13)] : Cond) :: wx_all
theorem wh_K_run : (wy_K_run).cls ≠ "java/lang/invoke/MethodHandle" ∧ (wy_K_run).cls ≠ "java/lang/invoke/VarHandle" ∧ (parseMethodDescriptor (wy_K_run).desc).map (fun d => d.parameters.length) = some 3 := by decide +kernel
abbrev wy_K_table : MethodName := ⟨"WidthCampaignsLaw", "table", "(LWidthCampaigns;IIII[J)I"⟩
abbrev wx_ws_K_table : List Cond := (.codeWith ⟨"WidthCampaignsLaw", "table", "(LWidthCampaigns;IIII[J)I"⟩ method_4_code 7 (Option.some Jvm.ClassFile.FieldType.int) [(0, 14, 17, 20), (0, 14, 21, 13), (0, 14, 25, 15)] : Cond) :: wx_all
theorem wh_K_table : (wy_K_table).cls ≠ "java/lang/invoke/MethodHandle" ∧ (wy_K_table).cls ≠ "java/lang/invoke/VarHandle" ∧ (parseMethodDescriptor (wy_K_table).desc).map (fun d => d.parameters.length) = some 6 := by decide +kernel
abbrev wy_K_tell : MethodName := ⟨"WidthCampaignsLaw", "tell", "(LWidthCampaigns;J)I"⟩
abbrev wx_ws_K_tell : List Cond := (.codeWith ⟨"WidthCampaignsLaw", "tell", "(LWidthCampaigns;J)I"⟩ method_15_code 4 (Option.some Jvm.ClassFile.FieldType.int) [(0, 5, 8, 20), (0, 5, 11, 15)] : Cond) :: wx_all
theorem wh_K_tell : (wy_K_tell).cls ≠ "java/lang/invoke/MethodHandle" ∧ (wy_K_tell).cls ≠ "java/lang/invoke/VarHandle" ∧ (parseMethodDescriptor (wy_K_tell).desc).map (fun d => d.parameters.length) = some 2 := by decide +kernel
abbrev wy_K_told : MethodName := ⟨"WidthCampaignsLaw", "told", "(LWidthCampaigns;I[J)I"⟩
abbrev wx_ws_K_told : List Cond := (.codeWith ⟨"WidthCampaignsLaw", "told", "(LWidthCampaigns;I[J)I"⟩ method_12_code 4 (Option.some Jvm.ClassFile.FieldType.int) [(0, 9, 12, 20), (0, 9, 15, 45)] : Cond) :: wx_all
theorem wh_K_told : (wy_K_told).cls ≠ "java/lang/invoke/MethodHandle" ∧ (wy_K_told).cls ≠ "java/lang/invoke/VarHandle" ∧ (parseMethodDescriptor (wy_K_told).desc).map (fun d => d.parameters.length) = some 3 := by decide +kernel
abbrev wy_K_urgent : MethodName := ⟨"WidthCampaignsLaw", "urgent", "(LWidthCampaigns;II)I"⟩
abbrev wx_ws_K_urgent : List Cond := (.codeWith ⟨"WidthCampaignsLaw", "urgent", "(LWidthCampaigns;II)I"⟩ method_6_code 4 (Option.some Jvm.ClassFile.FieldType.int) [(0, 6, 9, 20), (0, 6, 12, 13)] : Cond) :: wx_all
theorem wh_K_urgent : (wy_K_urgent).cls ≠ "java/lang/invoke/MethodHandle" ∧ (wy_K_urgent).cls ≠ "java/lang/invoke/VarHandle" ∧ (parseMethodDescriptor (wy_K_urgent).desc).map (fun d => d.parameters.length) = some 3 := by decide +kernel
abbrev wy_L_changesSoFar : MethodName := ⟨"WidthCampaigns$Line", "changesSoFar", "()I"⟩
abbrev wx_ws_L_changesSoFar : List Cond := (.code ⟨"WidthCampaigns$Line", "changesSoFar", "()I"⟩ prog_3_method_3_code 1 (Option.some Jvm.ClassFile.FieldType.int) : Cond) :: wx_all
theorem wh_L_changesSoFar : (wy_L_changesSoFar).cls ≠ "java/lang/invoke/MethodHandle" ∧ (wy_L_changesSoFar).cls ≠ "java/lang/invoke/VarHandle" ∧ (parseMethodDescriptor (wy_L_changesSoFar).desc).map (fun d => d.parameters.length) = some 0 := by decide +kernel
abbrev wy_L_clear : MethodName := ⟨"WidthCampaigns$Line", "clear", "()V"⟩
abbrev wx_ws_L_clear : List Cond := (.code ⟨"WidthCampaigns$Line", "clear", "()V"⟩ prog_3_method_5_code 2 (Option.none : Option Jvm.ClassFile.FieldType) : Cond) :: wx_all
theorem wh_L_clear : (wy_L_clear).cls ≠ "java/lang/invoke/MethodHandle" ∧ (wy_L_clear).cls ≠ "java/lang/invoke/VarHandle" ∧ (parseMethodDescriptor (wy_L_clear).desc).map (fun d => d.parameters.length) = some 0 := by decide +kernel
abbrev wy_L_countCosts : MethodName := ⟨"WidthCampaigns$Line", "countCosts", "(IZ)V"⟩
abbrev wx_ws_L_countCosts : List Cond := (.code ⟨"WidthCampaigns$Line", "countCosts", "(IZ)V"⟩ prog_3_method_13_code 7 (Option.none : Option Jvm.ClassFile.FieldType) : Cond) :: wx_all
theorem wh_L_countCosts : (wy_L_countCosts).cls ≠ "java/lang/invoke/MethodHandle" ∧ (wy_L_countCosts).cls ≠ "java/lang/invoke/VarHandle" ∧ (parseMethodDescriptor (wy_L_countCosts).desc).map (fun d => d.parameters.length) = some 2 := by decide +kernel
abbrev wy_L_countKilometres : MethodName := ⟨"WidthCampaigns$Line", "countKilometres", "(IZ)V"⟩
abbrev wx_ws_L_countKilometres : List Cond := (.code ⟨"WidthCampaigns$Line", "countKilometres", "(IZ)V"⟩ prog_3_method_12_code 6 (Option.none : Option Jvm.ClassFile.FieldType) : Cond) :: wx_all
theorem wh_L_countKilometres : (wy_L_countKilometres).cls ≠ "java/lang/invoke/MethodHandle" ∧ (wy_L_countKilometres).cls ≠ "java/lang/invoke/VarHandle" ∧ (parseMethodDescriptor (wy_L_countKilometres).desc).map (fun d => d.parameters.length) = some 2 := by decide +kernel
abbrev wy_L_isWornWith : MethodName := ⟨"WidthCampaigns$Line", "isWornWith", "(I)Z"⟩
abbrev wx_ws_L_isWornWith : List Cond := (.code ⟨"WidthCampaigns$Line", "isWornWith", "(I)Z"⟩ prog_3_method_11_code 4 (Option.some Jvm.ClassFile.FieldType.boolean) : Cond) :: wx_all
theorem wh_L_isWornWith : (wy_L_isWornWith).cls ≠ "java/lang/invoke/MethodHandle" ∧ (wy_L_isWornWith).cls ≠ "java/lang/invoke/VarHandle" ∧ (parseMethodDescriptor (wy_L_isWornWith).desc).map (fun d => d.parameters.length) = some 1 := by decide +kernel
abbrev wy_L_layAll : MethodName := ⟨"WidthCampaigns$Line", "layAll", "([I)Z"⟩
abbrev wx_ws_L_layAll : List Cond := (.code ⟨"WidthCampaigns$Line", "layAll", "([I)Z"⟩ prog_3_method_6_code 3 (Option.some Jvm.ClassFile.FieldType.boolean) : Cond) :: wx_all
theorem wh_L_layAll : (wy_L_layAll).cls ≠ "java/lang/invoke/MethodHandle" ∧ (wy_L_layAll).cls ≠ "java/lang/invoke/VarHandle" ∧ (parseMethodDescriptor (wy_L_layAll).desc).map (fun d => d.parameters.length) = some 1 := by decide +kernel
abbrev wy_L_mayFollow : MethodName := ⟨"WidthCampaigns$Line", "mayFollow", "(II)Z"⟩
abbrev wx_ws_L_mayFollow : List Cond := (.code ⟨"WidthCampaigns$Line", "mayFollow", "(II)Z"⟩ prog_3_method_8_code 4 (Option.some Jvm.ClassFile.FieldType.boolean) : Cond) :: wx_all
theorem wh_L_mayFollow : (wy_L_mayFollow).cls ≠ "java/lang/invoke/MethodHandle" ∧ (wy_L_mayFollow).cls ≠ "java/lang/invoke/VarHandle" ∧ (parseMethodDescriptor (wy_L_mayFollow).desc).map (fun d => d.parameters.length) = some 2 := by decide +kernel
abbrev wy_L_mayPut : MethodName := ⟨"WidthCampaigns$Line", "mayPut", "(I)Z"⟩
abbrev wx_ws_L_mayPut : List Cond := (.code ⟨"WidthCampaigns$Line", "mayPut", "(I)Z"⟩ prog_3_method_7_code 2 (Option.some Jvm.ClassFile.FieldType.boolean) : Cond) :: wx_all
theorem wh_L_mayPut : (wy_L_mayPut).cls ≠ "java/lang/invoke/MethodHandle" ∧ (wy_L_mayPut).cls ≠ "java/lang/invoke/VarHandle" ∧ (parseMethodDescriptor (wy_L_mayPut).desc).map (fun d => d.parameters.length) = some 1 := by decide +kernel
abbrev wy_L_movedSoFar : MethodName := ⟨"WidthCampaigns$Line", "movedSoFar", "()I"⟩
abbrev wx_ws_L_movedSoFar : List Cond := (.code ⟨"WidthCampaigns$Line", "movedSoFar", "()I"⟩ prog_3_method_4_code 1 (Option.some Jvm.ClassFile.FieldType.int) : Cond) :: wx_all
theorem wh_L_movedSoFar : (wy_L_movedSoFar).cls ≠ "java/lang/invoke/MethodHandle" ∧ (wy_L_movedSoFar).cls ≠ "java/lang/invoke/VarHandle" ∧ (parseMethodDescriptor (wy_L_movedSoFar).desc).map (fun d => d.parameters.length) = some 0 := by decide +kernel
abbrev wy_L_penaltySoFar : MethodName := ⟨"WidthCampaigns$Line", "penaltySoFar", "()I"⟩
abbrev wx_ws_L_penaltySoFar : List Cond := (.code ⟨"WidthCampaigns$Line", "penaltySoFar", "()I"⟩ prog_3_method_2_code 1 (Option.some Jvm.ClassFile.FieldType.int) : Cond) :: wx_all
theorem wh_L_penaltySoFar : (wy_L_penaltySoFar).cls ≠ "java/lang/invoke/MethodHandle" ∧ (wy_L_penaltySoFar).cls ≠ "java/lang/invoke/VarHandle" ∧ (parseMethodDescriptor (wy_L_penaltySoFar).desc).map (fun d => d.parameters.length) = some 0 := by decide +kernel
abbrev wy_L_put : MethodName := ⟨"WidthCampaigns$Line", "put", "(I)V"⟩
abbrev wx_ws_L_put : List Cond := (.code ⟨"WidthCampaigns$Line", "put", "(I)V"⟩ prog_3_method_9_code 3 (Option.none : Option Jvm.ClassFile.FieldType) : Cond) :: wx_all
theorem wh_L_put : (wy_L_put).cls ≠ "java/lang/invoke/MethodHandle" ∧ (wy_L_put).cls ≠ "java/lang/invoke/VarHandle" ∧ (parseMethodDescriptor (wy_L_put).desc).map (fun d => d.parameters.length) = some 1 := by decide +kernel
abbrev wy_L_takeBack : MethodName := ⟨"WidthCampaigns$Line", "takeBack", "()V"⟩
abbrev wx_ws_L_takeBack : List Cond := (.code ⟨"WidthCampaigns$Line", "takeBack", "()V"⟩ prog_3_method_10_code 1 (Option.none : Option Jvm.ClassFile.FieldType) : Cond) :: wx_all
theorem wh_L_takeBack : (wy_L_takeBack).cls ≠ "java/lang/invoke/MethodHandle" ∧ (wy_L_takeBack).cls ≠ "java/lang/invoke/VarHandle" ∧ (parseMethodDescriptor (wy_L_takeBack).desc).map (fun d => d.parameters.length) = some 0 := by decide +kernel
abbrev wy_M_better : MethodName := ⟨"WidthCampaignsModel", "better", "()Z"⟩
abbrev wx_ws_M_better : List Cond := (.code ⟨"WidthCampaignsModel", "better", "()Z"⟩ prog_8_method_29_code 3 (Option.some Jvm.ClassFile.FieldType.boolean) : Cond) :: wx_all
theorem wh_M_better : (wy_M_better).cls ≠ "java/lang/invoke/MethodHandle" ∧ (wy_M_better).cls ≠ "java/lang/invoke/VarHandle" ∧ (parseMethodDescriptor (wy_M_better).desc).map (fun d => d.parameters.length) = some 0 := by decide +kernel
abbrev wy_M_bound : MethodName := ⟨"WidthCampaignsModel", "bound", "()I"⟩
abbrev wx_ws_M_bound : List Cond := (.code ⟨"WidthCampaignsModel", "bound", "()I"⟩ prog_8_method_25_code 7 (Option.some Jvm.ClassFile.FieldType.int) : Cond) :: wx_all
theorem wh_M_bound : (wy_M_bound).cls ≠ "java/lang/invoke/MethodHandle" ∧ (wy_M_bound).cls ≠ "java/lang/invoke/VarHandle" ∧ (parseMethodDescriptor (wy_M_bound).desc).map (fun d => d.parameters.length) = some 0 := by decide +kernel
abbrev wy_M_change : MethodName := ⟨"WidthCampaignsModel", "change", "(I)Z"⟩
abbrev wx_ws_M_change : List Cond := (.code ⟨"WidthCampaignsModel", "change", "(I)Z"⟩ prog_8_method_23_code 2 (Option.some Jvm.ClassFile.FieldType.boolean) : Cond) :: wx_all
theorem wh_M_change : (wy_M_change).cls ≠ "java/lang/invoke/MethodHandle" ∧ (wy_M_change).cls ≠ "java/lang/invoke/VarHandle" ∧ (parseMethodDescriptor (wy_M_change).desc).map (fun d => d.parameters.length) = some 1 := by decide +kernel
abbrev wy_M_coil : MethodName := ⟨"WidthCampaignsModel", "coil", "(IIII)I"⟩
abbrev wx_ws_M_coil : List Cond := (.code ⟨"WidthCampaignsModel", "coil", "(IIII)I"⟩ prog_8_method_7_code 5 (Option.some Jvm.ClassFile.FieldType.int) : Cond) :: wx_all
theorem wh_M_coil : (wy_M_coil).cls ≠ "java/lang/invoke/MethodHandle" ∧ (wy_M_coil).cls ≠ "java/lang/invoke/VarHandle" ∧ (parseMethodDescriptor (wy_M_coil).desc).map (fun d => d.parameters.length) = some 4 := by decide +kernel
abbrev wy_M_costOf : MethodName := ⟨"WidthCampaignsModel", "costOf", "(II)I"⟩
abbrev wx_ws_M_costOf : List Cond := (.code ⟨"WidthCampaignsModel", "costOf", "(II)I"⟩ prog_8_method_13_code 5 (Option.some Jvm.ClassFile.FieldType.int) : Cond) :: wx_all
theorem wh_M_costOf : (wy_M_costOf).cls ≠ "java/lang/invoke/MethodHandle" ∧ (wy_M_costOf).cls ≠ "java/lang/invoke/VarHandle" ∧ (parseMethodDescriptor (wy_M_costOf).desc).map (fun d => d.parameters.length) = some 2 := by decide +kernel
abbrev wy_M_goes : MethodName := ⟨"WidthCampaignsModel", "goes", "(ZZZ)Z"⟩
abbrev wx_ws_M_goes : List Cond := (.code ⟨"WidthCampaignsModel", "goes", "(ZZZ)Z"⟩ prog_8_method_4_code 4 (Option.some Jvm.ClassFile.FieldType.boolean) : Cond) :: wx_all
theorem wh_M_goes : (wy_M_goes).cls ≠ "java/lang/invoke/MethodHandle" ∧ (wy_M_goes).cls ≠ "java/lang/invoke/VarHandle" ∧ (parseMethodDescriptor (wy_M_goes).desc).map (fun d => d.parameters.length) = some 3 := by decide +kernel
abbrev wy_M_gone : MethodName := ⟨"WidthCampaignsModel", "gone", "()V"⟩
abbrev wx_ws_M_gone : List Cond := (.code ⟨"WidthCampaignsModel", "gone", "()V"⟩ prog_8_method_5_code 1 (Option.none : Option Jvm.ClassFile.FieldType) : Cond) :: wx_all
theorem wh_M_gone : (wy_M_gone).cls ≠ "java/lang/invoke/MethodHandle" ∧ (wy_M_gone).cls ≠ "java/lang/invoke/VarHandle" ∧ (parseMethodDescriptor (wy_M_gone).desc).map (fun d => d.parameters.length) = some 0 := by decide +kernel
abbrev wy_M_group : MethodName := ⟨"WidthCampaignsModel", "group", "(III)I"⟩
abbrev wx_ws_M_group : List Cond := (.code ⟨"WidthCampaignsModel", "group", "(III)I"⟩ prog_8_method_9_code 4 (Option.some Jvm.ClassFile.FieldType.int) : Cond) :: wx_all
theorem wh_M_group : (wy_M_group).cls ≠ "java/lang/invoke/MethodHandle" ∧ (wy_M_group).cls ≠ "java/lang/invoke/VarHandle" ∧ (parseMethodDescriptor (wy_M_group).desc).map (fun d => d.parameters.length) = some 3 := by decide +kernel
abbrev wy_M_improve : MethodName := ⟨"WidthCampaignsModel", "improve", "(I)I"⟩
abbrev wx_ws_M_improve : List Cond := (.code ⟨"WidthCampaignsModel", "improve", "(I)I"⟩ prog_8_method_30_code 3 (Option.some Jvm.ClassFile.FieldType.int) : Cond) :: wx_all
theorem wh_M_improve : (wy_M_improve).cls ≠ "java/lang/invoke/MethodHandle" ∧ (wy_M_improve).cls ≠ "java/lang/invoke/VarHandle" ∧ (parseMethodDescriptor (wy_M_improve).desc).map (fun d => d.parameters.length) = some 1 := by decide +kernel
abbrev wy_M_in : MethodName := ⟨"WidthCampaignsModel", "in", "(III)Z"⟩
abbrev wx_ws_M_in : List Cond := (.code ⟨"WidthCampaignsModel", "in", "(III)Z"⟩ prog_8_method_3_code 3 (Option.some Jvm.ClassFile.FieldType.boolean) : Cond) :: wx_all
theorem wh_M_in : (wy_M_in).cls ≠ "java/lang/invoke/MethodHandle" ∧ (wy_M_in).cls ≠ "java/lang/invoke/VarHandle" ∧ (parseMethodDescriptor (wy_M_in).desc).map (fun d => d.parameters.length) = some 3 := by decide +kernel
abbrev wy_M_isCoil : MethodName := ⟨"WidthCampaignsModel", "isCoil", "(I)Z"⟩
abbrev wx_ws_M_isCoil : List Cond := (.code ⟨"WidthCampaignsModel", "isCoil", "(I)Z"⟩ prog_8_method_6_code 2 (Option.some Jvm.ClassFile.FieldType.boolean) : Cond) :: wx_all
theorem wh_M_isCoil : (wy_M_isCoil).cls ≠ "java/lang/invoke/MethodHandle" ∧ (wy_M_isCoil).cls ≠ "java/lang/invoke/VarHandle" ∧ (parseMethodDescriptor (wy_M_isCoil).desc).map (fun d => d.parameters.length) = some 1 := by decide +kernel
abbrev wy_M_isGood : MethodName := ⟨"WidthCampaignsModel", "isGood", "([I)Z"⟩
abbrev wx_ws_M_isGood : List Cond := (.code ⟨"WidthCampaignsModel", "isGood", "([I)Z"⟩ prog_8_method_26_code 3 (Option.some Jvm.ClassFile.FieldType.boolean) : Cond) :: wx_all
theorem wh_M_isGood : (wy_M_isGood).cls ≠ "java/lang/invoke/MethodHandle" ∧ (wy_M_isGood).cls ≠ "java/lang/invoke/VarHandle" ∧ (parseMethodDescriptor (wy_M_isGood).desc).map (fun d => d.parameters.length) = some 1 := by decide +kernel
abbrev wy_M_isWorn : MethodName := ⟨"WidthCampaignsModel", "isWorn", "([III)Z"⟩
abbrev wx_ws_M_isWorn : List Cond := (.code ⟨"WidthCampaignsModel", "isWorn", "([III)Z"⟩ prog_8_method_17_code 9 (Option.some Jvm.ClassFile.FieldType.boolean) : Cond) :: wx_all
theorem wh_M_isWorn : (wy_M_isWorn).cls ≠ "java/lang/invoke/MethodHandle" ∧ (wy_M_isWorn).cls ≠ "java/lang/invoke/VarHandle" ∧ (parseMethodDescriptor (wy_M_isWorn).desc).map (fun d => d.parameters.length) = some 3 := by decide +kernel
abbrev wy_M_jump : MethodName := ⟨"WidthCampaignsModel", "jump", "(II)I"⟩
abbrev wx_ws_M_jump : List Cond := (.code ⟨"WidthCampaignsModel", "jump", "(II)I"⟩ prog_8_method_24_code 3 (Option.some Jvm.ClassFile.FieldType.int) : Cond) :: wx_all
theorem wh_M_jump : (wy_M_jump).cls ≠ "java/lang/invoke/MethodHandle" ∧ (wy_M_jump).cls ≠ "java/lang/invoke/VarHandle" ∧ (parseMethodDescriptor (wy_M_jump).desc).map (fun d => d.parameters.length) = some 2 := by decide +kernel
abbrev wy_M_jumpOf : MethodName := ⟨"WidthCampaignsModel", "jumpOf", "(II)I"⟩
abbrev wx_ws_M_jumpOf : List Cond := (.code ⟨"WidthCampaignsModel", "jumpOf", "(II)I"⟩ prog_8_method_14_code 5 (Option.some Jvm.ClassFile.FieldType.int) : Cond) :: wx_all
theorem wh_M_jumpOf : (wy_M_jumpOf).cls ≠ "java/lang/invoke/MethodHandle" ∧ (wy_M_jumpOf).cls ≠ "java/lang/invoke/VarHandle" ∧ (parseMethodDescriptor (wy_M_jumpOf).desc).map (fun d => d.parameters.length) = some 2 := by decide +kernel
abbrev wy_M_mayBe : MethodName := ⟨"WidthCampaignsModel", "mayBe", "([II)Z"⟩
abbrev wx_ws_M_mayBe : List Cond := (.code ⟨"WidthCampaignsModel", "mayBe", "([II)Z"⟩ prog_8_method_15_code 5 (Option.some Jvm.ClassFile.FieldType.boolean) : Cond) :: wx_all
theorem wh_M_mayBe : (wy_M_mayBe).cls ≠ "java/lang/invoke/MethodHandle" ∧ (wy_M_mayBe).cls ≠ "java/lang/invoke/VarHandle" ∧ (parseMethodDescriptor (wy_M_mayBe).desc).map (fun d => d.parameters.length) = some 2 := by decide +kernel
abbrev wy_M_old : MethodName := ⟨"WidthCampaignsModel", "old", "(II)V"⟩
abbrev wx_ws_M_old : List Cond := (.code ⟨"WidthCampaignsModel", "old", "(II)V"⟩ prog_8_method_11_code 3 (Option.none : Option Jvm.ClassFile.FieldType) : Cond) :: wx_all
theorem wh_M_old : (wy_M_old).cls ≠ "java/lang/invoke/MethodHandle" ∧ (wy_M_old).cls ≠ "java/lang/invoke/VarHandle" ∧ (parseMethodDescriptor (wy_M_old).desc).map (fun d => d.parameters.length) = some 2 := by decide +kernel
abbrev wy_M_order : MethodName := ⟨"WidthCampaignsModel", "order", "(I)I"⟩
abbrev wx_ws_M_order : List Cond := (.code ⟨"WidthCampaignsModel", "order", "(I)I"⟩ prog_8_method_21_code 2 (Option.some Jvm.ClassFile.FieldType.int) : Cond) :: wx_all
theorem wh_M_order : (wy_M_order).cls ≠ "java/lang/invoke/MethodHandle" ∧ (wy_M_order).cls ≠ "java/lang/invoke/VarHandle" ∧ (parseMethodDescriptor (wy_M_order).desc).map (fun d => d.parameters.length) = some 1 := by decide +kernel
abbrev wy_M_proved : MethodName := ⟨"WidthCampaignsModel", "proved", "()Z"⟩
abbrev wx_ws_M_proved : List Cond := (.code ⟨"WidthCampaignsModel", "proved", "()Z"⟩ prog_8_method_20_code 1 (Option.some Jvm.ClassFile.FieldType.boolean) : Cond) :: wx_all
theorem wh_M_proved : (wy_M_proved).cls ≠ "java/lang/invoke/MethodHandle" ∧ (wy_M_proved).cls ≠ "java/lang/invoke/VarHandle" ∧ (parseMethodDescriptor (wy_M_proved).desc).map (fun d => d.parameters.length) = some 0 := by decide +kernel
abbrev wy_M_reckon : MethodName := ⟨"WidthCampaignsModel", "reckon", "([II)V"⟩
abbrev wx_ws_M_reckon : List Cond := (.code ⟨"WidthCampaignsModel", "reckon", "([II)V"⟩ prog_8_method_16_code 5 (Option.none : Option Jvm.ClassFile.FieldType) : Cond) :: wx_all
theorem wh_M_reckon : (wy_M_reckon).cls ≠ "java/lang/invoke/MethodHandle" ∧ (wy_M_reckon).cls ≠ "java/lang/invoke/VarHandle" ∧ (parseMethodDescriptor (wy_M_reckon).desc).map (fun d => d.parameters.length) = some 2 := by decide +kernel
abbrev wy_M_rules : MethodName := ⟨"WidthCampaignsModel", "rules", "(IIII)V"⟩
abbrev wx_ws_M_rules : List Cond := (.code ⟨"WidthCampaignsModel", "rules", "(IIII)V"⟩ prog_8_method_12_code 5 (Option.none : Option Jvm.ClassFile.FieldType) : Cond) :: wx_all
theorem wh_M_rules : (wy_M_rules).cls ≠ "java/lang/invoke/MethodHandle" ∧ (wy_M_rules).cls ≠ "java/lang/invoke/VarHandle" ∧ (parseMethodDescriptor (wy_M_rules).desc).map (fun d => d.parameters.length) = some 4 := by decide +kernel
abbrev wy_M_run : MethodName := ⟨"WidthCampaignsModel", "run", "(I)I"⟩
abbrev wx_ws_M_run : List Cond := (.code ⟨"WidthCampaignsModel", "run", "(I)I"⟩ prog_8_method_19_code 6 (Option.some Jvm.ClassFile.FieldType.int) : Cond) :: wx_all
theorem wh_M_run : (wy_M_run).cls ≠ "java/lang/invoke/MethodHandle" ∧ (wy_M_run).cls ≠ "java/lang/invoke/VarHandle" ∧ (parseMethodDescriptor (wy_M_run).desc).map (fun d => d.parameters.length) = some 1 := by decide +kernel
abbrev wy_M_stands : MethodName := ⟨"WidthCampaignsModel", "stands", "(II)Z"⟩
abbrev wx_ws_M_stands : List Cond := (.code ⟨"WidthCampaignsModel", "stands", "(II)Z"⟩ prog_8_method_18_code 4 (Option.some Jvm.ClassFile.FieldType.boolean) : Cond) :: wx_all
theorem wh_M_stands : (wy_M_stands).cls ≠ "java/lang/invoke/MethodHandle" ∧ (wy_M_stands).cls ≠ "java/lang/invoke/VarHandle" ∧ (parseMethodDescriptor (wy_M_stands).desc).map (fun d => d.parameters.length) = some 2 := by decide +kernel
abbrev wy_M_swaps : MethodName := ⟨"WidthCampaignsModel", "swaps", "(II)Z"⟩
abbrev wx_ws_M_swaps : List Cond := (.code ⟨"WidthCampaignsModel", "swaps", "(II)Z"⟩ prog_8_method_28_code 5 (Option.some Jvm.ClassFile.FieldType.boolean) : Cond) :: wx_all
theorem wh_M_swaps : (wy_M_swaps).cls ≠ "java/lang/invoke/MethodHandle" ∧ (wy_M_swaps).cls ≠ "java/lang/invoke/VarHandle" ∧ (parseMethodDescriptor (wy_M_swaps).desc).map (fun d => d.parameters.length) = some 2 := by decide +kernel
abbrev wy_M_table : MethodName := ⟨"WidthCampaignsModel", "table", "(IIII)I"⟩
abbrev wx_ws_M_table : List Cond := (.code ⟨"WidthCampaignsModel", "table", "(IIII)I"⟩ prog_8_method_8_code 7 (Option.some Jvm.ClassFile.FieldType.int) : Cond) :: wx_all
theorem wh_M_table : (wy_M_table).cls ≠ "java/lang/invoke/MethodHandle" ∧ (wy_M_table).cls ≠ "java/lang/invoke/VarHandle" ∧ (parseMethodDescriptor (wy_M_table).desc).map (fun d => d.parameters.length) = some 4 := by decide +kernel
abbrev wy_M_tell : MethodName := ⟨"WidthCampaignsModel", "tell", "(J)V"⟩
abbrev wx_ws_M_tell : List Cond := (.code ⟨"WidthCampaignsModel", "tell", "(J)V"⟩ prog_8_method_27_code 5 (Option.none : Option Jvm.ClassFile.FieldType) : Cond) :: wx_all
theorem wh_M_tell : (wy_M_tell).cls ≠ "java/lang/invoke/MethodHandle" ∧ (wy_M_tell).cls ≠ "java/lang/invoke/VarHandle" ∧ (parseMethodDescriptor (wy_M_tell).desc).map (fun d => d.parameters.length) = some 1 := by decide +kernel
abbrev wy_M_thrown : MethodName := ⟨"WidthCampaignsModel", "thrown", "()I"⟩
abbrev wx_ws_M_thrown : List Cond := (.code ⟨"WidthCampaignsModel", "thrown", "()I"⟩ prog_8_method_2_code 1 (Option.some Jvm.ClassFile.FieldType.int) : Cond) :: wx_all
theorem wh_M_thrown : (wy_M_thrown).cls ≠ "java/lang/invoke/MethodHandle" ∧ (wy_M_thrown).cls ≠ "java/lang/invoke/VarHandle" ∧ (parseMethodDescriptor (wy_M_thrown).desc).map (fun d => d.parameters.length) = some 0 := by decide +kernel
abbrev wy_M_told : MethodName := ⟨"WidthCampaignsModel", "told", "(I)I"⟩
abbrev wx_ws_M_told : List Cond := (.code ⟨"WidthCampaignsModel", "told", "(I)I"⟩ prog_8_method_22_code 2 (Option.some Jvm.ClassFile.FieldType.int) : Cond) :: wx_all
theorem wh_M_told : (wy_M_told).cls ≠ "java/lang/invoke/MethodHandle" ∧ (wy_M_told).cls ≠ "java/lang/invoke/VarHandle" ∧ (parseMethodDescriptor (wy_M_told).desc).map (fun d => d.parameters.length) = some 1 := by decide +kernel
abbrev wy_M_urgent : MethodName := ⟨"WidthCampaignsModel", "urgent", "(II)V"⟩
abbrev wx_ws_M_urgent : List Cond := (.code ⟨"WidthCampaignsModel", "urgent", "(II)V"⟩ prog_8_method_10_code 3 (Option.none : Option Jvm.ClassFile.FieldType) : Cond) :: wx_all
theorem wh_M_urgent : (wy_M_urgent).cls ≠ "java/lang/invoke/MethodHandle" ∧ (wy_M_urgent).cls ≠ "java/lang/invoke/VarHandle" ∧ (parseMethodDescriptor (wy_M_urgent).desc).map (fun d => d.parameters.length) = some 2 := by decide +kernel
abbrev wy_P_addCoil : MethodName := ⟨"WidthCampaigns$Plant", "addCoil", "(IIII)I"⟩
abbrev wx_ws_P_addCoil : List Cond := (.code ⟨"WidthCampaigns$Plant", "addCoil", "(IIII)I"⟩ prog_4_method_2_code 6 (Option.some Jvm.ClassFile.FieldType.int) : Cond) :: wx_all
theorem wh_P_addCoil : (wy_P_addCoil).cls ≠ "java/lang/invoke/MethodHandle" ∧ (wy_P_addCoil).cls ≠ "java/lang/invoke/VarHandle" ∧ (parseMethodDescriptor (wy_P_addCoil).desc).map (fun d => d.parameters.length) = some 4 := by decide +kernel
abbrev wy_P_kilometresInGroup : MethodName := ⟨"WidthCampaigns$Plant", "kilometresInGroup", "(II)I"⟩
abbrev wx_ws_P_kilometresInGroup : List Cond := (.code ⟨"WidthCampaigns$Plant", "kilometresInGroup", "(II)I"⟩ prog_4_method_6_code 4 (Option.some Jvm.ClassFile.FieldType.int) : Cond) :: wx_all
theorem wh_P_kilometresInGroup : (wy_P_kilometresInGroup).cls ≠ "java/lang/invoke/MethodHandle" ∧ (wy_P_kilometresInGroup).cls ≠ "java/lang/invoke/VarHandle" ∧ (parseMethodDescriptor (wy_P_kilometresInGroup).desc).map (fun d => d.parameters.length) = some 2 := by decide +kernel
abbrev wy_P_leastJumpTo : MethodName := ⟨"WidthCampaigns$Plant", "leastJumpTo", "(I)I"⟩
abbrev wx_ws_P_leastJumpTo : List Cond := (.code ⟨"WidthCampaigns$Plant", "leastJumpTo", "(I)I"⟩ prog_4_method_5_code 5 (Option.some Jvm.ClassFile.FieldType.int) : Cond) :: wx_all
theorem wh_P_leastJumpTo : (wy_P_leastJumpTo).cls ≠ "java/lang/invoke/MethodHandle" ∧ (wy_P_leastJumpTo).cls ≠ "java/lang/invoke/VarHandle" ∧ (parseMethodDescriptor (wy_P_leastJumpTo).desc).map (fun d => d.parameters.length) = some 1 := by decide +kernel
abbrev wy_P_reckonJump : MethodName := ⟨"WidthCampaigns$Plant", "reckonJump", "(II)I"⟩
abbrev wx_ws_P_reckonJump : List Cond := (.code ⟨"WidthCampaigns$Plant", "reckonJump", "(II)I"⟩ prog_4_method_4_code 5 (Option.some Jvm.ClassFile.FieldType.int) : Cond) :: wx_all
theorem wh_P_reckonJump : (wy_P_reckonJump).cls ≠ "java/lang/invoke/MethodHandle" ∧ (wy_P_reckonJump).cls ≠ "java/lang/invoke/VarHandle" ∧ (parseMethodDescriptor (wy_P_reckonJump).desc).map (fun d => d.parameters.length) = some 2 := by decide +kernel
abbrev wy_P_reckonJumps : MethodName := ⟨"WidthCampaigns$Plant", "reckonJumps", "()V"⟩
abbrev wx_ws_P_reckonJumps : List Cond := (.code ⟨"WidthCampaigns$Plant", "reckonJumps", "()V"⟩ prog_4_method_3_code 3 (Option.none : Option Jvm.ClassFile.FieldType) : Cond) :: wx_all
theorem wh_P_reckonJumps : (wy_P_reckonJumps).cls ≠ "java/lang/invoke/MethodHandle" ∧ (wy_P_reckonJumps).cls ≠ "java/lang/invoke/VarHandle" ∧ (parseMethodDescriptor (wy_P_reckonJumps).desc).map (fun d => d.parameters.length) = some 0 := by decide +kernel
abbrev wy_S_goOnAt : MethodName := ⟨"WidthCampaigns$Search", "goOnAt", "(I)V"⟩
abbrev wx_ws_S_goOnAt : List Cond := (.code ⟨"WidthCampaigns$Search", "goOnAt", "(I)V"⟩ prog_5_method_3_code 3 (Option.none : Option Jvm.ClassFile.FieldType) : Cond) :: wx_all
theorem wh_S_goOnAt : (wy_S_goOnAt).cls ≠ "java/lang/invoke/MethodHandle" ∧ (wy_S_goOnAt).cls ≠ "java/lang/invoke/VarHandle" ∧ (parseMethodDescriptor (wy_S_goOnAt).desc).map (fun d => d.parameters.length) = some 1 := by decide +kernel
abbrev wy_S_keepBest : MethodName := ⟨"WidthCampaigns$Search", "keepBest", "()V"⟩
abbrev wx_ws_S_keepBest : List Cond := (.code ⟨"WidthCampaigns$Search", "keepBest", "()V"⟩ prog_5_method_5_code 1 (Option.none : Option Jvm.ClassFile.FieldType) : Cond) :: wx_all
theorem wh_S_keepBest : (wy_S_keepBest).cls ≠ "java/lang/invoke/MethodHandle" ∧ (wy_S_keepBest).cls ≠ "java/lang/invoke/VarHandle" ∧ (parseMethodDescriptor (wy_S_keepBest).desc).map (fun d => d.parameters.length) = some 0 := by decide +kernel
abbrev wy_S_putAndGoOn : MethodName := ⟨"WidthCampaigns$Search", "putAndGoOn", "(II)V"⟩
abbrev wx_ws_S_putAndGoOn : List Cond := (.code ⟨"WidthCampaigns$Search", "putAndGoOn", "(II)V"⟩ prog_5_method_4_code 3 (Option.none : Option Jvm.ClassFile.FieldType) : Cond) :: wx_all
theorem wh_S_putAndGoOn : (wy_S_putAndGoOn).cls ≠ "java/lang/invoke/MethodHandle" ∧ (wy_S_putAndGoOn).cls ≠ "java/lang/invoke/VarHandle" ∧ (parseMethodDescriptor (wy_S_putAndGoOn).desc).map (fun d => d.parameters.length) = some 2 := by decide +kernel
abbrev wy_S_searchWith : MethodName := ⟨"WidthCampaigns$Search", "searchWith", "(I)V"⟩
abbrev wx_ws_S_searchWith : List Cond := (.code ⟨"WidthCampaigns$Search", "searchWith", "(I)V"⟩ prog_5_method_2_code 2 (Option.none : Option Jvm.ClassFile.FieldType) : Cond) :: wx_all
theorem wh_S_searchWith : (wy_S_searchWith).cls ≠ "java/lang/invoke/MethodHandle" ∧ (wy_S_searchWith).cls ≠ "java/lang/invoke/VarHandle" ∧ (parseMethodDescriptor (wy_S_searchWith).desc).map (fun d => d.parameters.length) = some 1 := by decide +kernel
abbrev wy_W_bound : MethodName := ⟨"WidthCampaigns", "bound", "()I"⟩
abbrev wx_ws_W_bound : List Cond := (.code ⟨"WidthCampaigns", "bound", "()I"⟩ prog_1_method_14_code 5 (Option.some Jvm.ClassFile.FieldType.int) : Cond) :: wx_all
theorem wh_W_bound : (wy_W_bound).cls ≠ "java/lang/invoke/MethodHandle" ∧ (wy_W_bound).cls ≠ "java/lang/invoke/VarHandle" ∧ (parseMethodDescriptor (wy_W_bound).desc).map (fun d => d.parameters.length) = some 0 := by decide +kernel
abbrev wy_W_change : MethodName := ⟨"WidthCampaigns", "change", "(I)Z"⟩
abbrev wx_ws_W_change : List Cond := (.code ⟨"WidthCampaigns", "change", "(I)Z"⟩ prog_1_method_12_code 2 (Option.some Jvm.ClassFile.FieldType.boolean) : Cond) :: wx_all
theorem wh_W_change : (wy_W_change).cls ≠ "java/lang/invoke/MethodHandle" ∧ (wy_W_change).cls ≠ "java/lang/invoke/VarHandle" ∧ (parseMethodDescriptor (wy_W_change).desc).map (fun d => d.parameters.length) = some 1 := by decide +kernel
abbrev wy_W_coil : MethodName := ⟨"WidthCampaigns", "coil", "(IIII)I"⟩
abbrev wx_ws_W_coil : List Cond := (.code ⟨"WidthCampaigns", "coil", "(IIII)I"⟩ prog_1_method_2_code 5 (Option.some Jvm.ClassFile.FieldType.int) : Cond) :: wx_all
theorem wh_W_coil : (wy_W_coil).cls ≠ "java/lang/invoke/MethodHandle" ∧ (wy_W_coil).cls ≠ "java/lang/invoke/VarHandle" ∧ (parseMethodDescriptor (wy_W_coil).desc).map (fun d => d.parameters.length) = some 4 := by decide +kernel
abbrev wy_W_forgetOrder : MethodName := ⟨"WidthCampaigns", "forgetOrder", "()V"⟩
abbrev wx_ws_W_forgetOrder : List Cond := (.code ⟨"WidthCampaigns", "forgetOrder", "()V"⟩ prog_1_method_19_code 1 (Option.none : Option Jvm.ClassFile.FieldType) : Cond) :: wx_all
theorem wh_W_forgetOrder : (wy_W_forgetOrder).cls ≠ "java/lang/invoke/MethodHandle" ∧ (wy_W_forgetOrder).cls ≠ "java/lang/invoke/VarHandle" ∧ (parseMethodDescriptor (wy_W_forgetOrder).desc).map (fun d => d.parameters.length) = some 0 := by decide +kernel
abbrev wy_W_group : MethodName := ⟨"WidthCampaigns", "group", "(III)I"⟩
abbrev wx_ws_W_group : List Cond := (.code ⟨"WidthCampaigns", "group", "(III)I"⟩ prog_1_method_4_code 4 (Option.some Jvm.ClassFile.FieldType.int) : Cond) :: wx_all
theorem wh_W_group : (wy_W_group).cls ≠ "java/lang/invoke/MethodHandle" ∧ (wy_W_group).cls ≠ "java/lang/invoke/VarHandle" ∧ (parseMethodDescriptor (wy_W_group).desc).map (fun d => d.parameters.length) = some 3 := by decide +kernel
abbrev wy_W_improve : MethodName := ⟨"WidthCampaigns", "improve", "(I)I"⟩
abbrev wx_ws_W_improve : List Cond := (.code ⟨"WidthCampaigns", "improve", "(I)I"⟩ prog_1_method_16_code 3 (Option.some Jvm.ClassFile.FieldType.int) : Cond) :: wx_all
theorem wh_W_improve : (wy_W_improve).cls ≠ "java/lang/invoke/MethodHandle" ∧ (wy_W_improve).cls ≠ "java/lang/invoke/VarHandle" ∧ (parseMethodDescriptor (wy_W_improve).desc).map (fun d => d.parameters.length) = some 1 := by decide +kernel
abbrev wy_W_isNoCoil : MethodName := ⟨"WidthCampaigns", "isNoCoil", "(I)Z"⟩
abbrev wx_ws_W_isNoCoil : List Cond := (.code ⟨"WidthCampaigns", "isNoCoil", "(I)Z"⟩ prog_1_method_18_code 2 (Option.some Jvm.ClassFile.FieldType.boolean) : Cond) :: wx_all
theorem wh_W_isNoCoil : (wy_W_isNoCoil).cls ≠ "java/lang/invoke/MethodHandle" ∧ (wy_W_isNoCoil).cls ≠ "java/lang/invoke/VarHandle" ∧ (parseMethodDescriptor (wy_W_isNoCoil).desc).map (fun d => d.parameters.length) = some 1 := by decide +kernel
abbrev wy_W_isOutside : MethodName := ⟨"WidthCampaigns", "isOutside", "(III)Z"⟩
abbrev wx_ws_W_isOutside : List Cond := (.code ⟨"WidthCampaigns", "isOutside", "(III)Z"⟩ prog_1_method_17_code 3 (Option.some Jvm.ClassFile.FieldType.boolean) : Cond) :: wx_all
theorem wh_W_isOutside : (wy_W_isOutside).cls ≠ "java/lang/invoke/MethodHandle" ∧ (wy_W_isOutside).cls ≠ "java/lang/invoke/VarHandle" ∧ (parseMethodDescriptor (wy_W_isOutside).desc).map (fun d => d.parameters.length) = some 3 := by decide +kernel
abbrev wy_W_jump : MethodName := ⟨"WidthCampaigns", "jump", "(II)I"⟩
abbrev wx_ws_W_jump : List Cond := (.code ⟨"WidthCampaigns", "jump", "(II)I"⟩ prog_1_method_13_code 3 (Option.some Jvm.ClassFile.FieldType.int) : Cond) :: wx_all
theorem wh_W_jump : (wy_W_jump).cls ≠ "java/lang/invoke/MethodHandle" ∧ (wy_W_jump).cls ≠ "java/lang/invoke/VarHandle" ∧ (parseMethodDescriptor (wy_W_jump).desc).map (fun d => d.parameters.length) = some 2 := by decide +kernel
abbrev wy_W_old : MethodName := ⟨"WidthCampaigns", "old", "(II)V"⟩
abbrev wx_ws_W_old : List Cond := (.code ⟨"WidthCampaigns", "old", "(II)V"⟩ prog_1_method_6_code 3 (Option.none : Option Jvm.ClassFile.FieldType) : Cond) :: wx_all
theorem wh_W_old : (wy_W_old).cls ≠ "java/lang/invoke/MethodHandle" ∧ (wy_W_old).cls ≠ "java/lang/invoke/VarHandle" ∧ (parseMethodDescriptor (wy_W_old).desc).map (fun d => d.parameters.length) = some 2 := by decide +kernel
abbrev wy_W_order : MethodName := ⟨"WidthCampaigns", "order", "(I)I"⟩
abbrev wx_ws_W_order : List Cond := (.code ⟨"WidthCampaigns", "order", "(I)I"⟩ prog_1_method_10_code 2 (Option.some Jvm.ClassFile.FieldType.int) : Cond) :: wx_all
theorem wh_W_order : (wy_W_order).cls ≠ "java/lang/invoke/MethodHandle" ∧ (wy_W_order).cls ≠ "java/lang/invoke/VarHandle" ∧ (parseMethodDescriptor (wy_W_order).desc).map (fun d => d.parameters.length) = some 1 := by decide +kernel
abbrev wy_W_proved : MethodName := ⟨"WidthCampaigns", "proved", "()Z"⟩
abbrev wx_ws_W_proved : List Cond := (.code ⟨"WidthCampaigns", "proved", "()Z"⟩ prog_1_method_9_code 1 (Option.some Jvm.ClassFile.FieldType.boolean) : Cond) :: wx_all
theorem wh_W_proved : (wy_W_proved).cls ≠ "java/lang/invoke/MethodHandle" ∧ (wy_W_proved).cls ≠ "java/lang/invoke/VarHandle" ∧ (parseMethodDescriptor (wy_W_proved).desc).map (fun d => d.parameters.length) = some 0 := by decide +kernel
abbrev wy_W_readIntoScratch : MethodName := ⟨"WidthCampaigns", "readIntoScratch", "(J)Z"⟩
abbrev wx_ws_W_readIntoScratch : List Cond := (.code ⟨"WidthCampaigns", "readIntoScratch", "(J)Z"⟩ prog_1_method_22_code 6 (Option.some Jvm.ClassFile.FieldType.boolean) : Cond) :: wx_all
theorem wh_W_readIntoScratch : (wy_W_readIntoScratch).cls ≠ "java/lang/invoke/MethodHandle" ∧ (wy_W_readIntoScratch).cls ≠ "java/lang/invoke/VarHandle" ∧ (parseMethodDescriptor (wy_W_readIntoScratch).desc).map (fun d => d.parameters.length) = some 1 := by decide +kernel
abbrev wy_W_requireOrder : MethodName := ⟨"WidthCampaigns", "requireOrder", "()V"⟩
abbrev wx_ws_W_requireOrder : List Cond := (.code ⟨"WidthCampaigns", "requireOrder", "()V"⟩ prog_1_method_20_code 1 (Option.none : Option Jvm.ClassFile.FieldType) : Cond) :: wx_all
theorem wh_W_requireOrder : (wy_W_requireOrder).cls ≠ "java/lang/invoke/MethodHandle" ∧ (wy_W_requireOrder).cls ≠ "java/lang/invoke/VarHandle" ∧ (parseMethodDescriptor (wy_W_requireOrder).desc).map (fun d => d.parameters.length) = some 0 := by decide +kernel
abbrev wy_W_requirePlace : MethodName := ⟨"WidthCampaigns", "requirePlace", "(I)V"⟩
abbrev wx_ws_W_requirePlace : List Cond := (.code ⟨"WidthCampaigns", "requirePlace", "(I)V"⟩ prog_1_method_21_code 2 (Option.none : Option Jvm.ClassFile.FieldType) : Cond) :: wx_all
theorem wh_W_requirePlace : (wy_W_requirePlace).cls ≠ "java/lang/invoke/MethodHandle" ∧ (wy_W_requirePlace).cls ≠ "java/lang/invoke/VarHandle" ∧ (parseMethodDescriptor (wy_W_requirePlace).desc).map (fun d => d.parameters.length) = some 1 := by decide +kernel
abbrev wy_W_rules : MethodName := ⟨"WidthCampaigns", "rules", "(IIII)V"⟩
abbrev wx_ws_W_rules : List Cond := (.code ⟨"WidthCampaigns", "rules", "(IIII)V"⟩ prog_1_method_7_code 5 (Option.none : Option Jvm.ClassFile.FieldType) : Cond) :: wx_all
theorem wh_W_rules : (wy_W_rules).cls ≠ "java/lang/invoke/MethodHandle" ∧ (wy_W_rules).cls ≠ "java/lang/invoke/VarHandle" ∧ (parseMethodDescriptor (wy_W_rules).desc).map (fun d => d.parameters.length) = some 4 := by decide +kernel
abbrev wy_W_run : MethodName := ⟨"WidthCampaigns", "run", "(I)I"⟩
abbrev wx_ws_W_run : List Cond := (.code ⟨"WidthCampaigns", "run", "(I)I"⟩ prog_1_method_8_code 2 (Option.some Jvm.ClassFile.FieldType.int) : Cond) :: wx_all
theorem wh_W_run : (wy_W_run).cls ≠ "java/lang/invoke/MethodHandle" ∧ (wy_W_run).cls ≠ "java/lang/invoke/VarHandle" ∧ (parseMethodDescriptor (wy_W_run).desc).map (fun d => d.parameters.length) = some 1 := by decide +kernel
abbrev wy_W_table : MethodName := ⟨"WidthCampaigns", "table", "(IIII)I"⟩
abbrev wx_ws_W_table : List Cond := (.code ⟨"WidthCampaigns", "table", "(IIII)I"⟩ prog_1_method_3_code 6 (Option.some Jvm.ClassFile.FieldType.int) : Cond) :: wx_all
theorem wh_W_table : (wy_W_table).cls ≠ "java/lang/invoke/MethodHandle" ∧ (wy_W_table).cls ≠ "java/lang/invoke/VarHandle" ∧ (parseMethodDescriptor (wy_W_table).desc).map (fun d => d.parameters.length) = some 4 := by decide +kernel
abbrev wy_W_takeFirstBetterPair : MethodName := ⟨"WidthCampaigns", "takeFirstBetterPair", "()Z"⟩
abbrev wx_ws_W_takeFirstBetterPair : List Cond := (.code ⟨"WidthCampaigns", "takeFirstBetterPair", "()Z"⟩ prog_1_method_23_code 3 (Option.some Jvm.ClassFile.FieldType.boolean) : Cond) :: wx_all
theorem wh_W_takeFirstBetterPair : (wy_W_takeFirstBetterPair).cls ≠ "java/lang/invoke/MethodHandle" ∧ (wy_W_takeFirstBetterPair).cls ≠ "java/lang/invoke/VarHandle" ∧ (parseMethodDescriptor (wy_W_takeFirstBetterPair).desc).map (fun d => d.parameters.length) = some 0 := by decide +kernel
abbrev wy_W_takePairIfBetter : MethodName := ⟨"WidthCampaigns", "takePairIfBetter", "(II)Z"⟩
abbrev wx_ws_W_takePairIfBetter : List Cond := (.code ⟨"WidthCampaigns", "takePairIfBetter", "(II)Z"⟩ prog_1_method_24_code 3 (Option.some Jvm.ClassFile.FieldType.boolean) : Cond) :: wx_all
theorem wh_W_takePairIfBetter : (wy_W_takePairIfBetter).cls ≠ "java/lang/invoke/MethodHandle" ∧ (wy_W_takePairIfBetter).cls ≠ "java/lang/invoke/VarHandle" ∧ (parseMethodDescriptor (wy_W_takePairIfBetter).desc).map (fun d => d.parameters.length) = some 2 := by decide +kernel
abbrev wy_W_tell : MethodName := ⟨"WidthCampaigns", "tell", "(J)V"⟩
abbrev wx_ws_W_tell : List Cond := (.code ⟨"WidthCampaigns", "tell", "(J)V"⟩ prog_1_method_15_code 3 (Option.none : Option Jvm.ClassFile.FieldType) : Cond) :: wx_all
theorem wh_W_tell : (wy_W_tell).cls ≠ "java/lang/invoke/MethodHandle" ∧ (wy_W_tell).cls ≠ "java/lang/invoke/VarHandle" ∧ (parseMethodDescriptor (wy_W_tell).desc).map (fun d => d.parameters.length) = some 1 := by decide +kernel
abbrev wy_W_told : MethodName := ⟨"WidthCampaigns", "told", "(I)I"⟩
abbrev wx_ws_W_told : List Cond := (.code ⟨"WidthCampaigns", "told", "(I)I"⟩ prog_1_method_11_code 2 (Option.some Jvm.ClassFile.FieldType.int) : Cond) :: wx_all
theorem wh_W_told : (wy_W_told).cls ≠ "java/lang/invoke/MethodHandle" ∧ (wy_W_told).cls ≠ "java/lang/invoke/VarHandle" ∧ (parseMethodDescriptor (wy_W_told).desc).map (fun d => d.parameters.length) = some 1 := by decide +kernel
abbrev wy_W_urgent : MethodName := ⟨"WidthCampaigns", "urgent", "(II)V"⟩
abbrev wx_ws_W_urgent : List Cond := (.code ⟨"WidthCampaigns", "urgent", "(II)V"⟩ prog_1_method_5_code 3 (Option.none : Option Jvm.ClassFile.FieldType) : Cond) :: wx_all
theorem wh_W_urgent : (wy_W_urgent).cls ≠ "java/lang/invoke/MethodHandle" ∧ (wy_W_urgent).cls ≠ "java/lang/invoke/VarHandle" ∧ (parseMethodDescriptor (wy_W_urgent).desc).map (fun d => d.parameters.length) = some 2 := by decide +kernel
def wx_bad : List Cond := [.methodLinkNest "WidthCampaigns$Plant" 78 ⟨"WidthCampaigns$JumpTable", "costOf", "(I)I"⟩ "WidthCampaigns",
  .fieldLinkNest "WidthCampaigns$Plant" 81 "WidthCampaigns$WidthGroups" "from" "[I" "WidthCampaigns",
  .fieldLinkNest "WidthCampaigns$Plant" 84 "WidthCampaigns$WidthGroups" "to" "[I" "WidthCampaigns",
  .fieldLinkNest "WidthCampaigns$Line" 70 "WidthCampaigns$Plant" "jumpCost" "[[I" "WidthCampaigns",
  .fieldLinkNest "WidthCampaigns$Line" 73 "WidthCampaigns$Plant" "width" "[I" "WidthCampaigns",
  .fieldLinkNest "WidthCampaigns$Line" 76 "WidthCampaigns$Plant" "rise" "I" "WidthCampaigns",
  .fieldLinkNest "WidthCampaigns$Line" 63 "WidthCampaigns$Plant" "last" "[I" "WidthCampaigns",
  .fieldLinkNest "WidthCampaigns$Line" 89 "WidthCampaigns$Plant" "kilometres" "[I" "WidthCampaigns",
  .fieldLinkNest "WidthCampaigns$Line" 92 "WidthCampaigns$Plant" "wear" "I" "WidthCampaigns",
  .fieldLinkNest "WidthCampaigns$Line" 95 "WidthCampaigns$Plant" "groups" "LWidthCampaigns$WidthGroups;" "WidthCampaigns",
  .fieldLinkNest "WidthCampaigns$Line" 99 "WidthCampaigns$WidthGroups" "count" "I" "WidthCampaigns",
  .methodLinkNest "WidthCampaigns$Line" 102 ⟨"WidthCampaigns$Plant", "kilometresInGroup", "(II)I"⟩ "WidthCampaigns",
  .fieldLinkNest "WidthCampaigns$Line" 106 "WidthCampaigns$WidthGroups" "most" "[I" "WidthCampaigns",
  .fieldLinkNest "WidthCampaigns$Line" 109 "WidthCampaigns$Plant" "oldPlace" "[I" "WidthCampaigns",
  .fieldLinkNest "WidthCampaigns$Line" 115 "WidthCampaigns$Plant" "movedCents" "I" "WidthCampaigns",
  .fieldLinkNest "WidthCampaigns$Line" 112 "WidthCampaigns$Plant" "changeCents" "I" "WidthCampaigns",
  .fieldLinkNest "WidthCampaigns$Line" 50 "WidthCampaigns$Plant" "count" "I" "WidthCampaigns",
  .methodLinkNest "WidthCampaigns$Search" 68 ⟨"WidthCampaigns$Line", "penaltySoFar", "()I"⟩ "WidthCampaigns",
  .fieldLinkNest "WidthCampaigns$Search" 75 "WidthCampaigns$Line" "coils" "[I" "WidthCampaigns",
  .fieldLinkNest "WidthCampaigns$Search" 49 "WidthCampaigns$Plant" "count" "I" "WidthCampaigns",
  .methodLinkNest "WidthCampaigns$Search" 65 ⟨"WidthCampaigns$Line", "put", "(I)V"⟩ "WidthCampaigns",
  .methodLinkNest "WidthCampaigns$Search" 72 ⟨"WidthCampaigns$Line", "takeBack", "()V"⟩ "WidthCampaigns",
  .methodLinkNest "WidthCampaigns$Search" 57 ⟨"WidthCampaigns$Line", "mayPut", "(I)Z"⟩ "WidthCampaigns",
  .methodLinkNest "WidthCampaigns$Search" 40 ⟨"WidthCampaigns$Line", "clear", "()V"⟩ "WidthCampaigns",
  .fieldLinkNest "WidthCampaigns" 52 "WidthCampaigns$Plant" "count" "I" "WidthCampaigns",
  .fieldLinkNest "WidthCampaigns" 178 "WidthCampaigns$Line" "coils" "[I" "WidthCampaigns",
  .methodLinkNest "WidthCampaigns" 160 ⟨"WidthCampaigns$Line", "layAll", "([I)Z"⟩ "WidthCampaigns",
  .methodLinkNest "WidthCampaigns" 183 ⟨"WidthCampaigns$Line", "penaltySoFar", "()I"⟩ "WidthCampaigns",
  .methodLinkNest "WidthCampaigns" 64 ⟨"WidthCampaigns$Plant", "addCoil", "(IIII)I"⟩ "WidthCampaigns",
  .fieldLinkNest "WidthCampaigns" 79 "WidthCampaigns$Plant" "thickJumps" "LWidthCampaigns$JumpTable;" "WidthCampaigns",
  .fieldLinkNest "WidthCampaigns" 82 "WidthCampaigns$JumpTable" "rows" "I" "WidthCampaigns",
  .methodLinkNest "WidthCampaigns" 89 ⟨"WidthCampaigns$JumpTable", "addRow", "(III)V"⟩ "WidthCampaigns",
  .methodLinkNest "WidthCampaigns" 93 ⟨"WidthCampaigns$Plant", "reckonJumps", "()V"⟩ "WidthCampaigns",
  .fieldLinkNest "WidthCampaigns" 75 "WidthCampaigns$Plant" "hardJumps" "LWidthCampaigns$JumpTable;" "WidthCampaigns",
  .fieldLinkNest "WidthCampaigns" 98 "WidthCampaigns$Plant" "groups" "LWidthCampaigns$WidthGroups;" "WidthCampaigns",
  .fieldLinkNest "WidthCampaigns" 102 "WidthCampaigns$WidthGroups" "count" "I" "WidthCampaigns",
  .methodLinkNest "WidthCampaigns" 107 ⟨"WidthCampaigns$WidthGroups", "addGroup", "(III)V"⟩ "WidthCampaigns",
  .fieldLinkNest "WidthCampaigns" 118 "WidthCampaigns$Plant" "last" "[I" "WidthCampaigns",
  .fieldLinkNest "WidthCampaigns" 123 "WidthCampaigns$Plant" "oldPlace" "[I" "WidthCampaigns",
  .fieldLinkNest "WidthCampaigns" 128 "WidthCampaigns$Plant" "rise" "I" "WidthCampaigns",
  .fieldLinkNest "WidthCampaigns" 131 "WidthCampaigns$Plant" "wear" "I" "WidthCampaigns",
  .fieldLinkNest "WidthCampaigns" 134 "WidthCampaigns$Plant" "changeCents" "I" "WidthCampaigns",
  .fieldLinkNest "WidthCampaigns" 137 "WidthCampaigns$Plant" "movedCents" "I" "WidthCampaigns",
  .methodLinkNest "WidthCampaigns" 143 ⟨"WidthCampaigns$Search", "searchWith", "(I)V"⟩ "WidthCampaigns",
  .fieldLinkNest "WidthCampaigns" 151 "WidthCampaigns$Search" "found" "Z" "WidthCampaigns",
  .fieldLinkNest "WidthCampaigns" 157 "WidthCampaigns$Search" "best" "[I" "WidthCampaigns",
  .fieldLinkNest "WidthCampaigns" 169 "WidthCampaigns$Search" "leftOut" "Z" "WidthCampaigns",
  .methodLinkNest "WidthCampaigns" 190 ⟨"WidthCampaigns$Line", "movedSoFar", "()I"⟩ "WidthCampaigns",
  .methodLinkNest "WidthCampaigns" 187 ⟨"WidthCampaigns$Line", "changesSoFar", "()I"⟩ "WidthCampaigns",
  .fieldLinkNest "WidthCampaigns" 193 "WidthCampaigns$Line" "changeAhead" "[Z" "WidthCampaigns",
  .fieldLinkNest "WidthCampaigns" 199 "WidthCampaigns$Plant" "jumpCost" "[[I" "WidthCampaigns",
  .methodLinkNest "WidthCampaigns" 203 ⟨"WidthCampaigns$Plant", "leastJumpTo", "(I)I"⟩ "WidthCampaigns"]
def wx_strs : List (Nat × String) := [(227, "there is no order"), (229, "no such place"), (47, "no such width, thickness, hardness or kilometres"), (58, "no room for another coil"), (73, "no such jump or cost"), (87, "no room for another row"), (70, "no such kind of table"), (96, "no such widths or kilometres"), (105, "no room for another group"), (116, "no such last place"), (114, "no such coil"), (121, "no such old place"), (126, "no such rules"), (141, "no such number of nodes"), (166, "no search since the last change"), (181, "nothing of this number is told"), (197, "no two such coils"), (219, "the order is not good"), (217, "a coil is none, or told twice"), (221, "no such number of steps")]
def wx_nots : List (String × String) := [("java/lang/IllegalArgumentException", "java/lang/IllegalStateException"), ("java/lang/IllegalArgumentException", "java/lang/IndexOutOfBoundsException"), ("java/lang/IllegalArgumentException", "java/lang/UnsupportedOperationException"), ("java/lang/IllegalStateException", "java/lang/IllegalArgumentException"), ("java/lang/IllegalStateException", "java/lang/IndexOutOfBoundsException"), ("java/lang/IllegalStateException", "java/lang/UnsupportedOperationException"), ("java/lang/IndexOutOfBoundsException", "java/lang/IllegalArgumentException"), ("java/lang/IndexOutOfBoundsException", "java/lang/IllegalStateException"), ("java/lang/IndexOutOfBoundsException", "java/lang/UnsupportedOperationException"), ("java/lang/UnsupportedOperationException", "java/lang/IllegalArgumentException"), ("java/lang/UnsupportedOperationException", "java/lang/IllegalStateException"), ("java/lang/UnsupportedOperationException", "java/lang/IndexOutOfBoundsException")]
end
section
section WCR
variable {p : Program} {l : Launch} {e : Env} {R : Room} {s : State} {m : MethodId} {args : Array Value} {below : List Frame} {meth : Method} {c : Code} {H : Heap} {locs : List Loc} {cells slots : Nat} {Q : State → Prop}
variable {cc : ByteArray} {pc : Nat} {ls : Array Slot} {rest : List Value} {D : va_G} {cl : List vw_C} {tys : List (ClassId × FieldType)} {A : Nat → Prop} {H0 : Heap} {N : Nat} {ad : Nat → Nat} {mk : Nat → (Nat → Int32) → va_E} {σ τ : wc_S}
theorem wx_get (hexec : p.tables.exec = Jvm.exec) (hb : c.code = cc) {own ref C : String} {T : u_T} {N' ci index : Nat} {c0 : Cond} (hts : ∀ w ∈ c0 :: wx_all, w.before args s = true) (hin : ∀ w ∈ u_ws C T N', w ∈ wx_all) (hown : s.vm.findClass own = some m.cls) (hK : va_K D cl tys s) (hP : va_P D cl (wc_W N ad mk σ) H) (k : Nat) {fs : List Value} (hk : k < N) (hm : mk k (σ k) = .inr (ci, fs)) (hc : cl[ci]? = some (C, T, N')) (j : Nat) (hj : j < N') (hlink : Cond.fieldLink own index ref (T j).2.1 (T j).2.2.1 ∈ wx_all) (hsame : ∀ x, s.fieldFound? (T j).1 (T j).2.1 (T j).2.2.1 = some x → s.fieldFound? ref (T j).2.1 (T j).2.2.1 = some x) {v : Value} (hv : fs[j]? = some v) (hdg : decode cc pc = .ok (.getfield index, 3))
    (kk : W p l e R s m args below meth c H locs cells slots Q (F0 m (pc + 3) ls (v :: rest))) : W p l e R s m args below meth c H locs cells slots Q (F0 m pc ls (.ref (ad k) :: rest)) :=
  va_get hexec hb hts (fun w h => List.mem_cons_of_mem _ (hin w h)) hown hK hP k (wc_at k hk hm) hc j hj (wx_hw hts hlink) hsame hv hdg kk
theorem wx_getN (hexec : p.tables.exec = Jvm.exec) (hb : c.code = cc) {own ref C host : String} {T : u_T} {N' ci index : Nat} {c0 : Cond} (hts : ∀ w ∈ c0 :: wx_all, w.before args s = true) (hin : ∀ w ∈ u_ws C T N', w ∈ wx_all) (hown : s.vm.findClass own = some m.cls) (hK : va_K D cl tys s) (hP : va_P D cl (wc_W N ad mk σ) H) (k : Nat) {fs : List Value} (hk : k < N) (hm : mk k (σ k) = .inr (ci, fs)) (hc : cl[ci]? = some (C, T, N')) (j : Nat) (hj : j < N') (hlink : va_Nw (.fieldLinkNest own index ref (T j).2.1 (T j).2.2.1 host) s) (hsame : ∀ x, s.fieldFound? (T j).1 (T j).2.1 (T j).2.2.1 = some x → s.fieldFound? ref (T j).2.1 (T j).2.2.1 = some x) {v : Value} (hv : fs[j]? = some v) (hdg : decode cc pc = .ok (.getfield index, 3))
    (kk : W p l e R s m args below meth c H locs cells slots Q (F0 m (pc + 3) ls (v :: rest))) : W p l e R s m args below meth c H locs cells slots Q (F0 m pc ls (.ref (ad k) :: rest)) :=
  va_getN hexec hb hts (fun w h => List.mem_cons_of_mem _ (hin w h)) hown hK hP k (wc_at k hk hm) hc j hj (va_Nw.use rfl hlink) hsame hv hdg kk
theorem wx_put (hexec : p.tables.exec = Jvm.exec) (hb : c.code = cc) {own ref C : String} {T : u_T} {N' ci index : Nat} {c0 : Cond} (hts : ∀ w ∈ c0 :: wx_all, w.before args s = true) (hin : ∀ w ∈ u_ws C T N', w ∈ wx_all) (ty0 : Nat → FieldType) (hty : ∀ k, k < N' → parseFieldDescriptor (T k).2.2.1 = some (ty0 k)) (hnm : ∀ a, a < N' → ∀ b, b < N' → a ≠ b → (T a).2.1 ≠ (T b).2.1) (hown : s.vm.findClass own = some m.cls) (hK : va_K D cl tys s) (hP : va_P D cl (wc_W N ad mk σ) H) (hD : va_D A (wc_W N ad mk σ)) (hS : va_S A H0 H locs) (k : Nat) (hk : k < N) {fs : (Nat → Int32) → List Value} (hm : ∀ f, mk k f = .inr (ci, fs f)) (hc : cl[ci]? = some (C, T, N')) (j : Nat) (hj : j < N') (hlink : Cond.fieldLink own index ref (T j).2.1 (T j).2.2.1 ∈ wx_all) (hsame : ∀ x, s.fieldFound? (T j).1 (T j).2.1 (T j).2.2.1 = some x → s.fieldFound? ref (T j).2.1 (T j).2.2.1 = some x) (hfin : (T j).2.2.2 = false) {ty : FieldType} {x : Int32} (hd : parseFieldDescriptor (T j).2.2.1 = some ty) (hn : narrow ty (.int x) = .int x) (hfit : fits ty (.int x) = true) (hl : j < (fs (σ k)).length) (hset : (fs (σ k)).set j (.int x) = fs (upd (σ k) j x)) (hdg : decode cc pc = .ok (.putfield index, 3))
    (kk : ∀ (σ1 : wc_S) (H1 : Heap) (locs1 : List Loc), σ1 = wc_u σ k j x → va_P D cl (wc_W N ad mk σ1) H1 → va_D A (wc_W N ad mk σ1) → va_S A H0 H1 locs1 → W p l e R s m args below meth c H1 locs1 cells slots Q (F0 m (pc + 3) ls rest)) : W p l e R s m args below meth c H locs cells slots Q (F0 m pc ls (.int x :: .ref (ad k) :: rest)) := by
  refine va_put hexec hb hts (fun w h => List.mem_cons_of_mem _ (hin w h)) ty0 hty hnm hown hK hP hD hS k (wc_at k hk (hm _)) hc j hj (wx_hw hts hlink) hsame hfin hd hn hfit hl hdg (fun H1 locs1 hP1 hD1 hS1 => ?_)
  rw [hset, wc_set (hm _)] at hP1 hD1
  exact kk _ H1 locs1 rfl hP1 hD1 hS1
theorem wx_putN (hexec : p.tables.exec = Jvm.exec) (hb : c.code = cc) {own ref C host : String} {T : u_T} {N' ci index : Nat} {c0 : Cond} (hts : ∀ w ∈ c0 :: wx_all, w.before args s = true) (hin : ∀ w ∈ u_ws C T N', w ∈ wx_all) (ty0 : Nat → FieldType) (hty : ∀ k, k < N' → parseFieldDescriptor (T k).2.2.1 = some (ty0 k)) (hnm : ∀ a, a < N' → ∀ b, b < N' → a ≠ b → (T a).2.1 ≠ (T b).2.1) (hown : s.vm.findClass own = some m.cls) (hK : va_K D cl tys s) (hP : va_P D cl (wc_W N ad mk σ) H) (hD : va_D A (wc_W N ad mk σ)) (hS : va_S A H0 H locs) (k : Nat) (hk : k < N) {fs : (Nat → Int32) → List Value} (hm : ∀ f, mk k f = .inr (ci, fs f)) (hc : cl[ci]? = some (C, T, N')) (j : Nat) (hj : j < N') (hlink : va_Nw (.fieldLinkNest own index ref (T j).2.1 (T j).2.2.1 host) s) (hsame : ∀ x, s.fieldFound? (T j).1 (T j).2.1 (T j).2.2.1 = some x → s.fieldFound? ref (T j).2.1 (T j).2.2.1 = some x) (hfin : (T j).2.2.2 = false) {ty : FieldType} {x : Int32} (hd : parseFieldDescriptor (T j).2.2.1 = some ty) (hn : narrow ty (.int x) = .int x) (hfit : fits ty (.int x) = true) (hl : j < (fs (σ k)).length) (hset : (fs (σ k)).set j (.int x) = fs (upd (σ k) j x)) (hdg : decode cc pc = .ok (.putfield index, 3))
    (kk : ∀ (σ1 : wc_S) (H1 : Heap) (locs1 : List Loc), σ1 = wc_u σ k j x → va_P D cl (wc_W N ad mk σ1) H1 → va_D A (wc_W N ad mk σ1) → va_S A H0 H1 locs1 → W p l e R s m args below meth c H1 locs1 cells slots Q (F0 m (pc + 3) ls rest)) : W p l e R s m args below meth c H locs cells slots Q (F0 m pc ls (.int x :: .ref (ad k) :: rest)) := by
  refine va_putN hexec hb hts (fun w h => List.mem_cons_of_mem _ (hin w h)) ty0 hty hnm hown hK hP hD hS k (wc_at k hk (hm _)) hc j hj (va_Nw.use rfl hlink) hsame hfin hd hn hfit hl hdg (fun H1 locs1 hP1 hD1 hS1 => ?_)
  rw [hset, wc_set (hm _)] at hP1 hD1
  exact kk _ H1 locs1 rfl hP1 hD1 hS1
variable {cI cZ cJ cG : ClassId}
abbrev wx_ty (cI cZ cJ cG : ClassId) : List (ClassId × FieldType) := [(cI, .int), (cZ, .boolean), (cJ, .long), (cG, .array .int)]
theorem wx_iald (hexec : p.tables.exec = Jvm.exec) (hb : c.code = cc) (hK : va_K D cl (wx_ty cI cZ cJ cG) s) (hP : va_P D cl (wc_W N ad mk σ) H) (k : Nat) {n : Nat} (hk : k < N) (hm : mk k (σ k) = .inl (cI, n, .inl (σ k))) {i : Int32} (hin : vp_in i n) (hdg : decode cc pc = .ok (.iaload, 1))
    (kk : W p l e R s m args below meth c H locs cells slots Q (F0 m (pc + 1) ls (.int (σ k i.toNatClampNeg) :: rest))) : W p l e R s m args below meth c H locs cells slots Q (F0 m pc ls (.int i :: .ref (ad k) :: rest)) :=
  va_iald hexec hb hK hP k 0 (wc_at k hk hm) rfl hin hdg kk
theorem wx_zald (hexec : p.tables.exec = Jvm.exec) (hb : c.code = cc) (hK : va_K D cl (wx_ty cI cZ cJ cG) s) (hP : va_P D cl (wc_W N ad mk σ) H) (k : Nat) {n : Nat} (hk : k < N) (hm : mk k (σ k) = .inl (cZ, n, .inl (σ k))) {i : Int32} (hin : vp_in i n) (hdg : decode cc pc = .ok (.baload, 1))
    (kk : W p l e R s m args below meth c H locs cells slots Q (F0 m (pc + 1) ls (.int (σ k i.toNatClampNeg) :: rest))) : W p l e R s m args below meth c H locs cells slots Q (F0 m pc ls (.int i :: .ref (ad k) :: rest)) :=
  va_zald hexec hb hK hP k 1 (wc_at k hk hm) rfl hin hdg kk
theorem wx_iast (hexec : p.tables.exec = Jvm.exec) (hb : c.code = cc) (hK : va_K D cl (wx_ty cI cZ cJ cG) s) (hP : va_P D cl (wc_W N ad mk σ) H) (hD : va_D A (wc_W N ad mk σ)) (hS : va_S A H0 H locs) (k : Nat) {n : Nat} (hk : k < N) (hm : ∀ f, mk k f = .inl (cI, n, .inl f)) {i x : Int32} (hin : wc_in i n = true) (hdg : decode cc pc = .ok (.iastore, 1))
    (kk : ∀ (σ1 : wc_S) (H1 : Heap) (locs1 : List Loc), σ1 = wc_u σ k i.toNatClampNeg x → va_P D cl (wc_W N ad mk σ1) H1 → va_D A (wc_W N ad mk σ1) → va_S A H0 H1 locs1 → W p l e R s m args below meth c H1 locs1 cells slots Q (F0 m (pc + 1) ls rest)) : W p l e R s m args below meth c H locs cells slots Q (F0 m pc ls (.int x :: .int i :: .ref (ad k) :: rest)) := by
  refine va_iast hexec hb hK hP hD hS k 0 (wc_at k hk (hm _)) rfl (wc_in_e hin) hdg (fun H1 locs1 hP1 hD1 hS1 => ?_)
  rw [wc_set (hm _)] at hP1 hD1
  exact kk _ H1 locs1 rfl hP1 hD1 hS1
theorem wx_zast (hexec : p.tables.exec = Jvm.exec) (hb : c.code = cc) (hK : va_K D cl (wx_ty cI cZ cJ cG) s) (hP : va_P D cl (wc_W N ad mk σ) H) (hD : va_D A (wc_W N ad mk σ)) (hS : va_S A H0 H locs) (k : Nat) {n : Nat} (hk : k < N) (hm : ∀ f, mk k f = .inl (cZ, n, .inl f)) {i x : Int32} (hin : wc_in i n = true) (hdg : decode cc pc = .ok (.bastore, 1))
    (kk : ∀ (σ1 : wc_S) (H1 : Heap) (locs1 : List Loc), σ1 = wc_u σ k i.toNatClampNeg (vp_nar .boolean x) → va_P D cl (wc_W N ad mk σ1) H1 → va_D A (wc_W N ad mk σ1) → va_S A H0 H1 locs1 → W p l e R s m args below meth c H1 locs1 cells slots Q (F0 m (pc + 1) ls rest)) : W p l e R s m args below meth c H locs cells slots Q (F0 m pc ls (.int x :: .int i :: .ref (ad k) :: rest)) := by
  refine va_zast hexec hb hK hP hD hS k 1 (wc_at k hk (hm _)) rfl (wc_in_e hin) hdg (fun H1 locs1 hP1 hD1 hS1 => ?_)
  rw [wc_set (hm _)] at hP1 hD1
  exact kk _ H1 locs1 rfl hP1 hD1 hS1
/-- the array of rows: row i lies at bs + i -/
theorem wx_aald (hexec : p.tables.exec = Jvm.exec) (hb : c.code = cc) (hK : va_K D cl (wx_ty cI cZ cJ cG) s) (hP : va_P D cl (wc_W N ad mk σ) H) (k : Nat) {n bs : Nat} (hk : k < N) (hm : mk k (σ k) = .inl (cG, n, .inr (.inr (.inr (.inr (fun i => if i < n then some (ad (bs + i)) else none)))))) {i : Int32} (hin : wc_in i n = true) (hdg : decode cc pc = .ok (.aaload, 1))
    (kk : W p l e R s m args below meth c H locs cells slots Q (F0 m (pc + 1) ls (.ref (ad (bs + i.toNatClampNeg)) :: rest))) : W p l e R s m args below meth c H locs cells slots Q (F0 m pc ls (.int i :: .ref (ad k) :: rest)) := by
  have hlt := wc_in_lt hin
  have hin := wc_in_e hin
  have ht : (wx_ty cI cZ cJ cG)[3]? = some (cG, .array .int) := rfl
  refine W.aald (v := .ref (ad (bs + i.toNatClampNeg))) (ty := .array .int) hexec hb (hP k _ (wc_at k hk hm)) ((hK.2 3 _ ht).1 n (fun j => va_rf (if j < n then some (ad (bs + j)) else none))) rfl (fun q => by cases q) (by show ¬ (i < 0 ∨ (arrV _ _ _).slots.size ≤ _); rw [arrV_size]; exact hin) (by show (arrV _ _ _).slots[_]? = _; rw [arrV_read _ _ hlt]; show some (va_rf (if i.toNatClampNeg < n then some (ad (bs + i.toNatClampNeg)) else none)) = _; rw [if_pos hlt]; rfl) rfl rfl hdg kk
/-- an array's numbers copied to another one, both from 0 on -/
theorem wx_copy (hexec : p.tables.exec = Jvm.exec) (hb : c.code = cc) (hml : c.maxLocals = ls.size) {own : String} {index : Nat} (hown : s.vm.findClass own = some m.cls) (hlink : (Cond.methodLink own index arraycopyName).before args s = true) (hnat : (Cond.native arraycopyName).before args s = true) (hstat : (Cond.static arraycopyName).before args s = true) (hini : (Cond.initialized "java/lang/System").before args s = true)
    (hK : va_K D cl (wx_ty cI cZ cJ cG) s) (hP : va_P D cl (wc_W N ad mk σ) H) (hD : va_D A (wc_W N ad mk σ)) (hS : va_S A H0 H locs) (k0 k1 : Nat) {n : Nat} (hk0 : k0 < N) (hk1 : k1 < N) (hm0 : ∀ f, mk k0 f = .inl (cI, n, .inl f)) (hm1 : ∀ f, mk k1 f = .inl (cI, n, .inl f)) {x : Int32} (hx : wc_le x n = true)
    (hframes : 1 ≤ R.frames) (hlocals : (rest.map fun v => v.category).sum + (nativeFrameWords "java/lang/System" "arraycopy" 5 + 11) ≤ R.locals) (hdg : decode cc pc = .ok (.invokestatic index, 3))
    (kk : ∀ (σ1 : wc_S) (H1 : Heap) (locs1 : List Loc), σ1 = wc_uA σ k1 (va_cpy (σ k0) (σ k1) 0 0 x.toNatClampNeg) → va_P D cl (wc_W N ad mk σ1) H1 → va_D A (wc_W N ad mk σ1) → va_S A H0 H1 locs1 → W p l e R s m args below meth c H1 locs1 cells slots Q (F0 m (pc + 3) ls rest)) : W p l e R s m args below meth c H locs cells slots Q (F0 m pc ls (.int x :: .int 0 :: .ref (ad k1) :: .int 0 :: .ref (ad k0) :: rest)) := by
  obtain ⟨h3, h4⟩ := wc_le_e hx
  have z0 : (0 : Int32).toNatClampNeg = 0 := rfl
  refine va_copyi hexec hb hml hown hlink hnat hstat hini hK hP hD hS k0 k1 0 0 (wc_at k0 hk0 (hm0 _)) (wc_at k1 hk1 (hm1 _)) rfl rfl rfl (by decide) (by decide) h3 (by rw [z0]; omega) (by rw [z0]; omega) (fun _ _ => rfl) hframes hlocals hdg (fun H1 locs1 hP1 hD1 hS1 => ?_)
  rw [z0, wc_set (hm1 _)] at hP1 hD1
  exact kk _ H1 locs1 rfl hP1 hD1 hS1
/-! the words of a call -/
theorem wx_cwV {c0 : Cond} {own : String} {index maxL mc ms : Nat} {y : MethodName} {bytes : ByteArray} {ret : Option FieldType} {rm : Room} (n : Nat) (hts : ∀ w ∈ c0 :: wx_all, w.before args s = true) (hco : Cond.code y bytes maxL ret ∈ wx_all) (hin : Cond.instanceMethod y ∈ wx_all) (hse : Cond.selects y.cls y y ∈ wx_all) (hini : Cond.initialized y.cls ∈ wx_all) (hl : Cond.methodLink own index y ∈ wx_all) (hd : y.cls ≠ "java/lang/invoke/MethodHandle" ∧ y.cls ≠ "java/lang/invoke/VarHandle" ∧ (parseMethodDescriptor y.desc).map (fun d => d.parameters.length) = some n) (hrc : rm.cells = mc) (hrs : rm.slots = ms) (hR : rm.frames + 1 ≤ R.frames ∧ 8 + (maxL + 11) + rm.locals ≤ R.locals) :
    CallW R s args own y.cls index y bytes maxL ret (Cond.code y bytes maxL ret :: wx_all) rm mc ms n :=
  ⟨callB_of n hts (wx_good hco) rfl hrc hrs (wx_hw hts hini) (wx_hw hts hl) hd hR, wx_hw hts hin, wx_hw hts hse⟩
theorem wx_cwS {c0 : Cond} {own : String} {index maxL mc ms : Nat} {y : MethodName} {bytes : ByteArray} {ret : Option FieldType} {rm : Room} (n : Nat) (hts : ∀ w ∈ c0 :: wx_all, w.before args s = true) (hco : Cond.code y bytes maxL ret ∈ wx_all) (hst : Cond.static y ∈ wx_all) (hini : Cond.initialized y.cls ∈ wx_all) (hl : Cond.methodLink own index y ∈ wx_all) (hd : y.cls ≠ "java/lang/invoke/MethodHandle" ∧ y.cls ≠ "java/lang/invoke/VarHandle" ∧ (parseMethodDescriptor y.desc).map (fun d => d.parameters.length) = some n) (hrc : rm.cells = mc) (hrs : rm.slots = ms) (hR : rm.frames + 1 ≤ R.frames ∧ 8 + (maxL + 11) + rm.locals ≤ R.locals) :
    CallB R s args own index y bytes maxL ret (Cond.code y bytes maxL ret :: wx_all) rm mc ms n ∧ (Cond.static y).before args s = true :=
  ⟨callB_of n hts (wx_good hco) rfl hrc hrs (wx_hw hts hini) (wx_hw hts hl) hd hR, wx_hw hts hst⟩
theorem wx_cwN {c0 : Cond} {own host : String} {index maxL mc ms : Nat} {y : MethodName} {bytes : ByteArray} {ret : Option FieldType} {rm : Room} (n : Nat) (hts : ∀ w ∈ c0 :: wx_all, w.before args s = true) (hco : Cond.code y bytes maxL ret ∈ wx_all) (hin : Cond.instanceMethod y ∈ wx_all) (hse : Cond.selects y.cls y y ∈ wx_all) (hini : Cond.initialized y.cls ∈ wx_all) (hl : va_Nw (.methodLinkNest own index y host) s) (hd : y.cls ≠ "java/lang/invoke/MethodHandle" ∧ y.cls ≠ "java/lang/invoke/VarHandle" ∧ (parseMethodDescriptor y.desc).map (fun d => d.parameters.length) = some n) (hrc : rm.cells = mc) (hrs : rm.slots = ms) (hR : rm.frames + 1 ≤ R.frames ∧ 8 + (maxL + 11) + rm.locals ≤ R.locals) :
    va_CN R s args own index y host bytes maxL ret (Cond.code y bytes maxL ret :: wx_all) rm mc ms n ∧ (Cond.instanceMethod y).before args s = true ∧ (Cond.selects y.cls y y).before args s = true :=
  ⟨va_cnB n hts (wx_good hco) rfl hrc hrs hl (wx_hw hts hini) hd hR, wx_hw hts hin, wx_hw hts hse⟩
end WCR
end
section
/-! the one world: its cells by their numbers (class 0 .. 70, reference 71 .. 87, the law's out 88) -/
def wx_tab (ad : Nat → Nat) (cI cZ cJ cG : ClassId) (f : Nat → Int32) : List va_E := [.inr (0, [.ref (ad 1), .ref (ad 30), .ref (ad 49), .ref (ad 68), .ref (ad 70), .int (f 5), .int (f 6)]),
  .inr (1, [.ref (ad 2), .ref (ad 3), .ref (ad 4), .ref (ad 5), .ref (ad 6), .ref (ad 7), .ref (ad 8), .ref (ad 18), .ref (ad 22), .ref (ad 26), .int (f 10), .int (f 11), .int (f 12), .int (f 13), .int (f 14)]),
  .inl (cI, 9, .inl f),
  .inl (cI, 9, .inl f),
  .inl (cI, 9, .inl f),
  .inl (cI, 9, .inl f),
  .inl (cI, 9, .inl f),
  .inl (cI, 9, .inl f),
  .inl (cG, 9, .inr (.inr (.inr (.inr (fun i => if i < 9 then some (ad (9 + i)) else none))))),
  .inl (cI, 9, .inl f),
  .inl (cI, 9, .inl f),
  .inl (cI, 9, .inl f),
  .inl (cI, 9, .inl f),
  .inl (cI, 9, .inl f),
  .inl (cI, 9, .inl f),
  .inl (cI, 9, .inl f),
  .inl (cI, 9, .inl f),
  .inl (cI, 9, .inl f),
  .inr (2, [.ref (ad 19), .ref (ad 20), .ref (ad 21), .int (f 3)]),
  .inl (cI, 8, .inl f),
  .inl (cI, 8, .inl f),
  .inl (cI, 8, .inl f),
  .inr (2, [.ref (ad 23), .ref (ad 24), .ref (ad 25), .int (f 3)]),
  .inl (cI, 8, .inl f),
  .inl (cI, 8, .inl f),
  .inl (cI, 8, .inl f),
  .inr (3, [.ref (ad 27), .ref (ad 28), .ref (ad 29), .int (f 3)]),
  .inl (cI, 4, .inl f),
  .inl (cI, 4, .inl f),
  .inl (cI, 4, .inl f),
  .inr (4, [.ref (ad 1), .ref (ad 31), .ref (ad 32), .ref (ad 33), .ref (ad 34), .ref (ad 35), .ref (ad 36), .ref (ad 37), .ref (ad 38), .int (f 9)]),
  .inl (cI, 9, .inl f),
  .inl (cZ, 9, .inl f),
  .inl (cZ, 9, .inl f),
  .inl (cI, 10, .inl f),
  .inl (cI, 10, .inl f),
  .inl (cI, 10, .inl f),
  .inl (cI, 10, .inl f),
  .inl (cG, 10, .inr (.inr (.inr (.inr (fun i => if i < 10 then some (ad (39 + i)) else none))))),
  .inl (cI, 4, .inl f),
  .inl (cI, 4, .inl f),
  .inl (cI, 4, .inl f),
  .inl (cI, 4, .inl f),
  .inl (cI, 4, .inl f),
  .inl (cI, 4, .inl f),
  .inl (cI, 4, .inl f),
  .inl (cI, 4, .inl f),
  .inl (cI, 4, .inl f),
  .inl (cI, 4, .inl f),
  .inr (4, [.ref (ad 1), .ref (ad 50), .ref (ad 51), .ref (ad 52), .ref (ad 53), .ref (ad 54), .ref (ad 55), .ref (ad 56), .ref (ad 57), .int (f 9)]),
  .inl (cI, 9, .inl f),
  .inl (cZ, 9, .inl f),
  .inl (cZ, 9, .inl f),
  .inl (cI, 10, .inl f),
  .inl (cI, 10, .inl f),
  .inl (cI, 10, .inl f),
  .inl (cI, 10, .inl f),
  .inl (cG, 10, .inr (.inr (.inr (.inr (fun i => if i < 10 then some (ad (58 + i)) else none))))),
  .inl (cI, 4, .inl f),
  .inl (cI, 4, .inl f),
  .inl (cI, 4, .inl f),
  .inl (cI, 4, .inl f),
  .inl (cI, 4, .inl f),
  .inl (cI, 4, .inl f),
  .inl (cI, 4, .inl f),
  .inl (cI, 4, .inl f),
  .inl (cI, 4, .inl f),
  .inl (cI, 4, .inl f),
  .inr (5, [.ref (ad 1), .ref (ad 30), .ref (ad 69), .int (f 3), .int (f 4), .int (f 5), .int (f 6)]),
  .inl (cI, 9, .inl f),
  .inl (cI, 9, .inl f),
  .inr (6, [.int (f 0), .int (f 1), .ref (ad 72), .ref (ad 73), .ref (ad 74), .ref (ad 75), .ref (ad 76), .ref (ad 77), .ref (ad 78), .ref (ad 79), .ref (ad 80), .ref (ad 81), .int (f 12), .ref (ad 82), .ref (ad 83), .ref (ad 84), .int (f 16), .int (f 17), .int (f 18), .int (f 19), .int (f 20), .int (f 21), .int (f 22), .ref (ad 85), .ref (ad 86), .int (f 25), .int (f 26), .int (f 27), .ref (ad 87)]),
  .inl (cI, 9, .inl f),
  .inl (cI, 9, .inl f),
  .inl (cI, 9, .inl f),
  .inl (cI, 9, .inl f),
  .inl (cI, 9, .inl f),
  .inl (cI, 9, .inl f),
  .inl (cI, 2, .inl f),
  .inl (cI, 16, .inl f),
  .inl (cI, 16, .inl f),
  .inl (cI, 16, .inl f),
  .inl (cI, 4, .inl f),
  .inl (cI, 4, .inl f),
  .inl (cI, 4, .inl f),
  .inl (cI, 9, .inl f),
  .inl (cI, 9, .inl f),
  .inl (cZ, 9, .inl f),
  .inl (cJ, 1, .inr (.inl (fun i => (f i).toInt64)))]
def wx_mk (ad : Nat → Nat) (cI cZ cJ cG : ClassId) (k : Nat) (f : Nat → Int32) : va_E := (wx_tab ad cI cZ cJ cG f).getD k (.inl (cI, 0, .inl f))
section WXM
variable {ad : Nat → Nat} {cI cZ cJ cG : ClassId} {b k : Nat} {i : Int32}
theorem wx_L0 (h : b = 30 ∨ b = 49) (f : Nat → Int32) : wx_mk ad cI cZ cJ cG b f = .inr (4, [.ref (ad 1), .ref (ad (b + 1)), .ref (ad (b + 2)), .ref (ad (b + 3)), .ref (ad (b + 4)), .ref (ad (b + 5)), .ref (ad (b + 6)), .ref (ad (b + 7)), .ref (ad (b + 8)), .int (f 9)]) := by
  rcases h with rfl | rfl <;> rfl
theorem wx_Ll0 (h : b = 30 ∨ b = 49) : b < 89 := by omega
theorem wx_L1 (h : b = 30 ∨ b = 49) (f : Nat → Int32) : wx_mk ad cI cZ cJ cG (b + 1) f = .inl (cI, 9, .inl f) := by
  rcases h with rfl | rfl <;> rfl
theorem wx_Ll1 (h : b = 30 ∨ b = 49) : b + 1 < 89 := by omega
theorem wx_L2 (h : b = 30 ∨ b = 49) (f : Nat → Int32) : wx_mk ad cI cZ cJ cG (b + 2) f = .inl (cZ, 9, .inl f) := by
  rcases h with rfl | rfl <;> rfl
theorem wx_Ll2 (h : b = 30 ∨ b = 49) : b + 2 < 89 := by omega
theorem wx_L3 (h : b = 30 ∨ b = 49) (f : Nat → Int32) : wx_mk ad cI cZ cJ cG (b + 3) f = .inl (cZ, 9, .inl f) := by
  rcases h with rfl | rfl <;> rfl
theorem wx_Ll3 (h : b = 30 ∨ b = 49) : b + 3 < 89 := by omega
theorem wx_L4 (h : b = 30 ∨ b = 49) (f : Nat → Int32) : wx_mk ad cI cZ cJ cG (b + 4) f = .inl (cI, 10, .inl f) := by
  rcases h with rfl | rfl <;> rfl
theorem wx_Ll4 (h : b = 30 ∨ b = 49) : b + 4 < 89 := by omega
theorem wx_L5 (h : b = 30 ∨ b = 49) (f : Nat → Int32) : wx_mk ad cI cZ cJ cG (b + 5) f = .inl (cI, 10, .inl f) := by
  rcases h with rfl | rfl <;> rfl
theorem wx_Ll5 (h : b = 30 ∨ b = 49) : b + 5 < 89 := by omega
theorem wx_L6 (h : b = 30 ∨ b = 49) (f : Nat → Int32) : wx_mk ad cI cZ cJ cG (b + 6) f = .inl (cI, 10, .inl f) := by
  rcases h with rfl | rfl <;> rfl
theorem wx_Ll6 (h : b = 30 ∨ b = 49) : b + 6 < 89 := by omega
theorem wx_L7 (h : b = 30 ∨ b = 49) (f : Nat → Int32) : wx_mk ad cI cZ cJ cG (b + 7) f = .inl (cI, 10, .inl f) := by
  rcases h with rfl | rfl <;> rfl
theorem wx_Ll7 (h : b = 30 ∨ b = 49) : b + 7 < 89 := by omega
theorem wx_L8 (h : b = 30 ∨ b = 49) (f : Nat → Int32) : wx_mk ad cI cZ cJ cG (b + 8) f = .inl (cG, 10, .inr (.inr (.inr (.inr (fun i => if i < 10 then some (ad ((b + 9) + i)) else none))))) := by
  rcases h with rfl | rfl <;> rfl
theorem wx_Ll8 (h : b = 30 ∨ b = 49) : b + 8 < 89 := by omega
theorem wx_J0 (h : b = 18 ∨ b = 22) (f : Nat → Int32) : wx_mk ad cI cZ cJ cG b f = .inr (2, [.ref (ad (b + 1)), .ref (ad (b + 2)), .ref (ad (b + 3)), .int (f 3)]) := by
  rcases h with rfl | rfl <;> rfl
theorem wx_Jl0 (h : b = 18 ∨ b = 22) : b < 89 := by omega
theorem wx_J1 (h : b = 18 ∨ b = 22) (f : Nat → Int32) : wx_mk ad cI cZ cJ cG (b + 1) f = .inl (cI, 8, .inl f) := by
  rcases h with rfl | rfl <;> rfl
theorem wx_Jl1 (h : b = 18 ∨ b = 22) : b + 1 < 89 := by omega
theorem wx_J2 (h : b = 18 ∨ b = 22) (f : Nat → Int32) : wx_mk ad cI cZ cJ cG (b + 2) f = .inl (cI, 8, .inl f) := by
  rcases h with rfl | rfl <;> rfl
theorem wx_Jl2 (h : b = 18 ∨ b = 22) : b + 2 < 89 := by omega
theorem wx_J3 (h : b = 18 ∨ b = 22) (f : Nat → Int32) : wx_mk ad cI cZ cJ cG (b + 3) f = .inl (cI, 8, .inl f) := by
  rcases h with rfl | rfl <;> rfl
theorem wx_Jl3 (h : b = 18 ∨ b = 22) : b + 3 < 89 := by omega
theorem wx_A (h : k = 69 ∨ k = 70) (f : Nat → Int32) : wx_mk ad cI cZ cJ cG k f = .inl (cI, 9, .inl f) := by
  rcases h with rfl | rfl <;> rfl
theorem wx_Al (h : k = 69 ∨ k = 70) : k < 89 := by omega
theorem wx_M (h : k = 85 ∨ k = 86) (f : Nat → Int32) : wx_mk ad cI cZ cJ cG k f = .inl (cI, 9, .inl f) := by
  rcases h with rfl | rfl <;> rfl
theorem wx_Ml (h : k = 85 ∨ k = 86) : k < 89 := by omega
theorem wx_g8 (h : wc_in i 9 = true) (f : Nat → Int32) : wx_mk ad cI cZ cJ cG (9 + i.toNatClampNeg) f = .inl (cI, 9, .inl f) := by
  have h1 := wc_in_lt h
  generalize i.toNatClampNeg = j at h1 ⊢
  rcases (show j = 0 ∨ j = 1 ∨ j = 2 ∨ j = 3 ∨ j = 4 ∨ j = 5 ∨ j = 6 ∨ j = 7 ∨ j = 8 by omega) with rfl | rfl | rfl | rfl | rfl | rfl | rfl | rfl | rfl <;> rfl
theorem wx_g8l (h : wc_in i 9 = true) : 9 + i.toNatClampNeg < 89 := by have h1 := wc_in_lt h; omega
theorem wx_gL (hb : b = 30 ∨ b = 49) (h : wc_in i 10 = true) (f : Nat → Int32) : wx_mk ad cI cZ cJ cG (b + 9 + i.toNatClampNeg) f = .inl (cI, 4, .inl f) := by
  have h1 := wc_in_lt h
  generalize i.toNatClampNeg = j at h1 ⊢
  rcases hb with rfl | rfl <;> rcases (show j = 0 ∨ j = 1 ∨ j = 2 ∨ j = 3 ∨ j = 4 ∨ j = 5 ∨ j = 6 ∨ j = 7 ∨ j = 8 ∨ j = 9 by omega) with rfl | rfl | rfl | rfl | rfl | rfl | rfl | rfl | rfl | rfl <;> rfl
theorem wx_gLl (hb : b = 30 ∨ b = 49) (h : wc_in i 10 = true) : b + 9 + i.toNatClampNeg < 89 := by have h1 := wc_in_lt h; omega
end WXM
section WXO
variable {p : Program} {l : Launch} {e : Env} {R : Room} {s : State} {m : MethodId} {args : Array Value} {below : List Frame} {meth : Method} {c : Code} {H : Heap} {locs : List Loc} {cells slots : Nat} {Q : State → Prop}
variable {cc : ByteArray} {pc : Nat} {ls : Array Slot} {rest : List Value} {D : va_G} {cl : List vw_C} {A : Nat → Prop} {H0 : Heap} {ad : Nat → Nat} {σ : wc_S} {cI cZ cJ cG : ClassId}
theorem wx_lald (hexec : p.tables.exec = Jvm.exec) (hb : c.code = cc) (hK : va_K D cl (wx_ty cI cZ cJ cG) s) (hP : va_P D cl (wc_W 89 ad (wx_mk ad cI cZ cJ cG) σ) H) (k : Nat) {i : Int32} (hin : vp_in i 1) (hdg : decode cc pc = .ok (.laload, 1)) (hk : k = 88)
    (kk : W p l e R s m args below meth c H locs cells slots Q (F0 m (pc + 1) ls (.long (σ k i.toNatClampNeg).toInt64 :: rest))) : W p l e R s m args below meth c H locs cells slots Q (F0 m pc ls (.int i :: .ref (ad k) :: rest)) := by
  subst hk
  exact va_lald (f := fun j => (σ 88 j).toInt64) hexec hb hK hP 88 2 (wc_at 88 (by decide) rfl) rfl hin hdg kk
theorem wx_last (hexec : p.tables.exec = Jvm.exec) (hb : c.code = cc) (hK : va_K D cl (wx_ty cI cZ cJ cG) s) (hP : va_P D cl (wc_W 89 ad (wx_mk ad cI cZ cJ cG) σ) H) (hD : va_D A (wc_W 89 ad (wx_mk ad cI cZ cJ cG) σ)) (hS : va_S A H0 H locs) {i x : Int32} {y : Int64} (hin : wc_in i 1 = true) (hy : x.toInt64 = y) (hdg : decode cc pc = .ok (.lastore, 1))
    (kk : ∀ (σ1 : wc_S) (H1 : Heap) (locs1 : List Loc), σ1 = wc_u σ 88 i.toNatClampNeg x → va_P D cl (wc_W 89 ad (wx_mk ad cI cZ cJ cG) σ1) H1 → va_D A (wc_W 89 ad (wx_mk ad cI cZ cJ cG) σ1) → va_S A H0 H1 locs1 → W p l e R s m args below meth c H1 locs1 cells slots Q (F0 m (pc + 1) ls rest)) : W p l e R s m args below meth c H locs cells slots Q (F0 m pc ls (.long y :: .int i :: .ref (ad 88) :: rest)) := by
  subst hy
  refine va_last (f := fun j => (σ 88 j).toInt64) hexec hb hK hP hD hS 88 2 (wc_at 88 (by decide) rfl) rfl (wc_in_e hin) hdg (fun H1 locs1 hP1 hD1 hS1 => ?_)
  have e1 : wx_mk ad cI cZ cJ cG 88 (upd (σ 88) i.toNatClampNeg x) = .inl (cJ, 1, .inr (.inl (vp_updL (fun j => (σ 88 j).toInt64) i.toNatClampNeg x.toInt64))) := by
    have e2 : (fun j => (upd (σ 88) i.toNatClampNeg x j).toInt64) = vp_updL (fun j => (σ 88 j).toInt64) i.toNatClampNeg x.toInt64 := by
      funext j
      by_cases h : j = i.toNatClampNeg <;> simp [upd, vp_updL, h]
    show Sum.inl (cJ, 1, Sum.inr (Sum.inl (fun j => (upd (σ 88) i.toNatClampNeg x j).toInt64))) = _
    rw [e2]
  rw [wc_set e1] at hP1 hD1
  exact kk _ H1 locs1 rfl hP1 hD1 hS1
end WXO
end
section
/-! what every method of this proof starts from, and what it leaves -/
abbrev wx_W (ad : Nat → Nat) (cI cZ cJ cG : ClassId) (σ : wc_S) : va_W := wc_W 89 ad (wx_mk ad cI cZ cJ cG) σ
/-- what the tables say besides the good words, the texts, which class is none of another -/
def wx_facts (T : State) : Prop := (∀ w ∈ wx_bad, ∀ a : Array Value, w.before a T = true) ∧ (∀ q ∈ wx_strs, ∃ sa, vk_R "WidthCampaigns" q.1 q.2 sa T) ∧ (∀ q ∈ wx_nots, va_Nc q.1 q.2 T)
/-- .. and it stays so wherever the machine comes that changes nothing outside A -/
def wx_C (A : Nat → Prop) (U : State) (H : Heap) : Prop := ∀ T : State, U.WarmedH T.vm → H.size ≤ T.heap.size → (∀ q : Nat, q < H.size → ¬ A q → T.heap[q]? = H[q]?) → wx_facts T
theorem wx_C.go {A B : Nat → Prop} {s U : State} {H : Heap} {locs : List Loc} (hW : s.WarmedH U.vm) (hS : va_S A s.heap H locs) (hAB : ∀ q, B q → A q) (h : wx_C A s s.heap) : wx_C B U H := fun T h1 h2 h3 =>
  h T (State.WarmedH.trans hW h1) (Nat.le_trans hS.1 h2) (fun q hq hn => (h3 q (Nat.lt_of_lt_of_le hq hS.1) (fun hb => hn (hAB q hb))).trans (hS.2.1 q hq hn))
theorem wx_C.now {A : Nat → Prop} {s : State} (h : wx_C A s s.heap) : wx_facts s := h s (State.WarmedH.refl s) (Nat.le_refl _) (fun _ _ _ => rfl)
def wx_pre (D : va_G) (ad : Nat → Nat) (cI cZ cJ cG : ClassId) (σ : wc_S) (sz : Nat) : State → Prop := fun U =>
  U.heap.size = sz ∧ va_P D wx_cl (wx_W ad cI cZ cJ cG σ) U.heap ∧ va_K D wx_cl (wx_ty cI cZ cJ cG) U ∧ va_D (fun _ => True) (wx_W ad cI cZ cJ cG σ) ∧ wx_C (va_A (wx_W ad cI cZ cJ cG σ) sz) U U.heap
def wx_B (D : va_G) (ad : Nat → Nat) (cI cZ cJ cG : ClassId) : wc_S → State → Prop := fun u t => va_P D wx_cl (wx_W ad cI cZ cJ cG u) t.heap
def wx_E : Nat → String
  | 0 => "java/lang/IndexOutOfBoundsException"
  | 1 => "java/lang/IllegalStateException"
  | 2 => "java/lang/IllegalArgumentException"
  | _ => "java/lang/UnsupportedOperationException"
/-- ends: a number, nothing, thrown -/
abbrev wx_Qi (D : va_G) (ad : Nat → Nat) (cI cZ cJ cG : ClassId) (res : Int32 × wc_S) (A : Nat → Prop) := va_Qi (fun x u => (x, u) = res) (wx_B D ad cI cZ cJ cG) A
abbrev wx_Qv (D : va_G) (ad : Nat → Nat) (cI cZ cJ cG : ClassId) (res : wc_S) (A : Nat → Prop) := va_Qv (fun u => u = res) (wx_B D ad cI cZ cJ cG) A
section WXR
variable {p : Program} {l : Launch} {e : Env} {R : Room} {s : State} {m : MethodId} {args : Array Value} {below : List Frame} {meth : Method} {c : Code} {H : Heap} {locs : List Loc} {cells slots : Nat} {Q : State → Prop}
variable {cc : ByteArray} {pc : Nat} {ls : Array Slot} {rest st0 : List Value} {D : va_G} {ad : Nat → Nat} {cI cZ cJ cG : ClassId} {σ τ : wc_S} {A : Nat → Prop} {H0 : Heap} {mc ms : Nat}
theorem wx_blind {av : List Value} {sz : Nat} : FrameBlind (va_Pc av (wx_pre D ad cI cZ cJ cG σ sz)) := fun a U g mk' q => by
  obtain ⟨q0, q1, qP, qK, qD, qC⟩ := q
  exact ⟨q0, q1, qP, va_K.moved (u := U) (U := U.calling g mk' a) (Vm.Alike.refl U.vm) qK, qD, qC⟩
theorem wx_fr (hD : va_D A (wx_W ad cI cZ cJ cG σ)) (hS : va_S A H0 H locs) (hA : ∀ q, H0.size ≤ q → A q) : ∀ q, va_A (wx_W ad cI cZ cJ cG σ) H.size q → A q := by
  intro q h
  rcases h with ⟨k, e, h⟩ | h
  · exact hD.2 k _ h
  · exact hA q (Nat.le_trans hS.1 h)
theorem wx_go (hK : va_K D wx_cl (wx_ty cI cZ cJ cG) s) (hP : va_P D wx_cl (wx_W ad cI cZ cJ cG σ) H) (hD : va_D A (wx_W ad cI cZ cJ cG σ)) (hS : va_S A s.heap H locs) (hA : ∀ q, s.heap.size ≤ q → A q) (hC : wx_C A s s.heap) (av : List Value) : ∀ U : State, U.heap = H → s.WarmedH U.vm → va_Pc av (wx_pre D ad cI cZ cJ cG σ H.size) av.toArray U := fun U hU hW =>
  ⟨rfl, by rw [hU], by rw [hU]; exact hP, va_K.moved hW.alike hK, hD.weaken (fun _ _ _ _ => trivial), by rw [hU]; exact wx_C.go hW hS (wx_fr hD hS hA) hC⟩
theorem wx_preV {C : String} {T : u_T} {N' ci k : Nat} {fs : List Value} {As : List Value} (hK : va_K D wx_cl (wx_ty cI cZ cJ cG) s) (hP : va_P D wx_cl (wx_W ad cI cZ cJ cG σ) H) (hD : va_D A (wx_W ad cI cZ cJ cG σ)) (hS : va_S A s.heap H locs) (hA : ∀ q, s.heap.size ≤ q → A q) (hC : wx_C A s s.heap) (hk : k < 89) (hm : wx_mk ad cI cZ cJ cG k (σ k) = .inr (ci, fs)) (hc : wx_cl[ci]? = some (C, T, N')) : PreV s H C (ad k) (va_Pc (.ref (ad k) :: As) (wx_pre D ad cI cZ cJ cG σ H.size)) As :=
  ⟨wx_blind, va_recv hK hP hc (wc_at k hk hm), wx_go hK hP hD hS hA hC _⟩
theorem wx_preS {As : List Value} (hK : va_K D wx_cl (wx_ty cI cZ cJ cG) s) (hP : va_P D wx_cl (wx_W ad cI cZ cJ cG σ) H) (hD : va_D A (wx_W ad cI cZ cJ cG σ)) (hS : va_S A s.heap H locs) (hA : ∀ q, s.heap.size ≤ q → A q) (hC : wx_C A s s.heap) : PreS s H (va_Pc As (wx_pre D ad cI cZ cJ cG σ H.size)) As :=
  ⟨wx_blind, wx_go hK hP hD hS hA hC _⟩
theorem wx_calli {r : Int32} {a : Array Value} (hr : va_Run p l e R s m args below meth c H locs cells slots 0 0 (F0 m pc ls st0) rest (wx_Qi D ad cI cZ cJ cG (r, τ) (va_A (wx_W ad cI cZ cJ cG σ) H.size) a) (va_A (wx_W ad cI cZ cJ cG σ) H.size)) (hD : va_D A (wx_W ad cI cZ cJ cG σ)) (hS : va_S A H0 H locs) (hA : ∀ q, H0.size ≤ q → A q)
    (kk : ∀ (H1 : Heap) (locs1 : List Loc), va_P D wx_cl (wx_W ad cI cZ cJ cG τ) H1 → va_D A (wx_W ad cI cZ cJ cG τ) → va_S A H0 H1 locs1 → W p l e R s m args below meth c H1 locs1 cells slots Q (F0 m (pc + 3) ls (.int r :: rest))) : W p l e R s m args below meth c H locs cells slots Q (F0 m pc ls st0) := by
  refine va_calli hr hS (fun q _ h => wx_fr hD hS hA q h) (wx_fr hD hS hA) (fun r' u t H1 locs1 ht hvm hw hB hz hk hS1 => ?_)
  cases hw
  exact kk H1 locs1 (by rw [← ht]; exact hB) (wc_D hD) hS1
theorem wx_callv {a : Array Value} (hr : va_Run p l e R s m args below meth c H locs cells slots 0 0 (F0 m pc ls st0) rest (wx_Qv D ad cI cZ cJ cG τ (va_A (wx_W ad cI cZ cJ cG σ) H.size) a) (va_A (wx_W ad cI cZ cJ cG σ) H.size)) (hD : va_D A (wx_W ad cI cZ cJ cG σ)) (hS : va_S A H0 H locs) (hA : ∀ q, H0.size ≤ q → A q)
    (kk : ∀ (H1 : Heap) (locs1 : List Loc), va_P D wx_cl (wx_W ad cI cZ cJ cG τ) H1 → va_D A (wx_W ad cI cZ cJ cG τ) → va_S A H0 H1 locs1 → W p l e R s m args below meth c H1 locs1 cells slots Q (F0 m (pc + 3) ls rest)) : W p l e R s m args below meth c H locs cells slots Q (F0 m pc ls st0) := by
  refine va_callv hr hS (fun q _ h => wx_fr hD hS hA q h) (wx_fr hD hS hA) (fun u t H1 locs1 ht hvm hw hB hz hk hS1 => ?_)
  cases hw
  exact kk H1 locs1 (by rw [← ht]; exact hB) (wc_D hD) hS1
/-! ends of a method -/
theorem wx_iret {v : Int32} {res : Int32 × wc_S} (hx : p.tables.exec = Jvm.exec) (hb : c.code = cc) (hr : meth.sig.returnType = some .int) (hlocks : meth.locks = false) (hf : some (v, σ) = some res) (hP : va_P D wx_cl (wx_W ad cI cZ cJ cG σ) H) (hS : va_S A s.heap H locs) (hdg : decode cc pc = .ok (.ireturn, 1)) : W p l e R s m args below meth c H locs cells slots (MQ below (wx_Qi D ad cI cZ cJ cG res A) args s cells slots A) (F0 m pc ls [.int v]) :=
  W.iret (v := v) hx hb hr (fun t ht hW => ⟨⟨v, σ, rfl, Option.some.inj hf, by unfold wx_B; rw [ht]; exact hP⟩, hS.F ht⟩) hS.2.2 hdg
theorem wx_zret {v : Int32} {res : Int32 × wc_S} (hx : p.tables.exec = Jvm.exec) (hb : c.code = cc) (hr : meth.sig.returnType = some .boolean) (hn : narrow .boolean (.int v) = .int v) (hlocks : meth.locks = false) (hf : some (v, σ) = some res) (hP : va_P D wx_cl (wx_W ad cI cZ cJ cG σ) H) (hS : va_S A s.heap H locs) (hdg : decode cc pc = .ok (.ireturn, 1)) : W p l e R s m args below meth c H locs cells slots (MQ below (wx_Qi D ad cI cZ cJ cG res A) args s cells slots A) (F0 m pc ls [.int v]) :=
  W.zret (v := v) hx hb hr hn (fun t ht hW => ⟨⟨v, σ, rfl, Option.some.inj hf, by unfold wx_B; rw [ht]; exact hP⟩, hS.F ht⟩) hS.2.2 hdg
theorem wx_vret {res : wc_S} (hx : p.tables.exec = Jvm.exec) (hb : c.code = cc) (hr : meth.sig.returnType = none) (hlocks : meth.locks = false) (hf : some σ = some res) (hP : va_P D wx_cl (wx_W ad cI cZ cJ cG σ) H) (hS : va_S A s.heap H locs) (hdg : decode cc pc = .ok (.return_, 1)) : W p l e R s m args below meth c H locs cells slots (MQ below (wx_Qv D ad cI cZ cJ cG res A) args s cells slots A) (F0 m pc ls []) :=
  W.vret hx hb hr (fun t ht hW => ⟨⟨σ, rfl, Option.some.inj hf, by unfold wx_B; rw [ht]; exact hP⟩, hS.F ht⟩) hS.2.2 hdg
/-- to come to a place of the method with these locals, this stack and this state -/
abbrev wx_Arr (p : Program) (l : Launch) (e : Env) (R : Room) (s : State) (m : MethodId) (args : Array Value) (below : List Frame) (meth : Method) (c : Code) (D : va_G) (ad : Nat → Nat) (cI cZ cJ cG : ClassId) (A : Nat → Prop) (Q : State → Prop) (nL cells slots : Nat) (pc : Nat) (lv : List (Nat × Value)) (st : List Value) (σ : wc_S) : Prop :=
  ∀ (H : Heap) (locs : List Loc) (ls : Array Slot), va_P D wx_cl (wx_W ad cI cZ cJ cG σ) H → va_D A (wx_W ad cI cZ cJ cG σ) → va_S A s.heap H locs → lv_has ls nL lv → W p l e R s m args below meth c H locs cells slots Q (F0 m pc ls st)
/-- what a body has at its entry -/
abbrev wx_In (p : Program) (s : State) (m : MethodId) (args : Array Value) (meth : Method) (c : Code) (D : va_G) (ad : Nat → Nat) (cI cZ cJ cG : ClassId) (A : Nat → Prop) (σ : wc_S) (cc : ByteArray) (maxL : Nat) (ret : Option FieldType) (ws : List Cond) (own : String) : Prop :=
  p.tables.exec = Jvm.exec ∧ c.code = cc ∧ meth.sig.returnType = ret ∧ (∀ w ∈ ws, w.before args s = true) ∧ s.vm.findClass own = some m.cls ∧ meth.locks = false ∧ c.maxLocals = maxL ∧ (∀ q, s.heap.size ≤ q → A q) ∧ va_P D wx_cl (wx_W ad cI cZ cJ cG σ) s.heap ∧ va_K D wx_cl (wx_ty cI cZ cJ cG) s ∧ va_D A (wx_W ad cI cZ cJ cG σ) ∧ wx_C A s s.heap ∧ wx_facts s ∧ va_S A s.heap s.heap []
theorem wx_ofW {y : MethodName} {ws ws' : List Cond} {rm : Room} {maxL : Nat} {ret : Option FieldType} {mc ms sz : Nat} {Qc : (Nat → Prop) → Array Value → State → Outcome → State → Prop} (av : List Value) (hy : plainName y.cls = true) (hw : ws = Cond.code y cc maxL ret :: ws') (hle : (lg_sl av).length ≤ maxL)
    (body : ∀ (p : Program) (e : Env) (s : State) (m : MethodId) (args : Array Value) (below : List Frame) (meth : Method) (c : Code) (A : Nat → Prop) (ls : Array Slot), wx_In p s m args meth c D ad cI cZ cJ cG A σ cc maxL ret ws y.cls → lv_has ls maxL (lv_args 0 av) →
      W p l e rm s m args below meth c s.heap [] 0 0 (MQ below (Qc A) args s mc ms A) (F0 m 0 ls [])) :
    Met l y ws rm (va_Pc av (wx_pre D ad cI cZ cJ cG σ sz)) (Qc (va_A (wx_W ad cI cZ cJ cG σ) sz)) mc ms (va_A (wx_W ad cI cZ cJ cG σ) sz) := by
  refine Met.ofW (cc := cc) (maxL := maxL) (ret := ret) hy hw ?_
  intro p e s m args below meth c s₁ B hml hv
  obtain ⟨rfl, hsz, hP, hK, hD0, hC⟩ := hv
  subst hsz
  have hl := lv_entry av (n := maxL) hle
  rw [lg_entry_eq]
  exact body p e s m _ below meth c _ _ ⟨B.exec, B.bytes, B.returns, atoms_spec (ws := ws) B.pre, findClass_of_methodNamed B.named, B.notSynchronized, hml, fun q h => Or.inr h, hP, hK, hD0.self, hC, hC.now, va_S.rf⟩ hl
end WXR
end
section
section

theorem wd_J_addRow_0 : decode prog_2_method_2_code 0 = .ok (.aload_n 0, 1) := by decide +kernel
theorem wd_J_addRow_1 : decode prog_2_method_2_code 1 = .ok (.getfield 9, 3) := by decide +kernel
theorem wd_J_addRow_4 : decode prog_2_method_2_code 4 = .ok (.aload_n 0, 1) := by decide +kernel
theorem wd_J_addRow_5 : decode prog_2_method_2_code 5 = .ok (.getfield 21, 3) := by decide +kernel
theorem wd_J_addRow_8 : decode prog_2_method_2_code 8 = .ok (.iload_n 1, 1) := by decide +kernel
theorem wd_J_addRow_9 : decode prog_2_method_2_code 9 = .ok (.iastore, 1) := by decide +kernel
theorem wd_J_addRow_10 : decode prog_2_method_2_code 10 = .ok (.aload_n 0, 1) := by decide +kernel
theorem wd_J_addRow_11 : decode prog_2_method_2_code 11 = .ok (.getfield 15, 3) := by decide +kernel
theorem wd_J_addRow_14 : decode prog_2_method_2_code 14 = .ok (.aload_n 0, 1) := by decide +kernel
theorem wd_J_addRow_15 : decode prog_2_method_2_code 15 = .ok (.getfield 21, 3) := by decide +kernel
theorem wd_J_addRow_18 : decode prog_2_method_2_code 18 = .ok (.iload_n 2, 1) := by decide +kernel
theorem wd_J_addRow_19 : decode prog_2_method_2_code 19 = .ok (.iastore, 1) := by decide +kernel
theorem wd_J_addRow_20 : decode prog_2_method_2_code 20 = .ok (.aload_n 0, 1) := by decide +kernel
theorem wd_J_addRow_21 : decode prog_2_method_2_code 21 = .ok (.getfield 18, 3) := by decide +kernel
theorem wd_J_addRow_24 : decode prog_2_method_2_code 24 = .ok (.aload_n 0, 1) := by decide +kernel
theorem wd_J_addRow_25 : decode prog_2_method_2_code 25 = .ok (.getfield 21, 3) := by decide +kernel
theorem wd_J_addRow_28 : decode prog_2_method_2_code 28 = .ok (.iload_n 3, 1) := by decide +kernel
theorem wd_J_addRow_29 : decode prog_2_method_2_code 29 = .ok (.iastore, 1) := by decide +kernel
theorem wd_J_addRow_30 : decode prog_2_method_2_code 30 = .ok (.aload_n 0, 1) := by decide +kernel
theorem wd_J_addRow_31 : decode prog_2_method_2_code 31 = .ok (.dup, 1) := by decide +kernel
theorem wd_J_addRow_32 : decode prog_2_method_2_code 32 = .ok (.getfield 21, 3) := by decide +kernel
theorem wd_J_addRow_35 : decode prog_2_method_2_code 35 = .ok (.iconst 1, 1) := by decide +kernel
theorem wd_J_addRow_36 : decode prog_2_method_2_code 36 = .ok (.iadd, 1) := by decide +kernel
theorem wd_J_addRow_37 : decode prog_2_method_2_code 37 = .ok (.putfield 21, 3) := by decide +kernel
theorem wd_J_addRow_40 : decode prog_2_method_2_code 40 = .ok (.return_, 1) := by decide +kernel
end
section

theorem wd_J_costOf_0 : decode prog_2_method_3_code 0 = .ok (.aload_n 0, 1) := by decide +kernel
theorem wd_J_costOf_1 : decode prog_2_method_3_code 1 = .ok (.getfield 21, 3) := by decide +kernel
theorem wd_J_costOf_4 : decode prog_2_method_3_code 4 = .ok (.ifCond .ne 5, 3) := by decide +kernel
theorem wd_J_costOf_7 : decode prog_2_method_3_code 7 = .ok (.iconst 0, 1) := by decide +kernel
theorem wd_J_costOf_8 : decode prog_2_method_3_code 8 = .ok (.ireturn, 1) := by decide +kernel
theorem wd_J_costOf_9 : decode prog_2_method_3_code 9 = .ok (.iconst 0, 1) := by decide +kernel
theorem wd_J_costOf_10 : decode prog_2_method_3_code 10 = .ok (.istore_n 2, 1) := by decide +kernel
theorem wd_J_costOf_11 : decode prog_2_method_3_code 11 = .ok (.iload_n 2, 1) := by decide +kernel
theorem wd_J_costOf_12 : decode prog_2_method_3_code 12 = .ok (.aload_n 0, 1) := by decide +kernel
theorem wd_J_costOf_13 : decode prog_2_method_3_code 13 = .ok (.getfield 21, 3) := by decide +kernel
theorem wd_J_costOf_16 : decode prog_2_method_3_code 16 = .ok (.if_icmp .ge 36, 3) := by decide +kernel
theorem wd_J_costOf_19 : decode prog_2_method_3_code 19 = .ok (.aload_n 0, 1) := by decide +kernel
theorem wd_J_costOf_20 : decode prog_2_method_3_code 20 = .ok (.getfield 9, 3) := by decide +kernel
theorem wd_J_costOf_23 : decode prog_2_method_3_code 23 = .ok (.iload_n 2, 1) := by decide +kernel
theorem wd_J_costOf_24 : decode prog_2_method_3_code 24 = .ok (.iaload, 1) := by decide +kernel
theorem wd_J_costOf_25 : decode prog_2_method_3_code 25 = .ok (.iload_n 1, 1) := by decide +kernel
theorem wd_J_costOf_26 : decode prog_2_method_3_code 26 = .ok (.if_icmp .gt 20, 3) := by decide +kernel
theorem wd_J_costOf_29 : decode prog_2_method_3_code 29 = .ok (.iload_n 1, 1) := by decide +kernel
theorem wd_J_costOf_30 : decode prog_2_method_3_code 30 = .ok (.aload_n 0, 1) := by decide +kernel
theorem wd_J_costOf_31 : decode prog_2_method_3_code 31 = .ok (.getfield 15, 3) := by decide +kernel
theorem wd_J_costOf_34 : decode prog_2_method_3_code 34 = .ok (.iload_n 2, 1) := by decide +kernel
theorem wd_J_costOf_35 : decode prog_2_method_3_code 35 = .ok (.iaload, 1) := by decide +kernel
theorem wd_J_costOf_36 : decode prog_2_method_3_code 36 = .ok (.if_icmp .gt 10, 3) := by decide +kernel
theorem wd_J_costOf_39 : decode prog_2_method_3_code 39 = .ok (.aload_n 0, 1) := by decide +kernel
theorem wd_J_costOf_40 : decode prog_2_method_3_code 40 = .ok (.getfield 18, 3) := by decide +kernel
theorem wd_J_costOf_43 : decode prog_2_method_3_code 43 = .ok (.iload_n 2, 1) := by decide +kernel
theorem wd_J_costOf_44 : decode prog_2_method_3_code 44 = .ok (.iaload, 1) := by decide +kernel
theorem wd_J_costOf_45 : decode prog_2_method_3_code 45 = .ok (.ireturn, 1) := by decide +kernel
theorem wd_J_costOf_46 : decode prog_2_method_3_code 46 = .ok (.iinc 2 1, 3) := by decide +kernel
theorem wd_J_costOf_49 : decode prog_2_method_3_code 49 = .ok (.goto (-38), 3) := by decide +kernel
theorem wd_J_costOf_52 : decode prog_2_method_3_code 52 = .ok (.iconst (-1), 1) := by decide +kernel
theorem wd_J_costOf_53 : decode prog_2_method_3_code 53 = .ok (.ireturn, 1) := by decide +kernel
end
section

theorem wd_G_addGroup_0 : decode prog_6_method_2_code 0 = .ok (.aload_n 0, 1) := by decide +kernel
theorem wd_G_addGroup_1 : decode prog_6_method_2_code 1 = .ok (.getfield 9, 3) := by decide +kernel
theorem wd_G_addGroup_4 : decode prog_6_method_2_code 4 = .ok (.aload_n 0, 1) := by decide +kernel
theorem wd_G_addGroup_5 : decode prog_6_method_2_code 5 = .ok (.getfield 21, 3) := by decide +kernel
theorem wd_G_addGroup_8 : decode prog_6_method_2_code 8 = .ok (.iload_n 1, 1) := by decide +kernel
theorem wd_G_addGroup_9 : decode prog_6_method_2_code 9 = .ok (.iastore, 1) := by decide +kernel
theorem wd_G_addGroup_10 : decode prog_6_method_2_code 10 = .ok (.aload_n 0, 1) := by decide +kernel
theorem wd_G_addGroup_11 : decode prog_6_method_2_code 11 = .ok (.getfield 15, 3) := by decide +kernel
theorem wd_G_addGroup_14 : decode prog_6_method_2_code 14 = .ok (.aload_n 0, 1) := by decide +kernel
theorem wd_G_addGroup_15 : decode prog_6_method_2_code 15 = .ok (.getfield 21, 3) := by decide +kernel
theorem wd_G_addGroup_18 : decode prog_6_method_2_code 18 = .ok (.iload_n 2, 1) := by decide +kernel
theorem wd_G_addGroup_19 : decode prog_6_method_2_code 19 = .ok (.iastore, 1) := by decide +kernel
theorem wd_G_addGroup_20 : decode prog_6_method_2_code 20 = .ok (.aload_n 0, 1) := by decide +kernel
theorem wd_G_addGroup_21 : decode prog_6_method_2_code 21 = .ok (.getfield 18, 3) := by decide +kernel
theorem wd_G_addGroup_24 : decode prog_6_method_2_code 24 = .ok (.aload_n 0, 1) := by decide +kernel
theorem wd_G_addGroup_25 : decode prog_6_method_2_code 25 = .ok (.getfield 21, 3) := by decide +kernel
theorem wd_G_addGroup_28 : decode prog_6_method_2_code 28 = .ok (.iload_n 3, 1) := by decide +kernel
theorem wd_G_addGroup_29 : decode prog_6_method_2_code 29 = .ok (.iastore, 1) := by decide +kernel
theorem wd_G_addGroup_30 : decode prog_6_method_2_code 30 = .ok (.aload_n 0, 1) := by decide +kernel
theorem wd_G_addGroup_31 : decode prog_6_method_2_code 31 = .ok (.dup, 1) := by decide +kernel
theorem wd_G_addGroup_32 : decode prog_6_method_2_code 32 = .ok (.getfield 21, 3) := by decide +kernel
theorem wd_G_addGroup_35 : decode prog_6_method_2_code 35 = .ok (.iconst 1, 1) := by decide +kernel
theorem wd_G_addGroup_36 : decode prog_6_method_2_code 36 = .ok (.iadd, 1) := by decide +kernel
theorem wd_G_addGroup_37 : decode prog_6_method_2_code 37 = .ok (.putfield 21, 3) := by decide +kernel
theorem wd_G_addGroup_40 : decode prog_6_method_2_code 40 = .ok (.return_, 1) := by decide +kernel
end
section

theorem wd_P_reckonJump_0 : decode prog_4_method_4_code 0 = .ok (.aload_n 0, 1) := by decide +kernel
theorem wd_P_reckonJump_1 : decode prog_4_method_4_code 1 = .ok (.getfield 38, 3) := by decide +kernel
theorem wd_P_reckonJump_4 : decode prog_4_method_4_code 4 = .ok (.aload_n 0, 1) := by decide +kernel
theorem wd_P_reckonJump_5 : decode prog_4_method_4_code 5 = .ok (.getfield 18, 3) := by decide +kernel
theorem wd_P_reckonJump_8 : decode prog_4_method_4_code 8 = .ok (.iload_n 1, 1) := by decide +kernel
theorem wd_P_reckonJump_9 : decode prog_4_method_4_code 9 = .ok (.iaload, 1) := by decide +kernel
theorem wd_P_reckonJump_10 : decode prog_4_method_4_code 10 = .ok (.aload_n 0, 1) := by decide +kernel
theorem wd_P_reckonJump_11 : decode prog_4_method_4_code 11 = .ok (.getfield 18, 3) := by decide +kernel
theorem wd_P_reckonJump_14 : decode prog_4_method_4_code 14 = .ok (.iload_n 2, 1) := by decide +kernel
theorem wd_P_reckonJump_15 : decode prog_4_method_4_code 15 = .ok (.iaload, 1) := by decide +kernel
theorem wd_P_reckonJump_16 : decode prog_4_method_4_code 16 = .ok (.isub, 1) := by decide +kernel
theorem wd_P_reckonJump_17 : decode prog_4_method_4_code 17 = .ok (.invokestatic 72, 3) := by decide +kernel
theorem wd_P_reckonJump_20 : decode prog_4_method_4_code 20 = .ok (.invokevirtual 78, 3) := by decide +kernel
theorem wd_P_reckonJump_23 : decode prog_4_method_4_code 23 = .ok (.istore_n 3, 1) := by decide +kernel
theorem wd_P_reckonJump_24 : decode prog_4_method_4_code 24 = .ok (.aload_n 0, 1) := by decide +kernel
theorem wd_P_reckonJump_25 : decode prog_4_method_4_code 25 = .ok (.getfield 42, 3) := by decide +kernel
theorem wd_P_reckonJump_28 : decode prog_4_method_4_code 28 = .ok (.aload_n 0, 1) := by decide +kernel
theorem wd_P_reckonJump_29 : decode prog_4_method_4_code 29 = .ok (.getfield 15, 3) := by decide +kernel
theorem wd_P_reckonJump_32 : decode prog_4_method_4_code 32 = .ok (.iload_n 1, 1) := by decide +kernel
theorem wd_P_reckonJump_33 : decode prog_4_method_4_code 33 = .ok (.iaload, 1) := by decide +kernel
theorem wd_P_reckonJump_34 : decode prog_4_method_4_code 34 = .ok (.aload_n 0, 1) := by decide +kernel
theorem wd_P_reckonJump_35 : decode prog_4_method_4_code 35 = .ok (.getfield 15, 3) := by decide +kernel
theorem wd_P_reckonJump_38 : decode prog_4_method_4_code 38 = .ok (.iload_n 2, 1) := by decide +kernel
theorem wd_P_reckonJump_39 : decode prog_4_method_4_code 39 = .ok (.iaload, 1) := by decide +kernel
theorem wd_P_reckonJump_40 : decode prog_4_method_4_code 40 = .ok (.isub, 1) := by decide +kernel
theorem wd_P_reckonJump_41 : decode prog_4_method_4_code 41 = .ok (.invokestatic 72, 3) := by decide +kernel
theorem wd_P_reckonJump_44 : decode prog_4_method_4_code 44 = .ok (.invokevirtual 78, 3) := by decide +kernel
theorem wd_P_reckonJump_47 : decode prog_4_method_4_code 47 = .ok (.istore 4, 2) := by decide +kernel
theorem wd_P_reckonJump_49 : decode prog_4_method_4_code 49 = .ok (.iload_n 3, 1) := by decide +kernel
theorem wd_P_reckonJump_50 : decode prog_4_method_4_code 50 = .ok (.iconst (-1), 1) := by decide +kernel
theorem wd_P_reckonJump_51 : decode prog_4_method_4_code 51 = .ok (.if_icmp .eq 9, 3) := by decide +kernel
theorem wd_P_reckonJump_54 : decode prog_4_method_4_code 54 = .ok (.iload 4, 2) := by decide +kernel
theorem wd_P_reckonJump_56 : decode prog_4_method_4_code 56 = .ok (.iconst (-1), 1) := by decide +kernel
theorem wd_P_reckonJump_57 : decode prog_4_method_4_code 57 = .ok (.if_icmp .ne 5, 3) := by decide +kernel
theorem wd_P_reckonJump_60 : decode prog_4_method_4_code 60 = .ok (.iconst (-1), 1) := by decide +kernel
theorem wd_P_reckonJump_61 : decode prog_4_method_4_code 61 = .ok (.ireturn, 1) := by decide +kernel
theorem wd_P_reckonJump_62 : decode prog_4_method_4_code 62 = .ok (.iload_n 3, 1) := by decide +kernel
theorem wd_P_reckonJump_63 : decode prog_4_method_4_code 63 = .ok (.iload 4, 2) := by decide +kernel
theorem wd_P_reckonJump_65 : decode prog_4_method_4_code 65 = .ok (.iadd, 1) := by decide +kernel
theorem wd_P_reckonJump_66 : decode prog_4_method_4_code 66 = .ok (.ireturn, 1) := by decide +kernel
end
section

theorem wd_P_reckonJumps_0 : decode prog_4_method_3_code 0 = .ok (.iconst 0, 1) := by decide +kernel
theorem wd_P_reckonJumps_1 : decode prog_4_method_3_code 1 = .ok (.istore_n 1, 1) := by decide +kernel
theorem wd_P_reckonJumps_2 : decode prog_4_method_3_code 2 = .ok (.iload_n 1, 1) := by decide +kernel
theorem wd_P_reckonJumps_3 : decode prog_4_method_3_code 3 = .ok (.aload_n 0, 1) := by decide +kernel
theorem wd_P_reckonJumps_4 : decode prog_4_method_3_code 4 = .ok (.getfield 62, 3) := by decide +kernel
theorem wd_P_reckonJumps_7 : decode prog_4_method_3_code 7 = .ok (.if_icmp .ge 39, 3) := by decide +kernel
theorem wd_P_reckonJumps_10 : decode prog_4_method_3_code 10 = .ok (.iconst 0, 1) := by decide +kernel
theorem wd_P_reckonJumps_11 : decode prog_4_method_3_code 11 = .ok (.istore_n 2, 1) := by decide +kernel
theorem wd_P_reckonJumps_12 : decode prog_4_method_3_code 12 = .ok (.iload_n 2, 1) := by decide +kernel
theorem wd_P_reckonJumps_13 : decode prog_4_method_3_code 13 = .ok (.aload_n 0, 1) := by decide +kernel
theorem wd_P_reckonJumps_14 : decode prog_4_method_3_code 14 = .ok (.getfield 62, 3) := by decide +kernel
theorem wd_P_reckonJumps_17 : decode prog_4_method_3_code 17 = .ok (.if_icmp .ge 23, 3) := by decide +kernel
theorem wd_P_reckonJumps_20 : decode prog_4_method_3_code 20 = .ok (.aload_n 0, 1) := by decide +kernel
theorem wd_P_reckonJumps_21 : decode prog_4_method_3_code 21 = .ok (.getfield 32, 3) := by decide +kernel
theorem wd_P_reckonJumps_24 : decode prog_4_method_3_code 24 = .ok (.iload_n 1, 1) := by decide +kernel
theorem wd_P_reckonJumps_25 : decode prog_4_method_3_code 25 = .ok (.aaload, 1) := by decide +kernel
theorem wd_P_reckonJumps_26 : decode prog_4_method_3_code 26 = .ok (.iload_n 2, 1) := by decide +kernel
theorem wd_P_reckonJumps_27 : decode prog_4_method_3_code 27 = .ok (.aload_n 0, 1) := by decide +kernel
theorem wd_P_reckonJumps_28 : decode prog_4_method_3_code 28 = .ok (.iload_n 1, 1) := by decide +kernel
theorem wd_P_reckonJumps_29 : decode prog_4_method_3_code 29 = .ok (.iload_n 2, 1) := by decide +kernel
theorem wd_P_reckonJumps_30 : decode prog_4_method_3_code 30 = .ok (.invokevirtual 68, 3) := by decide +kernel
theorem wd_P_reckonJumps_33 : decode prog_4_method_3_code 33 = .ok (.iastore, 1) := by decide +kernel
theorem wd_P_reckonJumps_34 : decode prog_4_method_3_code 34 = .ok (.iinc 2 1, 3) := by decide +kernel
theorem wd_P_reckonJumps_37 : decode prog_4_method_3_code 37 = .ok (.goto (-25), 3) := by decide +kernel
theorem wd_P_reckonJumps_40 : decode prog_4_method_3_code 40 = .ok (.iinc 1 1, 3) := by decide +kernel
theorem wd_P_reckonJumps_43 : decode prog_4_method_3_code 43 = .ok (.goto (-41), 3) := by decide +kernel
theorem wd_P_reckonJumps_46 : decode prog_4_method_3_code 46 = .ok (.return_, 1) := by decide +kernel
end
section

theorem wd_P_addCoil_0 : decode prog_4_method_2_code 0 = .ok (.aload_n 0, 1) := by decide +kernel
theorem wd_P_addCoil_1 : decode prog_4_method_2_code 1 = .ok (.getfield 62, 3) := by decide +kernel
theorem wd_P_addCoil_4 : decode prog_4_method_2_code 4 = .ok (.istore 5, 2) := by decide +kernel
theorem wd_P_addCoil_6 : decode prog_4_method_2_code 6 = .ok (.aload_n 0, 1) := by decide +kernel
theorem wd_P_addCoil_7 : decode prog_4_method_2_code 7 = .ok (.getfield 9, 3) := by decide +kernel
theorem wd_P_addCoil_10 : decode prog_4_method_2_code 10 = .ok (.iload 5, 2) := by decide +kernel
theorem wd_P_addCoil_12 : decode prog_4_method_2_code 12 = .ok (.iload_n 1, 1) := by decide +kernel
theorem wd_P_addCoil_13 : decode prog_4_method_2_code 13 = .ok (.iastore, 1) := by decide +kernel
theorem wd_P_addCoil_14 : decode prog_4_method_2_code 14 = .ok (.aload_n 0, 1) := by decide +kernel
theorem wd_P_addCoil_15 : decode prog_4_method_2_code 15 = .ok (.getfield 15, 3) := by decide +kernel
theorem wd_P_addCoil_18 : decode prog_4_method_2_code 18 = .ok (.iload 5, 2) := by decide +kernel
theorem wd_P_addCoil_20 : decode prog_4_method_2_code 20 = .ok (.iload_n 2, 1) := by decide +kernel
theorem wd_P_addCoil_21 : decode prog_4_method_2_code 21 = .ok (.iastore, 1) := by decide +kernel
theorem wd_P_addCoil_22 : decode prog_4_method_2_code 22 = .ok (.aload_n 0, 1) := by decide +kernel
theorem wd_P_addCoil_23 : decode prog_4_method_2_code 23 = .ok (.getfield 18, 3) := by decide +kernel
theorem wd_P_addCoil_26 : decode prog_4_method_2_code 26 = .ok (.iload 5, 2) := by decide +kernel
theorem wd_P_addCoil_28 : decode prog_4_method_2_code 28 = .ok (.iload_n 3, 1) := by decide +kernel
theorem wd_P_addCoil_29 : decode prog_4_method_2_code 29 = .ok (.iastore, 1) := by decide +kernel
theorem wd_P_addCoil_30 : decode prog_4_method_2_code 30 = .ok (.aload_n 0, 1) := by decide +kernel
theorem wd_P_addCoil_31 : decode prog_4_method_2_code 31 = .ok (.getfield 21, 3) := by decide +kernel
theorem wd_P_addCoil_34 : decode prog_4_method_2_code 34 = .ok (.iload 5, 2) := by decide +kernel
theorem wd_P_addCoil_36 : decode prog_4_method_2_code 36 = .ok (.iload 4, 2) := by decide +kernel
theorem wd_P_addCoil_38 : decode prog_4_method_2_code 38 = .ok (.iastore, 1) := by decide +kernel
theorem wd_P_addCoil_39 : decode prog_4_method_2_code 39 = .ok (.aload_n 0, 1) := by decide +kernel
theorem wd_P_addCoil_40 : decode prog_4_method_2_code 40 = .ok (.getfield 24, 3) := by decide +kernel
theorem wd_P_addCoil_43 : decode prog_4_method_2_code 43 = .ok (.iload 5, 2) := by decide +kernel
theorem wd_P_addCoil_45 : decode prog_4_method_2_code 45 = .ok (.bipush 8, 2) := by decide +kernel
theorem wd_P_addCoil_47 : decode prog_4_method_2_code 47 = .ok (.iastore, 1) := by decide +kernel
theorem wd_P_addCoil_48 : decode prog_4_method_2_code 48 = .ok (.aload_n 0, 1) := by decide +kernel
theorem wd_P_addCoil_49 : decode prog_4_method_2_code 49 = .ok (.getfield 27, 3) := by decide +kernel
theorem wd_P_addCoil_52 : decode prog_4_method_2_code 52 = .ok (.iload 5, 2) := by decide +kernel
theorem wd_P_addCoil_54 : decode prog_4_method_2_code 54 = .ok (.iconst (-1), 1) := by decide +kernel
theorem wd_P_addCoil_55 : decode prog_4_method_2_code 55 = .ok (.iastore, 1) := by decide +kernel
theorem wd_P_addCoil_56 : decode prog_4_method_2_code 56 = .ok (.aload_n 0, 1) := by decide +kernel
theorem wd_P_addCoil_57 : decode prog_4_method_2_code 57 = .ok (.dup, 1) := by decide +kernel
theorem wd_P_addCoil_58 : decode prog_4_method_2_code 58 = .ok (.getfield 62, 3) := by decide +kernel
theorem wd_P_addCoil_61 : decode prog_4_method_2_code 61 = .ok (.iconst 1, 1) := by decide +kernel
theorem wd_P_addCoil_62 : decode prog_4_method_2_code 62 = .ok (.iadd, 1) := by decide +kernel
theorem wd_P_addCoil_63 : decode prog_4_method_2_code 63 = .ok (.putfield 62, 3) := by decide +kernel
theorem wd_P_addCoil_66 : decode prog_4_method_2_code 66 = .ok (.aload_n 0, 1) := by decide +kernel
theorem wd_P_addCoil_67 : decode prog_4_method_2_code 67 = .ok (.invokevirtual 65, 3) := by decide +kernel
theorem wd_P_addCoil_70 : decode prog_4_method_2_code 70 = .ok (.iload 5, 2) := by decide +kernel
theorem wd_P_addCoil_72 : decode prog_4_method_2_code 72 = .ok (.ireturn, 1) := by decide +kernel
end
section

theorem wd_P_leastJumpTo_0 : decode prog_4_method_5_code 0 = .ok (.iconst (-1), 1) := by decide +kernel
theorem wd_P_leastJumpTo_1 : decode prog_4_method_5_code 1 = .ok (.istore_n 2, 1) := by decide +kernel
theorem wd_P_leastJumpTo_2 : decode prog_4_method_5_code 2 = .ok (.iconst 0, 1) := by decide +kernel
theorem wd_P_leastJumpTo_3 : decode prog_4_method_5_code 3 = .ok (.istore_n 3, 1) := by decide +kernel
theorem wd_P_leastJumpTo_4 : decode prog_4_method_5_code 4 = .ok (.iload_n 3, 1) := by decide +kernel
theorem wd_P_leastJumpTo_5 : decode prog_4_method_5_code 5 = .ok (.aload_n 0, 1) := by decide +kernel
theorem wd_P_leastJumpTo_6 : decode prog_4_method_5_code 6 = .ok (.getfield 62, 3) := by decide +kernel
theorem wd_P_leastJumpTo_9 : decode prog_4_method_5_code 9 = .ok (.if_icmp .ge 44, 3) := by decide +kernel
theorem wd_P_leastJumpTo_12 : decode prog_4_method_5_code 12 = .ok (.aload_n 0, 1) := by decide +kernel
theorem wd_P_leastJumpTo_13 : decode prog_4_method_5_code 13 = .ok (.getfield 32, 3) := by decide +kernel
theorem wd_P_leastJumpTo_16 : decode prog_4_method_5_code 16 = .ok (.iload_n 3, 1) := by decide +kernel
theorem wd_P_leastJumpTo_17 : decode prog_4_method_5_code 17 = .ok (.aaload, 1) := by decide +kernel
theorem wd_P_leastJumpTo_18 : decode prog_4_method_5_code 18 = .ok (.iload_n 1, 1) := by decide +kernel
theorem wd_P_leastJumpTo_19 : decode prog_4_method_5_code 19 = .ok (.iaload, 1) := by decide +kernel
theorem wd_P_leastJumpTo_20 : decode prog_4_method_5_code 20 = .ok (.istore 4, 2) := by decide +kernel
theorem wd_P_leastJumpTo_22 : decode prog_4_method_5_code 22 = .ok (.iload_n 3, 1) := by decide +kernel
theorem wd_P_leastJumpTo_23 : decode prog_4_method_5_code 23 = .ok (.iload_n 1, 1) := by decide +kernel
theorem wd_P_leastJumpTo_24 : decode prog_4_method_5_code 24 = .ok (.if_icmp .eq 23, 3) := by decide +kernel
theorem wd_P_leastJumpTo_27 : decode prog_4_method_5_code 27 = .ok (.iload 4, 2) := by decide +kernel
theorem wd_P_leastJumpTo_29 : decode prog_4_method_5_code 29 = .ok (.iconst (-1), 1) := by decide +kernel
theorem wd_P_leastJumpTo_30 : decode prog_4_method_5_code 30 = .ok (.if_icmp .eq 17, 3) := by decide +kernel
theorem wd_P_leastJumpTo_33 : decode prog_4_method_5_code 33 = .ok (.iload_n 2, 1) := by decide +kernel
theorem wd_P_leastJumpTo_34 : decode prog_4_method_5_code 34 = .ok (.iconst (-1), 1) := by decide +kernel
theorem wd_P_leastJumpTo_35 : decode prog_4_method_5_code 35 = .ok (.if_icmp .eq 9, 3) := by decide +kernel
theorem wd_P_leastJumpTo_38 : decode prog_4_method_5_code 38 = .ok (.iload 4, 2) := by decide +kernel
theorem wd_P_leastJumpTo_40 : decode prog_4_method_5_code 40 = .ok (.iload_n 2, 1) := by decide +kernel
theorem wd_P_leastJumpTo_41 : decode prog_4_method_5_code 41 = .ok (.if_icmp .ge 6, 3) := by decide +kernel
theorem wd_P_leastJumpTo_44 : decode prog_4_method_5_code 44 = .ok (.iload 4, 2) := by decide +kernel
theorem wd_P_leastJumpTo_46 : decode prog_4_method_5_code 46 = .ok (.istore_n 2, 1) := by decide +kernel
theorem wd_P_leastJumpTo_47 : decode prog_4_method_5_code 47 = .ok (.iinc 3 1, 3) := by decide +kernel
theorem wd_P_leastJumpTo_50 : decode prog_4_method_5_code 50 = .ok (.goto (-46), 3) := by decide +kernel
theorem wd_P_leastJumpTo_53 : decode prog_4_method_5_code 53 = .ok (.iload_n 2, 1) := by decide +kernel
theorem wd_P_leastJumpTo_54 : decode prog_4_method_5_code 54 = .ok (.iconst (-1), 1) := by decide +kernel
theorem wd_P_leastJumpTo_55 : decode prog_4_method_5_code 55 = .ok (.if_icmp .ne 7, 3) := by decide +kernel
theorem wd_P_leastJumpTo_58 : decode prog_4_method_5_code 58 = .ok (.iconst 0, 1) := by decide +kernel
theorem wd_P_leastJumpTo_59 : decode prog_4_method_5_code 59 = .ok (.goto 4, 3) := by decide +kernel
theorem wd_P_leastJumpTo_62 : decode prog_4_method_5_code 62 = .ok (.iload_n 2, 1) := by decide +kernel
theorem wd_P_leastJumpTo_63 : decode prog_4_method_5_code 63 = .ok (.ireturn, 1) := by decide +kernel
end
section

theorem wd_P_kilometresInGroup_0 : decode prog_4_method_6_code 0 = .ok (.aload_n 0, 1) := by decide +kernel
theorem wd_P_kilometresInGroup_1 : decode prog_4_method_6_code 1 = .ok (.getfield 48, 3) := by decide +kernel
theorem wd_P_kilometresInGroup_4 : decode prog_4_method_6_code 4 = .ok (.getfield 81, 3) := by decide +kernel
theorem wd_P_kilometresInGroup_7 : decode prog_4_method_6_code 7 = .ok (.iload_n 1, 1) := by decide +kernel
theorem wd_P_kilometresInGroup_8 : decode prog_4_method_6_code 8 = .ok (.iaload, 1) := by decide +kernel
theorem wd_P_kilometresInGroup_9 : decode prog_4_method_6_code 9 = .ok (.aload_n 0, 1) := by decide +kernel
theorem wd_P_kilometresInGroup_10 : decode prog_4_method_6_code 10 = .ok (.getfield 9, 3) := by decide +kernel
theorem wd_P_kilometresInGroup_13 : decode prog_4_method_6_code 13 = .ok (.iload_n 2, 1) := by decide +kernel
theorem wd_P_kilometresInGroup_14 : decode prog_4_method_6_code 14 = .ok (.iaload, 1) := by decide +kernel
theorem wd_P_kilometresInGroup_15 : decode prog_4_method_6_code 15 = .ok (.if_icmp .gt 25, 3) := by decide +kernel
theorem wd_P_kilometresInGroup_18 : decode prog_4_method_6_code 18 = .ok (.aload_n 0, 1) := by decide +kernel
theorem wd_P_kilometresInGroup_19 : decode prog_4_method_6_code 19 = .ok (.getfield 9, 3) := by decide +kernel
theorem wd_P_kilometresInGroup_22 : decode prog_4_method_6_code 22 = .ok (.iload_n 2, 1) := by decide +kernel
theorem wd_P_kilometresInGroup_23 : decode prog_4_method_6_code 23 = .ok (.iaload, 1) := by decide +kernel
theorem wd_P_kilometresInGroup_24 : decode prog_4_method_6_code 24 = .ok (.aload_n 0, 1) := by decide +kernel
theorem wd_P_kilometresInGroup_25 : decode prog_4_method_6_code 25 = .ok (.getfield 48, 3) := by decide +kernel
theorem wd_P_kilometresInGroup_28 : decode prog_4_method_6_code 28 = .ok (.getfield 84, 3) := by decide +kernel
theorem wd_P_kilometresInGroup_31 : decode prog_4_method_6_code 31 = .ok (.iload_n 1, 1) := by decide +kernel
theorem wd_P_kilometresInGroup_32 : decode prog_4_method_6_code 32 = .ok (.iaload, 1) := by decide +kernel
theorem wd_P_kilometresInGroup_33 : decode prog_4_method_6_code 33 = .ok (.if_icmp .gt 7, 3) := by decide +kernel
theorem wd_P_kilometresInGroup_36 : decode prog_4_method_6_code 36 = .ok (.iconst 1, 1) := by decide +kernel
theorem wd_P_kilometresInGroup_37 : decode prog_4_method_6_code 37 = .ok (.goto 4, 3) := by decide +kernel
theorem wd_P_kilometresInGroup_40 : decode prog_4_method_6_code 40 = .ok (.iconst 0, 1) := by decide +kernel
theorem wd_P_kilometresInGroup_41 : decode prog_4_method_6_code 41 = .ok (.istore_n 3, 1) := by decide +kernel
theorem wd_P_kilometresInGroup_42 : decode prog_4_method_6_code 42 = .ok (.iload_n 3, 1) := by decide +kernel
theorem wd_P_kilometresInGroup_43 : decode prog_4_method_6_code 43 = .ok (.ifCond .eq 12, 3) := by decide +kernel
theorem wd_P_kilometresInGroup_46 : decode prog_4_method_6_code 46 = .ok (.aload_n 0, 1) := by decide +kernel
theorem wd_P_kilometresInGroup_47 : decode prog_4_method_6_code 47 = .ok (.getfield 21, 3) := by decide +kernel
theorem wd_P_kilometresInGroup_50 : decode prog_4_method_6_code 50 = .ok (.iload_n 2, 1) := by decide +kernel
theorem wd_P_kilometresInGroup_51 : decode prog_4_method_6_code 51 = .ok (.iaload, 1) := by decide +kernel
theorem wd_P_kilometresInGroup_52 : decode prog_4_method_6_code 52 = .ok (.goto 4, 3) := by decide +kernel
theorem wd_P_kilometresInGroup_55 : decode prog_4_method_6_code 55 = .ok (.iconst 0, 1) := by decide +kernel
theorem wd_P_kilometresInGroup_56 : decode prog_4_method_6_code 56 = .ok (.ireturn, 1) := by decide +kernel
end
section

theorem wd_L_penaltySoFar_0 : decode prog_3_method_2_code 0 = .ok (.aload_n 0, 1) := by decide +kernel
theorem wd_L_penaltySoFar_1 : decode prog_3_method_2_code 1 = .ok (.getfield 22, 3) := by decide +kernel
theorem wd_L_penaltySoFar_4 : decode prog_3_method_2_code 4 = .ok (.aload_n 0, 1) := by decide +kernel
theorem wd_L_penaltySoFar_5 : decode prog_3_method_2_code 5 = .ok (.getfield 43, 3) := by decide +kernel
theorem wd_L_penaltySoFar_8 : decode prog_3_method_2_code 8 = .ok (.iaload, 1) := by decide +kernel
theorem wd_L_penaltySoFar_9 : decode prog_3_method_2_code 9 = .ok (.ireturn, 1) := by decide +kernel
end
section

theorem wd_L_changesSoFar_0 : decode prog_3_method_3_code 0 = .ok (.aload_n 0, 1) := by decide +kernel
theorem wd_L_changesSoFar_1 : decode prog_3_method_3_code 1 = .ok (.getfield 25, 3) := by decide +kernel
theorem wd_L_changesSoFar_4 : decode prog_3_method_3_code 4 = .ok (.aload_n 0, 1) := by decide +kernel
theorem wd_L_changesSoFar_5 : decode prog_3_method_3_code 5 = .ok (.getfield 43, 3) := by decide +kernel
theorem wd_L_changesSoFar_8 : decode prog_3_method_3_code 8 = .ok (.iaload, 1) := by decide +kernel
theorem wd_L_changesSoFar_9 : decode prog_3_method_3_code 9 = .ok (.ireturn, 1) := by decide +kernel
end
section

theorem wd_L_movedSoFar_0 : decode prog_3_method_4_code 0 = .ok (.aload_n 0, 1) := by decide +kernel
theorem wd_L_movedSoFar_1 : decode prog_3_method_4_code 1 = .ok (.getfield 28, 3) := by decide +kernel
theorem wd_L_movedSoFar_4 : decode prog_3_method_4_code 4 = .ok (.aload_n 0, 1) := by decide +kernel
theorem wd_L_movedSoFar_5 : decode prog_3_method_4_code 5 = .ok (.getfield 43, 3) := by decide +kernel
theorem wd_L_movedSoFar_8 : decode prog_3_method_4_code 8 = .ok (.iaload, 1) := by decide +kernel
theorem wd_L_movedSoFar_9 : decode prog_3_method_4_code 9 = .ok (.ireturn, 1) := by decide +kernel
end
section

theorem wd_L_clear_0 : decode prog_3_method_5_code 0 = .ok (.aload_n 0, 1) := by decide +kernel
theorem wd_L_clear_1 : decode prog_3_method_5_code 1 = .ok (.iconst 0, 1) := by decide +kernel
theorem wd_L_clear_2 : decode prog_3_method_5_code 2 = .ok (.putfield 43, 3) := by decide +kernel
theorem wd_L_clear_5 : decode prog_3_method_5_code 5 = .ok (.iconst 0, 1) := by decide +kernel
theorem wd_L_clear_6 : decode prog_3_method_5_code 6 = .ok (.istore_n 1, 1) := by decide +kernel
theorem wd_L_clear_7 : decode prog_3_method_5_code 7 = .ok (.iload_n 1, 1) := by decide +kernel
theorem wd_L_clear_8 : decode prog_3_method_5_code 8 = .ok (.bipush 9, 2) := by decide +kernel
theorem wd_L_clear_10 : decode prog_3_method_5_code 10 = .ok (.if_icmp .ge 16, 3) := by decide +kernel
theorem wd_L_clear_13 : decode prog_3_method_5_code 13 = .ok (.aload_n 0, 1) := by decide +kernel
theorem wd_L_clear_14 : decode prog_3_method_5_code 14 = .ok (.getfield 15, 3) := by decide +kernel
theorem wd_L_clear_17 : decode prog_3_method_5_code 17 = .ok (.iload_n 1, 1) := by decide +kernel
theorem wd_L_clear_18 : decode prog_3_method_5_code 18 = .ok (.iconst 0, 1) := by decide +kernel
theorem wd_L_clear_19 : decode prog_3_method_5_code 19 = .ok (.bastore, 1) := by decide +kernel
theorem wd_L_clear_20 : decode prog_3_method_5_code 20 = .ok (.iinc 1 1, 3) := by decide +kernel
theorem wd_L_clear_23 : decode prog_3_method_5_code 23 = .ok (.goto (-16), 3) := by decide +kernel
theorem wd_L_clear_26 : decode prog_3_method_5_code 26 = .ok (.return_, 1) := by decide +kernel
end
end
section
def wf_J_addRow (b : Nat) (a1 : Int32) (a2 : Int32) (a3 : Int32) (σ : wc_S) : Option wc_S :=
wc_st (σ b 3) fun v1 =>
wc_gd (wc_in v1 8) (
wc_st (wc_u σ (b + 1) v1.toNatClampNeg a1) fun σ3 =>
wc_st (σ3 b 3) fun v4 =>
wc_gd (wc_in v4 8) (
wc_st (wc_u σ3 (b + 2) v4.toNatClampNeg a2) fun σ6 =>
wc_st (σ6 b 3) fun v7 =>
wc_gd (wc_in v7 8) (
wc_st (wc_u σ6 (b + 3) v7.toNatClampNeg a3) fun σ9 =>
wc_st (σ9 b 3) fun v10 =>
wc_st (v10 + 1) fun v11 =>
wc_st (wc_u σ9 b 3 v11) fun σ12 =>
some σ12)))
def wf_J_costOf_46 (b : Nat) (k11 : Int32 → Int32 → wc_S → Option (Int32 × wc_S)) (x1 : Int32) (x2 : Int32) (σ : wc_S) : Option (Int32 × wc_S) :=
wc_st (x2 + 1) fun v8 =>
k11 x1 v8 σ
def wf_J_costOf_11_b (b : Nat) (k11 : Int32 → Int32 → wc_S → Option (Int32 × wc_S)) (x1 : Int32) (x2 : Int32) (σ : wc_S) : Option (Int32 × wc_S) :=
wc_st (σ b 3) fun v3 =>
if v3 ≤ x2 then (
some ((-1), σ)) else (
wc_gd (wc_in x2 8) (
wc_st (σ (b + 1) x2.toNatClampNeg) fun v6 =>
if x1 < v6 then (
wf_J_costOf_46 b k11 x1 x2 σ) else (
wc_gd (wc_in x2 8) (
wc_st (σ (b + 2) x2.toNatClampNeg) fun v10 =>
if v10 < x1 then (
wf_J_costOf_46 b k11 x1 x2 σ) else (
wc_gd (wc_in x2 8) (
wc_st (σ (b + 3) x2.toNatClampNeg) fun v13 =>
some (v13, σ)))))))
def wf_J_costOf_11 (b : Nat) (n : Nat) : Int32 → Int32 → wc_S → Option (Int32 × wc_S) := match n with
  | 0 => fun _ _ _ => none
  | n + 1 => wf_J_costOf_11_b b (wf_J_costOf_11 b n)
def wf_J_costOf (b : Nat) (a1 : Int32) (σ : wc_S) : Option (Int32 × wc_S) :=
wc_st (σ b 3) fun v1 =>
if v1 = 0 then (
some (0, σ)) else (
wf_J_costOf_11 b 16 a1 0 σ)
def wf_G_addGroup (a1 : Int32) (a2 : Int32) (a3 : Int32) (σ : wc_S) : Option wc_S :=
wc_st (σ 26 3) fun v1 =>
wc_gd (wc_in v1 4) (
wc_st (wc_u σ 27 v1.toNatClampNeg a1) fun σ3 =>
wc_st (σ3 26 3) fun v4 =>
wc_gd (wc_in v4 4) (
wc_st (wc_u σ3 28 v4.toNatClampNeg a2) fun σ6 =>
wc_st (σ6 26 3) fun v7 =>
wc_gd (wc_in v7 4) (
wc_st (wc_u σ6 29 v7.toNatClampNeg a3) fun σ9 =>
wc_st (σ9 26 3) fun v10 =>
wc_st (v10 + 1) fun v11 =>
wc_st (wc_u σ9 26 3 v11) fun σ12 =>
some σ12)))
def wf_P_reckonJump (a1 : Int32) (a2 : Int32) (σ : wc_S) : Option (Int32 × wc_S) :=
wc_gd (wc_in a1 9) (
wc_st (σ 4 a1.toNatClampNeg) fun v2 =>
wc_gd (wc_in a2 9) (
wc_st (σ 4 a2.toNatClampNeg) fun v4 =>
wc_st (v2 - v4) fun v5 =>
wc_st (if 0 ≤ v5 then v5 else 0 - v5) fun v6 =>
wc_b2 (wf_J_costOf 18 v6 σ) fun r8 σ7 =>
wc_gd (wc_in a1 9) (
wc_st (σ7 3 a1.toNatClampNeg) fun v10 =>
wc_gd (wc_in a2 9) (
wc_st (σ7 3 a2.toNatClampNeg) fun v12 =>
wc_st (v10 - v12) fun v13 =>
wc_st (if 0 ≤ v13 then v13 else 0 - v13) fun v14 =>
wc_b2 (wf_J_costOf 22 v14 σ7) fun r16 σ15 =>
if r8 = (-1) then (
some ((-1), σ15)) else (
if r16 = (-1) then (
some ((-1), σ15)) else (
wc_st (r8 + r16) fun v19 =>
some (v19, σ15)))))))
def wf_P_reckonJumps_12_b (k2 : Int32 → wc_S → Option wc_S) (k12 : Int32 → Int32 → wc_S → Option wc_S) (x1 : Int32) (x2 : Int32) (σ : wc_S) : Option wc_S :=
wc_st (σ 1 10) fun v3 =>
if v3 ≤ x2 then (
wc_st (x1 + 1) fun v5 =>
k2 v5 σ) else (
wc_gd (wc_in x1 9) (
wc_b2 (wf_P_reckonJump x1 x2 σ) fun r8 σ7 =>
wc_gd (wc_in x2 9) (
wc_st (wc_u σ7 (9 + x1.toNatClampNeg) x2.toNatClampNeg r8) fun σ10 =>
wc_st (x2 + 1) fun v11 =>
k12 x1 v11 σ10)))
def wf_P_reckonJumps_12 (k2 : Int32 → wc_S → Option wc_S) (n : Nat) : Int32 → Int32 → wc_S → Option wc_S := match n with
  | 0 => fun _ _ _ => none
  | n + 1 => wf_P_reckonJumps_12_b k2 (wf_P_reckonJumps_12 k2 n)
def wf_P_reckonJumps_2_b (k2 : Int32 → wc_S → Option wc_S) (x1 : Int32) (σ : wc_S) : Option wc_S :=
wc_st (σ 1 10) fun v1 =>
if v1 ≤ x1 then (
some σ) else (
wf_P_reckonJumps_12 k2 16 x1 0 σ)
def wf_P_reckonJumps_2 (n : Nat) : Int32 → wc_S → Option wc_S := match n with
  | 0 => fun _ _ => none
  | n + 1 => wf_P_reckonJumps_2_b  (wf_P_reckonJumps_2  n)
def wf_P_reckonJumps (σ : wc_S) : Option wc_S :=
wf_P_reckonJumps_2 16 0 σ
def wf_P_addCoil (a1 : Int32) (a2 : Int32) (a3 : Int32) (a4 : Int32) (σ : wc_S) : Option (Int32 × wc_S) :=
wc_st (σ 1 10) fun v1 =>
wc_gd (wc_in v1 9) (
wc_st (wc_u σ 2 v1.toNatClampNeg a1) fun σ3 =>
wc_gd (wc_in v1 9) (
wc_st (wc_u σ3 3 v1.toNatClampNeg a2) fun σ5 =>
wc_gd (wc_in v1 9) (
wc_st (wc_u σ5 4 v1.toNatClampNeg a3) fun σ7 =>
wc_gd (wc_in v1 9) (
wc_st (wc_u σ7 5 v1.toNatClampNeg a4) fun σ9 =>
wc_gd (wc_in v1 9) (
wc_st (wc_u σ9 6 v1.toNatClampNeg 8) fun σ11 =>
wc_gd (wc_in v1 9) (
wc_st (wc_u σ11 7 v1.toNatClampNeg (-1)) fun σ13 =>
wc_st (σ13 1 10) fun v14 =>
wc_st (v14 + 1) fun v15 =>
wc_st (wc_u σ13 1 10 v15) fun σ16 =>
wc_b1 (wf_P_reckonJumps σ16) fun σ17 =>
some (v1, σ17)))))))
def wf_P_leastJumpTo_47 (k4 : Int32 → Int32 → Int32 → wc_S → Option (Int32 × wc_S)) (x1 : Int32) (x2 : Int32) (x3 : Int32) (σ : wc_S) : Option (Int32 × wc_S) :=
wc_st (x3 + 1) fun v8 =>
k4 x1 x2 v8 σ
def wf_P_leastJumpTo_44 (k4 : Int32 → Int32 → Int32 → wc_S → Option (Int32 × wc_S)) (x1 : Int32) (x3 : Int32) (x4 : Int32) (σ : wc_S) : Option (Int32 × wc_S) :=
wf_P_leastJumpTo_47 k4 x1 x4 x3 σ
def wf_P_leastJumpTo_4_b (k4 : Int32 → Int32 → Int32 → wc_S → Option (Int32 × wc_S)) (x1 : Int32) (x2 : Int32) (x3 : Int32) (σ : wc_S) : Option (Int32 × wc_S) :=
wc_st (σ 1 10) fun v1 =>
if v1 ≤ x3 then (
if x2 = (-1) then (
some (0, σ)) else (
some (x2, σ))) else (
wc_gd (wc_in x3 9) (
wc_gd (wc_in x1 9) (
wc_st (σ (9 + x3.toNatClampNeg) x1.toNatClampNeg) fun v6 =>
if x3 = x1 then (
wf_P_leastJumpTo_47 k4 x1 x2 x3 σ) else (
if v6 = (-1) then (
wf_P_leastJumpTo_47 k4 x1 x2 x3 σ) else (
if x2 = (-1) then (
wf_P_leastJumpTo_44 k4 x1 x3 v6 σ) else (
if x2 ≤ v6 then (
wf_P_leastJumpTo_47 k4 x1 x2 x3 σ) else (
wf_P_leastJumpTo_44 k4 x1 x3 v6 σ)))))))
def wf_P_leastJumpTo_4 (n : Nat) : Int32 → Int32 → Int32 → wc_S → Option (Int32 × wc_S) := match n with
  | 0 => fun _ _ _ _ => none
  | n + 1 => wf_P_leastJumpTo_4_b  (wf_P_leastJumpTo_4  n)
def wf_P_leastJumpTo (a1 : Int32) (σ : wc_S) : Option (Int32 × wc_S) :=
wf_P_leastJumpTo_4 16 a1 (-1) 0 σ
def wf_P_kilometresInGroup_41 (x2 : Int32) (s0 : Int32) (σ : wc_S) : Option (Int32 × wc_S) :=
if s0 = 0 then (
some (0, σ)) else (
wc_gd (wc_in x2 9) (
wc_st (σ 5 x2.toNatClampNeg) fun v8 =>
some (v8, σ)))
def wf_P_kilometresInGroup_40 (x2 : Int32) (σ : wc_S) : Option (Int32 × wc_S) :=
wf_P_kilometresInGroup_41 x2 0 σ
def wf_P_kilometresInGroup (a1 : Int32) (a2 : Int32) (σ : wc_S) : Option (Int32 × wc_S) :=
wc_gd (wc_in a1 4) (
wc_st (σ 27 a1.toNatClampNeg) fun v2 =>
wc_gd (wc_in a2 9) (
wc_st (σ 2 a2.toNatClampNeg) fun v4 =>
if v4 < v2 then (
wf_P_kilometresInGroup_40 a2 σ) else (
wc_gd (wc_in a2 9) (
wc_st (σ 2 a2.toNatClampNeg) fun v10 =>
wc_gd (wc_in a1 4) (
wc_st (σ 28 a1.toNatClampNeg) fun v12 =>
if v12 < v10 then (
wf_P_kilometresInGroup_40 a2 σ) else (
wf_P_kilometresInGroup_41 a2 1 σ))))))
def wf_L_penaltySoFar (b : Nat) (σ : wc_S) : Option (Int32 × wc_S) :=
wc_st (σ b 9) fun v1 =>
wc_gd (wc_in v1 10) (
wc_st (σ (b + 4) v1.toNatClampNeg) fun v3 =>
some (v3, σ))
def wf_L_changesSoFar (b : Nat) (σ : wc_S) : Option (Int32 × wc_S) :=
wc_st (σ b 9) fun v1 =>
wc_gd (wc_in v1 10) (
wc_st (σ (b + 5) v1.toNatClampNeg) fun v3 =>
some (v3, σ))
def wf_L_movedSoFar (b : Nat) (σ : wc_S) : Option (Int32 × wc_S) :=
wc_st (σ b 9) fun v1 =>
wc_gd (wc_in v1 10) (
wc_st (σ (b + 6) v1.toNatClampNeg) fun v3 =>
some (v3, σ))
def wf_L_clear_7_b (b : Nat) (k7 : Int32 → wc_S → Option wc_S) (x1 : Int32) (σ : wc_S) : Option wc_S :=
if 9 ≤ x1 then (
some σ) else (
wc_gd (wc_in x1 9) (
wc_st (wc_u σ (b + 2) x1.toNatClampNeg (vp_nar .boolean 0)) fun σ4 =>
wc_st (x1 + 1) fun v5 =>
k7 v5 σ4))
def wf_L_clear_7 (b : Nat) (n : Nat) : Int32 → wc_S → Option wc_S := match n with
  | 0 => fun _ _ => none
  | n + 1 => wf_L_clear_7_b b (wf_L_clear_7 b n)
def wf_L_clear (b : Nat) (σ : wc_S) : Option wc_S :=
wc_st (wc_u σ b 9 0) fun σ1 =>
wf_L_clear_7 b 16 0 σ1
def wf_L_mayFollow (b : Nat) (a1 : Int32) (a2 : Int32) (σ : wc_S) : Option (Int32 × wc_S) :=
wc_gd (wc_in a1 9) (
wc_gd (wc_in a2 9) (
wc_st (σ (9 + a1.toNatClampNeg) a2.toNatClampNeg) fun v3 =>
if v3 = (-1) then (
some (0, σ)) else (
wc_gd (wc_in a2 9) (
wc_st (σ 2 a2.toNatClampNeg) fun v6 =>
wc_gd (wc_in a1 9) (
wc_st (σ 2 a1.toNatClampNeg) fun v8 =>
wc_st (v6 - v8) fun v9 =>
wc_st (σ b 9) fun v10 =>
wc_st (σ 1 11) fun v11 =>
if v11 ≤ v10 then (
if 0 < v9 then (
some (0, σ)) else (
some (1, σ))) else (
if v9 < 0 then (
some (0, σ)) else (
some (1, σ))))))))
def wf_L_mayPut (b : Nat) (a1 : Int32) (σ : wc_S) : Option (Int32 × wc_S) :=
wc_gd (wc_in a1 9) (
wc_st (σ (b + 2) a1.toNatClampNeg) fun v2 =>
if v2 = 0 then (
wc_st (σ b 9) fun v4 =>
wc_gd (wc_in a1 9) (
wc_st (σ 6 a1.toNatClampNeg) fun v6 =>
if v4 ≤ v6 then (
wc_st (σ b 9) fun v8 =>
if v8 = 0 then (
some (1, σ)) else (
wc_st (σ b 9) fun v10 =>
wc_st (v10 - 1) fun v11 =>
wc_gd (wc_in v11 9) (
wc_st (σ (b + 1) v11.toNatClampNeg) fun v13 =>
wc_b2 (wf_L_mayFollow b v13 a1 σ) fun r15 σ14 =>
if r15 = 0 then (
some (0, σ14)) else (
some (1, σ14))))) else (
some (0, σ)))) else (
some (0, σ)))
def wf_L_isWornWith_33_b (b : Nat) (k33 : Int32 → Int32 → wc_S → Option (Int32 × wc_S)) (x1 : Int32) (x2 : Int32) (σ : wc_S) : Option (Int32 × wc_S) :=
wc_st (σ 26 3) fun v9 =>
if v9 ≤ x2 then (
some (0, σ)) else (
wc_st (σ b 9) fun v11 =>
wc_gd (wc_in v11 10) (
wc_gd (wc_in x2 4) (
wc_st (σ (b + 9 + v11.toNatClampNeg) x2.toNatClampNeg) fun v14 =>
wc_b2 (wf_P_kilometresInGroup x2 x1 σ) fun r16 σ15 =>
wc_st (v14 + r16) fun v17 =>
wc_gd (wc_in x2 4) (
wc_st (σ15 29 x2.toNatClampNeg) fun v19 =>
if v17 ≤ v19 then (
wc_st (x2 + 1) fun v21 =>
k33 x1 v21 σ15) else (
some (1, σ15))))))
def wf_L_isWornWith_33 (b : Nat) (n : Nat) : Int32 → Int32 → wc_S → Option (Int32 × wc_S) := match n with
  | 0 => fun _ _ _ => none
  | n + 1 => wf_L_isWornWith_33_b b (wf_L_isWornWith_33 b n)
def wf_L_isWornWith (b : Nat) (a1 : Int32) (σ : wc_S) : Option (Int32 × wc_S) :=
wc_st (σ b 9) fun v1 =>
wc_gd (wc_in v1 10) (
wc_st (σ (b + 7) v1.toNatClampNeg) fun v3 =>
wc_gd (wc_in a1 9) (
wc_st (σ 5 a1.toNatClampNeg) fun v5 =>
wc_st (v3 + v5) fun v6 =>
wc_st (σ 1 12) fun v7 =>
if v6 ≤ v7 then (
wf_L_isWornWith_33 b 16 a1 0 σ) else (
some (1, σ))))
def wf_L_countKilometres_78 (b : Nat) (k43 : Int32 → Int32 → Int32 → Int32 → wc_S → Option wc_S) (x1 : Int32) (x2 : Int32) (x3 : Int32) (x4 : Int32) (s0 : Int32) (σ : wc_S) : Option wc_S :=
wc_gd (wc_in x3 10) (
wc_b2 (wf_P_kilometresInGroup x4 x1 σ) fun r21 σ20 =>
wc_st (s0 + r21) fun v22 =>
wc_gd (wc_in x4 4) (
wc_st (wc_u σ20 (b + 9 + x3.toNatClampNeg) x4.toNatClampNeg v22) fun σ24 =>
wc_st (x4 + 1) fun v25 =>
k43 x1 x2 x3 v25 σ24))
def wf_L_countKilometres_43_b (b : Nat) (k43 : Int32 → Int32 → Int32 → Int32 → wc_S → Option wc_S) (x1 : Int32) (x2 : Int32) (x3 : Int32) (x4 : Int32) (σ : wc_S) : Option wc_S :=
wc_st (σ 26 3) fun v12 =>
if v12 ≤ x4 then (
some σ) else (
if x2 = 0 then (
wc_st (σ b 9) fun v15 =>
wc_gd (wc_in v15 10) (
wc_gd (wc_in x4 4) (
wc_st (σ (b + 9 + v15.toNatClampNeg) x4.toNatClampNeg) fun v18 =>
wf_L_countKilometres_78 b k43 x1 x2 x3 x4 v18 σ))) else (
wf_L_countKilometres_78 b k43 x1 x2 x3 x4 0 σ))
def wf_L_countKilometres_43 (b : Nat) (n : Nat) : Int32 → Int32 → Int32 → Int32 → wc_S → Option wc_S := match n with
  | 0 => fun _ _ _ _ _ => none
  | n + 1 => wf_L_countKilometres_43_b b (wf_L_countKilometres_43 b n)
def wf_L_countKilometres_29 (b : Nat) (x1 : Int32) (x2 : Int32) (x3 : Int32) (s1 : Int32) (s2 : Int32) (σ : wc_S) : Option wc_S :=
wc_gd (wc_in x1 9) (
wc_st (σ 5 x1.toNatClampNeg) fun v8 =>
wc_st (s2 + v8) fun v9 =>
wc_gd (wc_in s1 10) (
wc_st (wc_u σ (b + 7) s1.toNatClampNeg v9) fun σ11 =>
wf_L_countKilometres_43 b 16 x1 x2 x3 0 σ11))
def wf_L_countKilometres (b : Nat) (a1 : Int32) (a2 : Int32) (σ : wc_S) : Option wc_S :=
wc_st (σ b 9) fun v1 =>
wc_st (v1 + 1) fun v2 =>
if a2 = 0 then (
wc_st (σ b 9) fun v4 =>
wc_gd (wc_in v4 10) (
wc_st (σ (b + 7) v4.toNatClampNeg) fun v6 =>
wf_L_countKilometres_29 b a1 a2 v2 v2 v6 σ)) else (
wf_L_countKilometres_29 b a1 a2 v2 v2 0 σ)
def wf_L_countCosts_157 (b : Nat) (x5 : Int32) (s1 : Int32) (s2 : Int32) (s3 : Int32) (σ : wc_S) : Option wc_S :=
wc_st (s2 + s3) fun v27 =>
if x5 = 0 then (
wc_st (v27 + 0) fun v29 =>
wc_gd (wc_in s1 10) (
wc_st (wc_u σ (b + 4) s1.toNatClampNeg v29) fun σ31 =>
some σ31)) else (
wc_st (σ 1 14) fun v32 =>
wc_st (v27 + v32) fun v33 =>
wc_gd (wc_in s1 10) (
wc_st (wc_u σ (b + 4) s1.toNatClampNeg v33) fun σ35 =>
some σ35))
def wf_L_countCosts_123 (b : Nat) (x2 : Int32) (x3 : Int32) (x5 : Int32) (x6 : Int32) (s1 : Int32) (s2 : Int32) (s3 : Int32) (σ : wc_S) : Option wc_S :=
wc_st (s2 + s3) fun v19 =>
wc_gd (wc_in s1 10) (
wc_st (wc_u σ (b + 6) s1.toNatClampNeg v19) fun σ21 =>
wc_st (σ21 b 9) fun v22 =>
wc_gd (wc_in v22 10) (
wc_st (σ21 (b + 4) v22.toNatClampNeg) fun v24 =>
wc_st (v24 + x6) fun v25 =>
if x2 = 0 then (
wf_L_countCosts_157 b x5 x3 v25 0 σ21) else (
wc_st (σ21 1 13) fun v36 =>
wf_L_countCosts_157 b x5 x3 v25 v36 σ21)))
def wf_L_countCosts_97 (b : Nat) (x2 : Int32) (x3 : Int32) (x5 : Int32) (x6 : Int32) (s1 : Int32) (s2 : Int32) (s3 : Int32) (σ : wc_S) : Option wc_S :=
wc_st (s2 + s3) fun v12 =>
wc_gd (wc_in s1 10) (
wc_st (wc_u σ (b + 5) s1.toNatClampNeg v12) fun σ14 =>
wc_st (σ14 b 9) fun v15 =>
wc_gd (wc_in v15 10) (
wc_st (σ14 (b + 6) v15.toNatClampNeg) fun v17 =>
if x5 = 0 then (
wf_L_countCosts_123 b x2 x3 x5 x6 x3 v17 0 σ14) else (
wf_L_countCosts_123 b x2 x3 x5 x6 x3 v17 1 σ14)))
def wf_L_countCosts_72 (b : Nat) (x2 : Int32) (x3 : Int32) (x5 : Int32) (s0 : Int32) (σ : wc_S) : Option wc_S :=
wc_st (σ b 9) fun v8 =>
wc_gd (wc_in v8 10) (
wc_st (σ (b + 5) v8.toNatClampNeg) fun v10 =>
if x2 = 0 then (
wf_L_countCosts_97 b x2 x3 x5 s0 x3 v10 0 σ) else (
wf_L_countCosts_97 b x2 x3 x5 s0 x3 v10 1 σ))
def wf_L_countCosts_38 (b : Nat) (x1 : Int32) (x2 : Int32) (x3 : Int32) (s0 : Int32) (σ : wc_S) : Option wc_S :=
wc_st (σ b 9) fun v6 =>
if v6 ≤ 0 then (
wf_L_countCosts_72 b x2 x3 s0 0 σ) else (
wc_st (σ b 9) fun v37 =>
wc_st (v37 - 1) fun v38 =>
wc_gd (wc_in v38 9) (
wc_st (σ (b + 1) v38.toNatClampNeg) fun v40 =>
wc_gd (wc_in v40 9) (
wc_gd (wc_in x1 9) (
wc_st (σ (9 + v40.toNatClampNeg) x1.toNatClampNeg) fun v43 =>
wf_L_countCosts_72 b x2 x3 s0 v43 σ))))
def wf_L_countCosts_37 (b : Nat) (x1 : Int32) (x2 : Int32) (x3 : Int32) (σ : wc_S) : Option wc_S :=
wf_L_countCosts_38 b x1 x2 x3 0 σ
def wf_L_countCosts (b : Nat) (a1 : Int32) (a2 : Int32) (σ : wc_S) : Option wc_S :=
wc_st (σ b 9) fun v1 =>
wc_st (v1 + 1) fun v2 =>
wc_gd (wc_in a1 9) (
wc_st (σ 7 a1.toNatClampNeg) fun v4 =>
if v4 = (-1) then (
wf_L_countCosts_37 b a1 a2 v2 σ) else (
wc_st (σ b 9) fun v44 =>
if v4 = v44 then (
wf_L_countCosts_37 b a1 a2 v2 σ) else (
wf_L_countCosts_38 b a1 a2 v2 1 σ)))
def wf_L_put_20 (b : Nat) (x1 : Int32) (s0 : Int32) (σ : wc_S) : Option wc_S :=
wc_st (σ b 9) fun v3 =>
wc_gd (wc_in v3 9) (
wc_st (wc_u σ (b + 3) v3.toNatClampNeg (vp_nar .boolean s0)) fun σ5 =>
wc_b1 (wf_L_countKilometres b x1 s0 σ5) fun σ6 =>
wc_b1 (wf_L_countCosts b x1 s0 σ6) fun σ7 =>
wc_st (σ7 b 9) fun v8 =>
wc_gd (wc_in v8 9) (
wc_st (wc_u σ7 (b + 1) v8.toNatClampNeg x1) fun σ10 =>
wc_gd (wc_in x1 9) (
wc_st (wc_u σ10 (b + 2) x1.toNatClampNeg (vp_nar .boolean 1)) fun σ12 =>
wc_st (σ12 b 9) fun v13 =>
wc_st (v13 + 1) fun v14 =>
wc_st (wc_u σ12 b 9 v14) fun σ15 =>
some σ15)))
def wf_L_put_19 (b : Nat) (x1 : Int32) (σ : wc_S) : Option wc_S :=
wf_L_put_20 b x1 0 σ
def wf_L_put (b : Nat) (a1 : Int32) (σ : wc_S) : Option wc_S :=
wc_st (σ b 9) fun v1 =>
if v1 ≤ 0 then (
wf_L_put_19 b a1 σ) else (
wc_b2 (wf_L_isWornWith b a1 σ) fun r17 σ16 =>
if r17 = 0 then (
wf_L_put_19 b a1 σ16) else (
wf_L_put_20 b a1 1 σ16))
def wf_L_takeBack (b : Nat) (σ : wc_S) : Option wc_S :=
wc_st (σ b 9) fun v1 =>
if v1 ≤ 0 then (
some σ) else (
wc_st (σ b 9) fun v3 =>
wc_st (v3 - 1) fun v4 =>
wc_st (wc_u σ b 9 v4) fun σ5 =>
wc_st (σ5 b 9) fun v6 =>
wc_gd (wc_in v6 9) (
wc_st (σ5 (b + 1) v6.toNatClampNeg) fun v8 =>
wc_gd (wc_in v8 9) (
wc_st (wc_u σ5 (b + 2) v8.toNatClampNeg (vp_nar .boolean 0)) fun σ10 =>
some σ10)))
def wf_L_layAll_6_b (b : Nat) (k1 : Nat) (k6 : Int32 → wc_S → Option (Int32 × wc_S)) (x2 : Int32) (σ : wc_S) : Option (Int32 × wc_S) :=
wc_st (σ 1 10) fun v2 =>
if v2 ≤ x2 then (
some (1, σ)) else (
wc_gd (wc_in x2 9) (
wc_st (σ k1 x2.toNatClampNeg) fun v5 =>
wc_b2 (wf_L_mayPut b v5 σ) fun r7 σ6 =>
if r7 = 0 then (
some (0, σ6)) else (
wc_gd (wc_in x2 9) (
wc_st (σ6 k1 x2.toNatClampNeg) fun v10 =>
wc_b1 (wf_L_put b v10 σ6) fun σ11 =>
wc_st (x2 + 1) fun v12 =>
k6 v12 σ11))))
def wf_L_layAll_6 (b : Nat) (k1 : Nat) (n : Nat) : Int32 → wc_S → Option (Int32 × wc_S) := match n with
  | 0 => fun _ _ => none
  | n + 1 => wf_L_layAll_6_b b k1 (wf_L_layAll_6 b k1 n)
def wf_L_layAll (b : Nat) (k1 : Nat) (σ : wc_S) : Option (Int32 × wc_S) :=
wc_b1 (wf_L_clear b σ) fun σ1 =>
wf_L_layAll_6 b k1 16 0 σ1
def wf_S_keepBest (σ : wc_S) : Option wc_S :=
wc_st (wc_u σ 68 5 1) fun σ1 =>
wc_b2 (wf_L_penaltySoFar 30 σ1) fun r3 σ2 =>
wc_st (wc_u σ2 68 3 r3) fun σ4 =>
wc_st (σ4 1 10) fun v5 =>
wc_gd (wc_le v5 9) (
wc_st (wc_uA σ4 69 (va_cpy (σ4 31) (σ4 69) 0 0 v5.toNatClampNeg)) fun σ7 =>
some σ7)
def wf_S_putAndGoOn_52 (g : Int32 → wc_S → Option wc_S) (σ : wc_S) : Option wc_S :=
wc_b1 (wf_L_takeBack 30 σ) fun σ11 =>
some σ11
def wf_S_putAndGoOn (g : Int32 → wc_S → Option wc_S) (a1 : Int32) (a2 : Int32) (σ : wc_S) : Option wc_S :=
wc_st (σ 68 4) fun v1 =>
if 0 < v1 then (
wc_st (σ 68 4) fun v3 =>
wc_st (v3 - 1) fun v4 =>
wc_st (wc_u σ 68 4 v4) fun σ5 =>
wc_b1 (wf_L_put 30 a1 σ5) fun σ6 =>
wc_b2 (wf_L_penaltySoFar 30 σ6) fun r8 σ7 =>
wc_st (σ7 68 3) fun v9 =>
if v9 ≤ r8 then (
wf_S_putAndGoOn_52 g  σ7) else (
wc_st (a2 + 1) fun v12 =>
wc_b1 (g v12 σ7) fun σ13 =>
wf_S_putAndGoOn_52 g  σ13)) else (
wc_st (wc_u σ 68 6 1) fun σ14 =>
some σ14)
def wf_S_goOnAt_53 (g : Int32 → wc_S → Option wc_S) (k18 : Int32 → Int32 → wc_S → Option wc_S) (x1 : Int32) (x2 : Int32) (σ : wc_S) : Option wc_S :=
wc_st (x2 + 1) fun v10 =>
k18 x1 v10 σ
def wf_S_goOnAt_18_b (g : Int32 → wc_S → Option wc_S) (k18 : Int32 → Int32 → wc_S → Option wc_S) (x1 : Int32) (x2 : Int32) (σ : wc_S) : Option wc_S :=
wc_st (σ 1 10) fun v3 =>
if v3 ≤ x2 then (
some σ) else (
wc_st (σ 68 6) fun v5 =>
if v5 = 0 then (
wc_b2 (wf_L_mayPut 30 x2 σ) fun r8 σ7 =>
if r8 = 0 then (
wf_S_goOnAt_53 g k18 x1 x2 σ7) else (
wc_b1 (wf_S_putAndGoOn g x2 x1 σ7) fun σ11 =>
wf_S_goOnAt_53 g k18 x1 x2 σ11)) else (
some σ))
def wf_S_goOnAt_18 (g : Int32 → wc_S → Option wc_S) (n : Nat) : Int32 → Int32 → wc_S → Option wc_S := match n with
  | 0 => fun _ _ _ => none
  | n + 1 => wf_S_goOnAt_18_b g (wf_S_goOnAt_18 g n)
def wf_S_goOnAt_r (g : Int32 → wc_S → Option wc_S) (a1 : Int32) (σ : wc_S) : Option wc_S :=
wc_st (σ 1 10) fun v1 =>
if a1 < v1 then (
wf_S_goOnAt_18 g 16 a1 0 σ) else (
wc_b1 (wf_S_keepBest σ) fun σ12 =>
some σ12)
def wf_S_goOnAt (d : Nat) : Int32 → wc_S → Option wc_S := match d with
  | 0 => fun _ _ => none
  | d + 1 => wf_S_goOnAt_r (wf_S_goOnAt d)
def wf_S_searchWith (a1 : Int32) (σ : wc_S) : Option wc_S :=
wc_st (wc_u σ 68 4 a1) fun σ1 =>
wc_st (wc_u σ1 68 3 2147483647) fun σ2 =>
wc_st (wc_u σ2 68 5 0) fun σ3 =>
wc_st (wc_u σ3 68 6 0) fun σ4 =>
wc_b1 (wf_L_clear 30 σ4) fun σ5 =>
wc_b1 (wf_S_goOnAt 11 0 σ5) fun σ6 =>
some σ6
def wf_W_isOutside (a0 : Int32) (a1 : Int32) (a2 : Int32) (σ : wc_S) : Option (Int32 × wc_S) :=
if a0 < a1 then (
some (1, σ)) else (
if a0 ≤ a2 then (
some (0, σ)) else (
some (1, σ)))
def wf_W_isNoCoil (a1 : Int32) (σ : wc_S) : Option (Int32 × wc_S) :=
if a1 < 0 then (
some (1, σ)) else (
wc_st (σ 1 10) fun v2 =>
if a1 < v2 then (
some (0, σ)) else (
some (1, σ)))
def wf_W_forgetOrder (σ : wc_S) : Option wc_S :=
wc_st (wc_u σ 0 5 0) fun σ1 =>
wc_st (wc_u σ1 0 6 0) fun σ2 =>
some σ2
def wf_W_requireOrder (σ : wc_S) : Option (wc_X wc_S) :=
wc_st (σ 0 5) fun v1 =>
if v1 = 0 then (
some (.inl (1, σ))) else (
some (.inr σ))
def wf_W_requirePlace (a1 : Int32) (σ : wc_S) : Option (wc_X wc_S) :=
wc_b2 (wf_W_isNoCoil a1 σ) fun r2 σ1 =>
if r2 = 0 then (
some (.inr σ1)) else (
some (.inl (0, σ1)))
def wf_W_readIntoScratch_5_b (k5 : Int64 → Int32 → Int32 → wc_S → Option (Int32 × wc_S)) (x1 : Int64) (x3 : Int32) (x4 : Int32) (σ : wc_S) : Option (Int32 × wc_S) :=
wc_st (σ 1 10) fun v1 =>
if v1 ≤ x4 then (
some (1, σ)) else (
wc_st ((4 : Int32) * x4) fun v3 =>
wc_st ((x1.toUInt64 >>> (v3.toInt64.toUInt64 &&& Int64.toUInt64 63)).toInt64) fun v4 =>
wc_st v4.toInt32 fun v5 =>
wc_st (v5 &&& 15) fun v6 =>
wc_b2 (wf_W_isNoCoil v6 σ) fun r8 σ7 =>
if r8 = 0 then (
wc_st (x3 >>> (v6 &&& 31)) fun v10 =>
wc_st (v10 &&& 1) fun v11 =>
if v11 = 1 then (
some (0, σ7)) else (
wc_st ((1 : Int32) <<< (v6 &&& 31)) fun v13 =>
wc_st (x3 ||| v13) fun v14 =>
wc_gd (wc_in x4 9) (
wc_st (wc_u σ7 70 x4.toNatClampNeg v6) fun σ16 =>
wc_st (x4 + 1) fun v17 =>
k5 x1 v14 v17 σ16))) else (
some (0, σ7)))
def wf_W_readIntoScratch_5 (n : Nat) : Int64 → Int32 → Int32 → wc_S → Option (Int32 × wc_S) := match n with
  | 0 => fun _ _ _ _ => none
  | n + 1 => wf_W_readIntoScratch_5_b  (wf_W_readIntoScratch_5  n)
def wf_W_readIntoScratch (a1 : Int64) (σ : wc_S) : Option (Int32 × wc_S) :=
wf_W_readIntoScratch_5 16 a1 0 0 σ
def wf_W_takePairIfBetter (a1 : Int32) (a2 : Int32) (σ : wc_S) : Option (Int32 × wc_S) :=
wc_st (σ 1 10) fun v1 =>
wc_gd (wc_le v1 9) (
wc_st (wc_uA σ 70 (va_cpy (σ 50) (σ 70) 0 0 v1.toNatClampNeg)) fun σ3 =>
wc_gd (wc_in a2 9) (
wc_st (σ3 50 a2.toNatClampNeg) fun v5 =>
wc_gd (wc_in a1 9) (
wc_st (wc_u σ3 70 a1.toNatClampNeg v5) fun σ7 =>
wc_gd (wc_in a1 9) (
wc_st (σ7 50 a1.toNatClampNeg) fun v9 =>
wc_gd (wc_in a2 9) (
wc_st (wc_u σ7 70 a2.toNatClampNeg v9) fun σ11 =>
wc_b2 (wf_L_layAll 30 70 σ11) fun r13 σ12 =>
if r13 = 0 then (
some (0, σ12)) else (
wc_b2 (wf_L_penaltySoFar 30 σ12) fun r16 σ15 =>
wc_b2 (wf_L_penaltySoFar 49 σ15) fun r18 σ17 =>
if r16 < r18 then (
wc_b2 (wf_L_layAll 49 70 σ17) fun r21 σ20 =>
some (1, σ20)) else (
some (0, σ17))))))))
def wf_W_takeFirstBetterPair_17_b (k2 : Int32 → wc_S → Option (Int32 × wc_S)) (k17 : Int32 → Int32 → wc_S → Option (Int32 × wc_S)) (x1 : Int32) (x2 : Int32) (σ : wc_S) : Option (Int32 × wc_S) :=
wc_st (σ 1 10) fun v4 =>
if v4 ≤ x2 then (
wc_st (x1 + 1) fun v6 =>
k2 v6 σ) else (
wc_b2 (wf_W_takePairIfBetter x1 x2 σ) fun r8 σ7 =>
if r8 = 0 then (
wc_st (x2 + 1) fun v10 =>
k17 x1 v10 σ7) else (
some (1, σ7)))
def wf_W_takeFirstBetterPair_17 (k2 : Int32 → wc_S → Option (Int32 × wc_S)) (n : Nat) : Int32 → Int32 → wc_S → Option (Int32 × wc_S) := match n with
  | 0 => fun _ _ _ => none
  | n + 1 => wf_W_takeFirstBetterPair_17_b k2 (wf_W_takeFirstBetterPair_17 k2 n)
def wf_W_takeFirstBetterPair_2_b (k2 : Int32 → wc_S → Option (Int32 × wc_S)) (x1 : Int32) (σ : wc_S) : Option (Int32 × wc_S) :=
wc_st (σ 1 10) fun v1 =>
if v1 ≤ x1 then (
some (0, σ)) else (
wc_st (x1 + 1) fun v3 =>
wf_W_takeFirstBetterPair_17 k2 16 x1 v3 σ)
def wf_W_takeFirstBetterPair_2 (n : Nat) : Int32 → wc_S → Option (Int32 × wc_S) := match n with
  | 0 => fun _ _ => none
  | n + 1 => wf_W_takeFirstBetterPair_2_b  (wf_W_takeFirstBetterPair_2  n)
def wf_W_takeFirstBetterPair (σ : wc_S) : Option (Int32 × wc_S) :=
wf_W_takeFirstBetterPair_2 16 0 σ
def wf_W_coil_43 (σ : wc_S) : Option (wc_X (Int32 × wc_S)) :=
some (.inl (2, σ))
def wf_W_coil (a1 : Int32) (a2 : Int32) (a3 : Int32) (a4 : Int32) (σ : wc_S) : Option (wc_X (Int32 × wc_S)) :=
wc_b2 (wf_W_isOutside a1 1 2000 σ) fun r2 σ1 =>
if r2 = 0 then (
wc_b2 (wf_W_isOutside a2 1 1000 σ1) fun r5 σ4 =>
if r5 = 0 then (
wc_b2 (wf_W_isOutside a3 0 9 σ4) fun r8 σ7 =>
if r8 = 0 then (
wc_b2 (wf_W_isOutside a4 1 100 σ7) fun r11 σ10 =>
if r11 = 0 then (
wc_st (σ10 1 10) fun v13 =>
if v13 < 9 then (
wc_b1 (wf_W_forgetOrder σ10) fun σ15 =>
wc_b2 (wf_P_addCoil a1 a2 a3 a4 σ15) fun r17 σ16 =>
some (.inr (r17, σ16))) else (
some (.inl (3, σ10)))) else (
wf_W_coil_43  σ10)) else (
wf_W_coil_43  σ7)) else (
wf_W_coil_43  σ4)) else (
wf_W_coil_43  σ1)
def wf_W_table_53 (σ : wc_S) : Option (wc_X (Int32 × wc_S)) :=
some (.inl (2, σ))
def wf_W_table_84 (x2 : Int32) (x3 : Int32) (x4 : Int32) (s0_ : Nat) (σ : wc_S) : Option (wc_X (Int32 × wc_S)) :=
wc_st (σ s0_ 3) fun v14 =>
if v14 < 8 then (
wc_b1 (wf_W_forgetOrder σ) fun σ16 =>
wc_b1 (wf_J_addRow s0_ x2 x3 x4 σ16) fun σ17 =>
wc_b1 (wf_P_reckonJumps σ17) fun σ18 =>
wc_st (σ18 s0_ 3) fun v19 =>
some (.inr (v19, σ18))) else (
some (.inl (3, σ)))
def wf_W_table (a1 : Int32) (a2 : Int32) (a3 : Int32) (a4 : Int32) (σ : wc_S) : Option (wc_X (Int32 × wc_S)) :=
wc_b2 (wf_W_isOutside a1 0 1 σ) fun r2 σ1 =>
if r2 = 0 then (
wc_b2 (wf_W_isOutside a2 0 1000 σ1) fun r5 σ4 =>
if r5 = 0 then (
wc_b2 (wf_W_isOutside a3 a2 1000 σ4) fun r8 σ7 =>
if r8 = 0 then (
wc_b2 (wf_W_isOutside a4 0 10000 σ7) fun r11 σ10 =>
if r11 = 0 then (
if a1 = 0 then (
wf_W_table_84 a2 a3 a4 18 σ10) else (
wf_W_table_84 a2 a3 a4 22 σ10)) else (
wf_W_table_53  σ10)) else (
wf_W_table_53  σ7)) else (
wf_W_table_53  σ4)) else (
some (.inl (0, σ1)))
def wf_W_group_33 (σ : wc_S) : Option (wc_X (Int32 × wc_S)) :=
some (.inl (2, σ))
def wf_W_group (a1 : Int32) (a2 : Int32) (a3 : Int32) (σ : wc_S) : Option (wc_X (Int32 × wc_S)) :=
wc_b2 (wf_W_isOutside a1 1 2000 σ) fun r2 σ1 =>
if r2 = 0 then (
wc_b2 (wf_W_isOutside a2 a1 2000 σ1) fun r5 σ4 =>
if r5 = 0 then (
wc_b2 (wf_W_isOutside a3 1 1000 σ4) fun r8 σ7 =>
if r8 = 0 then (
wc_st (σ7 26 3) fun v10 =>
if v10 < 4 then (
wc_b1 (wf_W_forgetOrder σ7) fun σ12 =>
wc_b1 (wf_G_addGroup a1 a2 a3 σ12) fun σ13 =>
wc_st (σ13 26 3) fun v14 =>
some (.inr (v14, σ13))) else (
some (.inl (3, σ7)))) else (
wf_W_group_33  σ7)) else (
wf_W_group_33  σ4)) else (
wf_W_group_33  σ1)
def wf_W_urgent (a1 : Int32) (a2 : Int32) (σ : wc_S) : Option (wc_X wc_S) :=
wc_b2 (wf_W_isNoCoil a1 σ) fun r2 σ1 =>
if r2 = 0 then (
wc_b2 (wf_W_isOutside a2 0 8 σ1) fun r5 σ4 =>
if r5 = 0 then (
wc_b1 (wf_W_forgetOrder σ4) fun σ7 =>
wc_gd (wc_in a1 9) (
wc_st (wc_u σ7 6 a1.toNatClampNeg a2) fun σ9 =>
some (.inr σ9))) else (
some (.inl (2, σ4)))) else (
some (.inl (0, σ1)))
def wf_W_old (a1 : Int32) (a2 : Int32) (σ : wc_S) : Option (wc_X wc_S) :=
wc_b2 (wf_W_isNoCoil a1 σ) fun r2 σ1 =>
if r2 = 0 then (
wc_b2 (wf_W_isOutside a2 (-1) 8 σ1) fun r5 σ4 =>
if r5 = 0 then (
wc_b1 (wf_W_forgetOrder σ4) fun σ7 =>
wc_gd (wc_in a1 9) (
wc_st (wc_u σ7 7 a1.toNatClampNeg a2) fun σ9 =>
some (.inr σ9))) else (
some (.inl (2, σ4)))) else (
some (.inl (0, σ1)))
def wf_W_rules_44 (σ : wc_S) : Option (wc_X wc_S) :=
some (.inl (2, σ))
def wf_W_rules (a1 : Int32) (a2 : Int32) (a3 : Int32) (a4 : Int32) (σ : wc_S) : Option (wc_X wc_S) :=
wc_b2 (wf_W_isOutside a1 0 9 σ) fun r2 σ1 =>
if r2 = 0 then (
wc_b2 (wf_W_isOutside a2 1 1000 σ1) fun r5 σ4 =>
if r5 = 0 then (
wc_b2 (wf_W_isOutside a3 0 10000 σ4) fun r8 σ7 =>
if r8 = 0 then (
wc_b2 (wf_W_isOutside a4 0 10000 σ7) fun r11 σ10 =>
if r11 = 0 then (
wc_b1 (wf_W_forgetOrder σ10) fun σ13 =>
wc_st (wc_u σ13 1 11 a1) fun σ14 =>
wc_st (wc_u σ14 1 12 a2) fun σ15 =>
wc_st (wc_u σ15 1 13 a3) fun σ16 =>
wc_st (wc_u σ16 1 14 a4) fun σ17 =>
some (.inr σ17)) else (
wf_W_rules_44  σ10)) else (
wf_W_rules_44  σ7)) else (
wf_W_rules_44  σ4)) else (
wf_W_rules_44  σ1)
def wf_W_run (a1 : Int32) (σ : wc_S) : Option (wc_X (Int32 × wc_S)) :=
wc_b2 (wf_W_isOutside a1 0 100000 σ) fun r2 σ1 =>
if r2 = 0 then (
wc_b1 (wf_S_searchWith a1 σ1) fun σ4 =>
wc_st (wc_u σ4 0 6 1) fun σ5 =>
wc_st (σ5 68 5) fun v6 =>
wc_gd (wc_z v6) (
wc_st (wc_u σ5 0 5 v6) fun σ8 =>
wc_st (σ8 0 5) fun v9 =>
if v9 = 0 then (
some (.inr ((-1), σ8))) else (
wc_b2 (wf_L_layAll 49 69 σ8) fun r12 σ11 =>
wc_st (σ11 1 10) fun v13 =>
some (.inr (v13, σ11))))) else (
some (.inl (2, σ1)))
def wf_W_proved (σ : wc_S) : Option (wc_X (Int32 × wc_S)) :=
wc_st (σ 0 6) fun v1 =>
if v1 = 0 then (
some (.inl (1, σ))) else (
wc_st (σ 68 6) fun v3 =>
if v3 = 0 then (
some (.inr (1, σ))) else (
some (.inr (0, σ))))
def wf_W_order (a1 : Int32) (σ : wc_S) : Option (wc_X (Int32 × wc_S)) :=
wc_bx (wf_W_requireOrder σ) fun σ1 =>
wc_bx (wf_W_requirePlace a1 σ1) fun σ2 =>
wc_gd (wc_in a1 9) (
wc_st (σ2 50 a1.toNatClampNeg) fun v4 =>
some (.inr (v4, σ2)))
def wf_W_told (a1 : Int32) (σ : wc_S) : Option (wc_X (Int32 × wc_S)) :=
wc_b2 (wf_W_isOutside a1 0 2 σ) fun r2 σ1 =>
if r2 = 0 then (
wc_bx (wf_W_requireOrder σ1) fun σ4 =>
if a1 = 0 then (
wc_b2 (wf_L_penaltySoFar 49 σ4) fun r12 σ11 =>
some (.inr (r12, σ11))) else (
if a1 = 1 then (
wc_b2 (wf_L_changesSoFar 49 σ4) fun r10 σ9 =>
some (.inr (r10, σ9))) else (
wc_b2 (wf_L_movedSoFar 49 σ4) fun r8 σ7 =>
some (.inr (r8, σ7))))) else (
some (.inl (0, σ1)))
def wf_W_change (a1 : Int32) (σ : wc_S) : Option (wc_X (Int32 × wc_S)) :=
wc_bx (wf_W_requireOrder σ) fun σ1 =>
wc_bx (wf_W_requirePlace a1 σ1) fun σ2 =>
wc_gd (wc_in a1 9) (
wc_st (σ2 52 a1.toNatClampNeg) fun v4 =>
wc_gd (wc_z v4) (some (.inr (v4, σ2))))
def wf_W_jump_21 (σ : wc_S) : Option (wc_X (Int32 × wc_S)) :=
some (.inl (0, σ))
def wf_W_jump (a1 : Int32) (a2 : Int32) (σ : wc_S) : Option (wc_X (Int32 × wc_S)) :=
wc_b2 (wf_W_isNoCoil a1 σ) fun r2 σ1 =>
if r2 = 0 then (
wc_b2 (wf_W_isNoCoil a2 σ1) fun r5 σ4 =>
if r5 = 0 then (
if a1 = a2 then (
wf_W_jump_21  σ4) else (
wc_gd (wc_in a1 9) (
wc_gd (wc_in a2 9) (
wc_st (σ4 (9 + a1.toNatClampNeg) a2.toNatClampNeg) fun v10 =>
some (.inr (v10, σ4)))))) else (
wf_W_jump_21  σ4)) else (
wf_W_jump_21  σ1)
def wf_W_bound_6_b (k6 : Int32 → Int32 → Int32 → wc_S → Option (Int32 × wc_S)) (x1 : Int32) (x2 : Int32) (x3 : Int32) (σ : wc_S) : Option (Int32 × wc_S) :=
wc_st (σ 1 10) fun v1 =>
if v1 ≤ x3 then (
wc_st (x1 - x2) fun v3 =>
some (v3, σ)) else (
wc_b2 (wf_P_leastJumpTo x3 σ) fun r5 σ4 =>
wc_st (x1 + r5) fun v6 =>
wc_st (if x2 < r5 then r5 else x2) fun v7 =>
wc_st (x3 + 1) fun v8 =>
k6 v6 v7 v8 σ4)
def wf_W_bound_6 (n : Nat) : Int32 → Int32 → Int32 → wc_S → Option (Int32 × wc_S) := match n with
  | 0 => fun _ _ _ _ => none
  | n + 1 => wf_W_bound_6_b  (wf_W_bound_6  n)
def wf_W_bound (σ : wc_S) : Option (Int32 × wc_S) :=
wf_W_bound_6 16 0 0 0 σ
def wf_W_tell (a1 : Int64) (σ : wc_S) : Option (wc_X wc_S) :=
wc_b2 (wf_W_readIntoScratch a1 σ) fun r2 σ1 =>
if r2 = 0 then (
some (.inl (0, σ1))) else (
wc_b2 (wf_L_layAll 30 70 σ1) fun r5 σ4 =>
if r5 = 0 then (
some (.inl (3, σ4))) else (
wc_b2 (wf_L_layAll 49 70 σ4) fun r8 σ7 =>
wc_st (wc_u σ7 0 5 1) fun σ9 =>
some (.inr σ9)))
def wf_W_improve_26_b (k26 : Int32 → Int32 → wc_S → Option (wc_X (Int32 × wc_S))) (x1 : Int32) (x2 : Int32) (σ : wc_S) : Option (wc_X (Int32 × wc_S)) :=
if x1 ≤ x2 then (
some (.inr (x2, σ))) else (
wc_b2 (wf_W_takeFirstBetterPair σ) fun r7 σ6 =>
if r7 = 0 then (
some (.inr (x2, σ6))) else (
wc_st (x2 + 1) fun v9 =>
k26 x1 v9 σ6))
def wf_W_improve_26 (n : Nat) : Int32 → Int32 → wc_S → Option (wc_X (Int32 × wc_S)) := match n with
  | 0 => fun _ _ _ => none
  | n + 1 => wf_W_improve_26_b  (wf_W_improve_26  n)
def wf_W_improve (a1 : Int32) (σ : wc_S) : Option (wc_X (Int32 × wc_S)) :=
wc_bx (wf_W_requireOrder σ) fun σ1 =>
wc_b2 (wf_W_isOutside a1 0 100 σ1) fun r3 σ2 =>
if r3 = 0 then (
wf_W_improve_26 128 a1 0 σ2) else (
some (.inl (2, σ2)))
def wf_M_thrown (σ : wc_S) : Option (Int32 × wc_S) :=
wc_st (σ 71 0) fun v1 =>
some (v1, σ)
def wf_M_in (a0 : Int32) (a1 : Int32) (a2 : Int32) (σ : wc_S) : Option (Int32 × wc_S) :=
if a0 < a1 then (
some (0, σ)) else (
if a2 < a0 then (
some (0, σ)) else (
some (1, σ)))
def wf_M_goes_26 (s1 : Int32) (σ : wc_S) : Option (Int32 × wc_S) :=
wc_st (wc_u σ 71 0 s1) fun σ4 =>
wc_st (σ4 71 0) fun v5 =>
if v5 = 0 then (
some (1, σ4)) else (
some (0, σ4))
def wf_M_goes (a1 : Int32) (a2 : Int32) (a3 : Int32) (σ : wc_S) : Option (Int32 × wc_S) :=
if a1 = 0 then (
wf_M_goes_26 1 σ) else (
if a2 = 0 then (
wf_M_goes_26 2 σ) else (
if a3 = 0 then (
wf_M_goes_26 3 σ) else (
wf_M_goes_26 0 σ)))
def wf_M_gone (σ : wc_S) : Option wc_S :=
wc_st (wc_u σ 71 20 0) fun σ1 =>
wc_st (wc_u σ1 71 22 0) fun σ2 =>
some σ2
def wf_M_isCoil (a1 : Int32) (σ : wc_S) : Option (Int32 × wc_S) :=
wc_st (σ 71 1) fun v1 =>
wc_st (v1 - 1) fun v2 =>
wc_b2 (wf_M_in a1 0 v2 σ) fun r4 σ3 =>
wc_gd (wc_z r4) (some (r4, σ3))
def wf_M_coil_63 (x1 : Int32) (x2 : Int32) (x3 : Int32) (x4 : Int32) (s1 : Int32) (s2 : Int32) (σ : wc_S) : Option (Int32 × wc_S) :=
wc_b2 (wf_M_goes s1 s2 1 σ) fun r7 σ6 =>
if r7 = 0 then (
some (0, σ6)) else (
wc_st (σ6 71 1) fun v9 =>
wc_gd (wc_in v9 9) (
wc_st (wc_u σ6 72 v9.toNatClampNeg x1) fun σ11 =>
wc_st (σ11 71 1) fun v12 =>
wc_gd (wc_in v12 9) (
wc_st (wc_u σ11 73 v12.toNatClampNeg x2) fun σ14 =>
wc_st (σ14 71 1) fun v15 =>
wc_gd (wc_in v15 9) (
wc_st (wc_u σ14 74 v15.toNatClampNeg x3) fun σ17 =>
wc_st (σ17 71 1) fun v18 =>
wc_gd (wc_in v18 9) (
wc_st (wc_u σ17 75 v18.toNatClampNeg x4) fun σ20 =>
wc_st (σ20 71 1) fun v21 =>
wc_gd (wc_in v21 9) (
wc_st (wc_u σ20 76 v21.toNatClampNeg 8) fun σ23 =>
wc_st (σ23 71 1) fun v24 =>
wc_gd (wc_in v24 9) (
wc_st (wc_u σ23 77 v24.toNatClampNeg (-1)) fun σ26 =>
wc_st (σ26 71 1) fun v27 =>
wc_st (v27 + 1) fun v28 =>
wc_st (wc_u σ26 71 1 v28) fun σ29 =>
wc_b1 (wf_M_gone σ29) fun σ30 =>
wc_st (σ30 71 1) fun v31 =>
wc_st (v31 - 1) fun v32 =>
some (v32, σ30))))))))
def wf_M_coil_49 (x1 : Int32) (x2 : Int32) (x3 : Int32) (x4 : Int32) (s1 : Int32) (σ : wc_S) : Option (Int32 × wc_S) :=
wc_st (σ 71 1) fun v4 =>
if 9 ≤ v4 then (
wf_M_coil_63 x1 x2 x3 x4 s1 0 σ) else (
wf_M_coil_63 x1 x2 x3 x4 s1 1 σ)
def wf_M_coil_48 (x1 : Int32) (x2 : Int32) (x3 : Int32) (x4 : Int32) (σ : wc_S) : Option (Int32 × wc_S) :=
wf_M_coil_49 x1 x2 x3 x4 0 σ
def wf_M_coil (a1 : Int32) (a2 : Int32) (a3 : Int32) (a4 : Int32) (σ : wc_S) : Option (Int32 × wc_S) :=
wc_b2 (wf_M_in a1 1 2000 σ) fun r2 σ1 =>
if r2 = 0 then (
wf_M_coil_48 a1 a2 a3 a4 σ1) else (
wc_b2 (wf_M_in a2 1 1000 σ1) fun r34 σ33 =>
if r34 = 0 then (
wf_M_coil_48 a1 a2 a3 a4 σ33) else (
wc_b2 (wf_M_in a3 0 9 σ33) fun r37 σ36 =>
if r37 = 0 then (
wf_M_coil_48 a1 a2 a3 a4 σ36) else (
wc_b2 (wf_M_in a4 1 100 σ36) fun r40 σ39 =>
if r40 = 0 then (
wf_M_coil_48 a1 a2 a3 a4 σ39) else (
wf_M_coil_49 a1 a2 a3 a4 1 σ39))))
def wf_M_table_71 (x1 : Int32) (x2 : Int32) (x3 : Int32) (x4 : Int32) (s1 : Int32) (s2 : Int32) (s3 : Int32) (σ : wc_S) : Option (Int32 × wc_S) :=
wc_b2 (wf_M_goes s1 s2 s3 σ) fun r8 σ7 =>
if r8 = 0 then (
some (0, σ7)) else (
wc_st ((8 : Int32) * x1) fun v10 =>
wc_gd (wc_in x1 2) (
wc_st (σ7 78 x1.toNatClampNeg) fun v12 =>
wc_st (v10 + v12) fun v13 =>
wc_gd (wc_in v13 16) (
wc_st (wc_u σ7 79 v13.toNatClampNeg x2) fun σ15 =>
wc_gd (wc_in v13 16) (
wc_st (wc_u σ15 80 v13.toNatClampNeg x3) fun σ17 =>
wc_gd (wc_in v13 16) (
wc_st (wc_u σ17 81 v13.toNatClampNeg x4) fun σ19 =>
wc_gd (wc_in x1 2) (
wc_st (σ19 78 x1.toNatClampNeg) fun v21 =>
wc_st (v21 + 1) fun v22 =>
wc_gd (wc_in x1 2) (
wc_st (wc_u σ19 78 x1.toNatClampNeg v22) fun σ24 =>
wc_b1 (wf_M_gone σ24) fun σ25 =>
wc_gd (wc_in x1 2) (
wc_st (σ25 78 x1.toNatClampNeg) fun v27 =>
some (v27, σ25)))))))))
def wf_M_table_70 (x1 : Int32) (x2 : Int32) (x3 : Int32) (x4 : Int32) (s1 : Int32) (s2 : Int32) (σ : wc_S) : Option (Int32 × wc_S) :=
wf_M_table_71 x1 x2 x3 x4 s1 s2 0 σ
def wf_M_table_50 (x1 : Int32) (x2 : Int32) (x3 : Int32) (x4 : Int32) (x5 : Int32) (s1 : Int32) (s2 : Int32) (σ : wc_S) : Option (Int32 × wc_S) :=
if x5 = 0 then (
wf_M_table_70 x1 x2 x3 x4 s1 s2 σ) else (
wc_gd (wc_in x1 2) (
wc_st (σ 78 x1.toNatClampNeg) fun v29 =>
if 8 ≤ v29 then (
wf_M_table_70 x1 x2 x3 x4 s1 s2 σ) else (
wf_M_table_71 x1 x2 x3 x4 s1 s2 1 σ)))
def wf_M_table_49 (x1 : Int32) (x2 : Int32) (x3 : Int32) (x4 : Int32) (x5 : Int32) (s1 : Int32) (σ : wc_S) : Option (Int32 × wc_S) :=
wf_M_table_50 x1 x2 x3 x4 x5 s1 0 σ
def wf_M_table (a1 : Int32) (a2 : Int32) (a3 : Int32) (a4 : Int32) (σ : wc_S) : Option (Int32 × wc_S) :=
wc_b2 (wf_M_in a1 0 1 σ) fun r2 σ1 =>
wc_b2 (wf_M_in a2 0 1000 σ1) fun r4 σ3 =>
if r4 = 0 then (
wf_M_table_49 a1 a2 a3 a4 r2 r2 σ3) else (
wc_b2 (wf_M_in a3 a2 1000 σ3) fun r32 σ31 =>
if r32 = 0 then (
wf_M_table_49 a1 a2 a3 a4 r2 r2 σ31) else (
wc_b2 (wf_M_in a4 0 10000 σ31) fun r35 σ34 =>
if r35 = 0 then (
wf_M_table_49 a1 a2 a3 a4 r2 r2 σ34) else (
wf_M_table_50 a1 a2 a3 a4 r2 r2 1 σ34)))
def wf_M_group_52 (x1 : Int32) (x2 : Int32) (x3 : Int32) (s1 : Int32) (s2 : Int32) (σ : wc_S) : Option (Int32 × wc_S) :=
wc_b2 (wf_M_goes s1 s2 1 σ) fun r7 σ6 =>
if r7 = 0 then (
some (0, σ6)) else (
wc_st (σ6 71 12) fun v9 =>
wc_gd (wc_in v9 4) (
wc_st (wc_u σ6 82 v9.toNatClampNeg x1) fun σ11 =>
wc_st (σ11 71 12) fun v12 =>
wc_gd (wc_in v12 4) (
wc_st (wc_u σ11 83 v12.toNatClampNeg x2) fun σ14 =>
wc_st (σ14 71 12) fun v15 =>
wc_gd (wc_in v15 4) (
wc_st (wc_u σ14 84 v15.toNatClampNeg x3) fun σ17 =>
wc_st (σ17 71 12) fun v18 =>
wc_st (v18 + 1) fun v19 =>
wc_st (wc_u σ17 71 12 v19) fun σ20 =>
wc_b1 (wf_M_gone σ20) fun σ21 =>
wc_st (σ21 71 12) fun v22 =>
some (v22, σ21)))))
def wf_M_group_39 (x1 : Int32) (x2 : Int32) (x3 : Int32) (s1 : Int32) (σ : wc_S) : Option (Int32 × wc_S) :=
wc_st (σ 71 12) fun v4 =>
if 4 ≤ v4 then (
wf_M_group_52 x1 x2 x3 s1 0 σ) else (
wf_M_group_52 x1 x2 x3 s1 1 σ)
def wf_M_group_38 (x1 : Int32) (x2 : Int32) (x3 : Int32) (σ : wc_S) : Option (Int32 × wc_S) :=
wf_M_group_39 x1 x2 x3 0 σ
def wf_M_group (a1 : Int32) (a2 : Int32) (a3 : Int32) (σ : wc_S) : Option (Int32 × wc_S) :=
wc_b2 (wf_M_in a1 1 2000 σ) fun r2 σ1 =>
if r2 = 0 then (
wf_M_group_38 a1 a2 a3 σ1) else (
wc_b2 (wf_M_in a2 a1 2000 σ1) fun r24 σ23 =>
if r24 = 0 then (
wf_M_group_38 a1 a2 a3 σ23) else (
wc_b2 (wf_M_in a3 1 1000 σ23) fun r27 σ26 =>
if r27 = 0 then (
wf_M_group_38 a1 a2 a3 σ26) else (
wf_M_group_39 a1 a2 a3 1 σ26)))
def wf_M_urgent (a1 : Int32) (a2 : Int32) (σ : wc_S) : Option wc_S :=
wc_b2 (wf_M_isCoil a1 σ) fun r2 σ1 =>
wc_b2 (wf_M_in a2 0 8 σ1) fun r4 σ3 =>
wc_b2 (wf_M_goes r2 r4 1 σ3) fun r6 σ5 =>
if r6 = 0 then (
some σ5) else (
wc_gd (wc_in a1 9) (
wc_st (wc_u σ5 76 a1.toNatClampNeg a2) fun σ9 =>
wc_b1 (wf_M_gone σ9) fun σ10 =>
some σ10))
def wf_M_old (a1 : Int32) (a2 : Int32) (σ : wc_S) : Option wc_S :=
wc_b2 (wf_M_isCoil a1 σ) fun r2 σ1 =>
wc_b2 (wf_M_in a2 (-1) 8 σ1) fun r4 σ3 =>
wc_b2 (wf_M_goes r2 r4 1 σ3) fun r6 σ5 =>
if r6 = 0 then (
some σ5) else (
wc_gd (wc_in a1 9) (
wc_st (wc_u σ5 77 a1.toNatClampNeg a2) fun σ9 =>
wc_b1 (wf_M_gone σ9) fun σ10 =>
some σ10))
def wf_M_rules_50 (x1 : Int32) (x2 : Int32) (x3 : Int32) (x4 : Int32) (s1 : Int32) (σ : wc_S) : Option wc_S :=
wc_b2 (wf_M_goes s1 1 1 σ) fun r5 σ4 =>
if r5 = 0 then (
some σ4) else (
wc_st (wc_u σ4 71 16 x1) fun σ7 =>
wc_st (wc_u σ7 71 17 x2) fun σ8 =>
wc_st (wc_u σ8 71 18 x3) fun σ9 =>
wc_st (wc_u σ9 71 19 x4) fun σ10 =>
wc_b1 (wf_M_gone σ10) fun σ11 =>
some σ11)
def wf_M_rules_49 (x1 : Int32) (x2 : Int32) (x3 : Int32) (x4 : Int32) (σ : wc_S) : Option wc_S :=
wf_M_rules_50 x1 x2 x3 x4 0 σ
def wf_M_rules (a1 : Int32) (a2 : Int32) (a3 : Int32) (a4 : Int32) (σ : wc_S) : Option wc_S :=
wc_b2 (wf_M_in a1 0 9 σ) fun r2 σ1 =>
if r2 = 0 then (
wf_M_rules_49 a1 a2 a3 a4 σ1) else (
wc_b2 (wf_M_in a2 1 1000 σ1) fun r13 σ12 =>
if r13 = 0 then (
wf_M_rules_49 a1 a2 a3 a4 σ12) else (
wc_b2 (wf_M_in a3 0 10000 σ12) fun r16 σ15 =>
if r16 = 0 then (
wf_M_rules_49 a1 a2 a3 a4 σ15) else (
wc_b2 (wf_M_in a4 0 10000 σ15) fun r19 σ18 =>
if r19 = 0 then (
wf_M_rules_49 a1 a2 a3 a4 σ18) else (
wf_M_rules_50 a1 a2 a3 a4 1 σ18))))
def wf_M_costOf_63 (k17 : Int32 → Int32 → Int32 → wc_S → Option (Int32 × wc_S)) (x1 : Int32) (x3 : Int32) (x4 : Int32) (σ : wc_S) : Option (Int32 × wc_S) :=
wc_st (x4 + 1) fun v14 =>
k17 x1 x3 v14 σ
def wf_M_costOf_17_b (k17 : Int32 → Int32 → Int32 → wc_S → Option (Int32 × wc_S)) (x1 : Int32) (x3 : Int32) (x4 : Int32) (σ : wc_S) : Option (Int32 × wc_S) :=
wc_st ((8 : Int32) * x1) fun v3 =>
wc_gd (wc_in x1 2) (
wc_st (σ 78 x1.toNatClampNeg) fun v5 =>
wc_st (v3 + v5) fun v6 =>
if v6 ≤ x4 then (
wc_gd (wc_in x1 2) (
wc_st (σ 78 x1.toNatClampNeg) fun v9 =>
if v9 = 0 then (
some (0, σ)) else (
some ((-1), σ)))) else (
wc_gd (wc_in x4 16) (
wc_st (σ 79 x4.toNatClampNeg) fun v12 =>
if x3 < v12 then (
wf_M_costOf_63 k17 x1 x3 x4 σ) else (
wc_gd (wc_in x4 16) (
wc_st (σ 80 x4.toNatClampNeg) fun v16 =>
if v16 < x3 then (
wf_M_costOf_63 k17 x1 x3 x4 σ) else (
wc_gd (wc_in x4 16) (
wc_st (σ 81 x4.toNatClampNeg) fun v19 =>
some (v19, σ))))))))
def wf_M_costOf_17 (n : Nat) : Int32 → Int32 → Int32 → wc_S → Option (Int32 × wc_S) := match n with
  | 0 => fun _ _ _ _ => none
  | n + 1 => wf_M_costOf_17_b  (wf_M_costOf_17  n)
def wf_M_costOf_10 (x1 : Int32) (s0 : Int32) (σ : wc_S) : Option (Int32 × wc_S) :=
wc_st ((8 : Int32) * x1) fun v2 =>
wf_M_costOf_17 16 x1 s0 v2 σ
def wf_M_costOf (a1 : Int32) (a2 : Int32) (σ : wc_S) : Option (Int32 × wc_S) :=
if 0 ≤ a2 then (
wf_M_costOf_10 a1 a2 σ) else (
wc_st (-a2) fun v20 =>
wf_M_costOf_10 a1 v20 σ)
def wf_M_jumpOf (a1 : Int32) (a2 : Int32) (σ : wc_S) : Option (Int32 × wc_S) :=
wc_gd (wc_in a2 9) (
wc_st (σ 74 a2.toNatClampNeg) fun v2 =>
wc_gd (wc_in a1 9) (
wc_st (σ 74 a1.toNatClampNeg) fun v4 =>
wc_st (v2 - v4) fun v5 =>
wc_b2 (wf_M_costOf 0 v5 σ) fun r7 σ6 =>
wc_gd (wc_in a2 9) (
wc_st (σ6 73 a2.toNatClampNeg) fun v9 =>
wc_gd (wc_in a1 9) (
wc_st (σ6 73 a1.toNatClampNeg) fun v11 =>
wc_st (v9 - v11) fun v12 =>
wc_b2 (wf_M_costOf 1 v12 σ6) fun r14 σ13 =>
if r7 < 0 then (
some ((-1), σ13)) else (
if 0 ≤ r14 then (
wc_st (r7 + r14) fun v17 =>
some (v17, σ13)) else (
some ((-1), σ13)))))))
def wf_M_mayBe (k1 : Nat) (a2 : Int32) (σ : wc_S) : Option (Int32 × wc_S) :=
wc_gd (wc_in a2 9) (
wc_st (σ k1 a2.toNatClampNeg) fun v2 =>
wc_gd (wc_in v2 9) (
wc_st (σ 76 v2.toNatClampNeg) fun v4 =>
if a2 ≤ v4 then (
if a2 = 0 then (
some (1, σ)) else (
wc_st (a2 - 1) fun v7 =>
wc_gd (wc_in v7 9) (
wc_st (σ k1 v7.toNatClampNeg) fun v9 =>
wc_b2 (wf_M_jumpOf v9 v2 σ) fun r11 σ10 =>
if 0 ≤ r11 then (
wc_st (σ10 71 16) fun v13 =>
if v13 ≤ a2 then (
wc_gd (wc_in v2 9) (
wc_st (σ10 72 v2.toNatClampNeg) fun v16 =>
wc_gd (wc_in v9 9) (
wc_st (σ10 72 v9.toNatClampNeg) fun v18 =>
if v18 < v16 then (
some (0, σ10)) else (
some (1, σ10))))) else (
wc_gd (wc_in v2 9) (
wc_st (σ10 72 v2.toNatClampNeg) fun v21 =>
wc_gd (wc_in v9 9) (
wc_st (σ10 72 v9.toNatClampNeg) fun v23 =>
if v21 < v23 then (
some (0, σ10)) else (
some (1, σ10)))))) else (
some (0, σ10))))) else (
some (0, σ))))
def wf_M_isWorn_187 (k1 : Nat) (k46 : Int32 → Int32 → Int32 → wc_S → Option (Int32 × wc_S)) (x2 : Int32) (x3 : Int32) (x5 : Int32) (σ : wc_S) : Option (Int32 × wc_S) :=
wc_st (x5 + 1) fun v15 =>
k46 x2 x3 v15 σ
def wf_M_isWorn_162 (k1 : Nat) (k46 : Int32 → Int32 → Int32 → wc_S → Option (Int32 × wc_S)) (k104 : Int32 → Int32 → Int32 → Int32 → Int32 → Int32 → wc_S → Option (Int32 × wc_S)) (x2 : Int32) (x3 : Int32) (x5 : Int32) (x6 : Int32) (x7 : Int32) (x8 : Int32) (σ : wc_S) : Option (Int32 × wc_S) :=
wc_st (x8 + 1) fun v26 =>
k104 x2 x3 x5 x6 x7 v26 σ
def wf_M_isWorn_104_b (k1 : Nat) (k46 : Int32 → Int32 → Int32 → wc_S → Option (Int32 × wc_S)) (k104 : Int32 → Int32 → Int32 → Int32 → Int32 → Int32 → wc_S → Option (Int32 × wc_S)) (x2 : Int32) (x3 : Int32) (x5 : Int32) (x6 : Int32) (x7 : Int32) (x8 : Int32) (σ : wc_S) : Option (Int32 × wc_S) :=
if x3 < x8 then (
if x6 = 0 then (
wf_M_isWorn_187 k1 k46 x2 x3 x5 σ) else (
wc_gd (wc_in x5 4) (
wc_st (σ 84 x5.toNatClampNeg) fun v17 =>
if x7 ≤ v17 then (
wf_M_isWorn_187 k1 k46 x2 x3 x5 σ) else (
some (1, σ))))) else (
wc_gd (wc_in x8 9) (
wc_st (σ k1 x8.toNatClampNeg) fun v20 =>
wc_gd (wc_in v20 9) (
wc_st (σ 72 v20.toNatClampNeg) fun v22 =>
wc_gd (wc_in x5 4) (
wc_st (σ 82 x5.toNatClampNeg) fun v24 =>
if v22 < v24 then (
wf_M_isWorn_162 k1 k46 k104 x2 x3 x5 x6 x7 x8 σ) else (
wc_gd (wc_in x8 9) (
wc_st (σ k1 x8.toNatClampNeg) fun v28 =>
wc_gd (wc_in v28 9) (
wc_st (σ 72 v28.toNatClampNeg) fun v30 =>
wc_gd (wc_in x5 4) (
wc_st (σ 83 x5.toNatClampNeg) fun v32 =>
if v32 < v30 then (
wf_M_isWorn_162 k1 k46 k104 x2 x3 x5 x6 x7 x8 σ) else (
wc_gd (wc_in x8 9) (
wc_st (σ k1 x8.toNatClampNeg) fun v35 =>
wc_gd (wc_in v35 9) (
wc_st (σ 75 v35.toNatClampNeg) fun v37 =>
wc_st (x7 + v37) fun v38 =>
wf_M_isWorn_162 k1 k46 k104 x2 x3 x5 x6 v38 x8 σ)))))))))))
def wf_M_isWorn_104 (k1 : Nat) (k46 : Int32 → Int32 → Int32 → wc_S → Option (Int32 × wc_S)) (n : Nat) : Int32 → Int32 → Int32 → Int32 → Int32 → Int32 → wc_S → Option (Int32 × wc_S) := match n with
  | 0 => fun _ _ _ _ _ _ _ => none
  | n + 1 => wf_M_isWorn_104_b k1 k46 (wf_M_isWorn_104 k1 k46 n)
def wf_M_isWorn_96 (k1 : Nat) (k46 : Int32 → Int32 → Int32 → wc_S → Option (Int32 × wc_S)) (x2 : Int32) (x3 : Int32) (x5 : Int32) (s0 : Int32) (σ : wc_S) : Option (Int32 × wc_S) :=
wf_M_isWorn_104 k1 k46 16 x2 x3 x5 s0 0 x2 σ
def wf_M_isWorn_95 (k1 : Nat) (k46 : Int32 → Int32 → Int32 → wc_S → Option (Int32 × wc_S)) (x2 : Int32) (x3 : Int32) (x5 : Int32) (σ : wc_S) : Option (Int32 × wc_S) :=
wf_M_isWorn_96 k1 k46 x2 x3 x5 0 σ
def wf_M_isWorn_46_b (k1 : Nat) (k46 : Int32 → Int32 → Int32 → wc_S → Option (Int32 × wc_S)) (x2 : Int32) (x3 : Int32) (x5 : Int32) (σ : wc_S) : Option (Int32 × wc_S) :=
wc_st (σ 71 12) fun v4 =>
if v4 ≤ x5 then (
some (0, σ)) else (
wc_gd (wc_in x3 9) (
wc_st (σ k1 x3.toNatClampNeg) fun v7 =>
wc_gd (wc_in v7 9) (
wc_st (σ 72 v7.toNatClampNeg) fun v9 =>
wc_gd (wc_in x5 4) (
wc_st (σ 82 x5.toNatClampNeg) fun v11 =>
if v9 < v11 then (
wf_M_isWorn_95 k1 k46 x2 x3 x5 σ) else (
wc_gd (wc_in x3 9) (
wc_st (σ k1 x3.toNatClampNeg) fun v40 =>
wc_gd (wc_in v40 9) (
wc_st (σ 72 v40.toNatClampNeg) fun v42 =>
wc_gd (wc_in x5 4) (
wc_st (σ 83 x5.toNatClampNeg) fun v44 =>
if v44 < v42 then (
wf_M_isWorn_95 k1 k46 x2 x3 x5 σ) else (
wf_M_isWorn_96 k1 k46 x2 x3 x5 1 σ)))))))))
def wf_M_isWorn_46 (k1 : Nat) (n : Nat) : Int32 → Int32 → Int32 → wc_S → Option (Int32 × wc_S) := match n with
  | 0 => fun _ _ _ _ => none
  | n + 1 => wf_M_isWorn_46_b k1 (wf_M_isWorn_46 k1 n)
def wf_M_isWorn_6_b (k1 : Nat) (k6 : Int32 → Int32 → Int32 → Int32 → wc_S → Option (Int32 × wc_S)) (x2 : Int32) (x3 : Int32) (x4 : Int32) (x5 : Int32) (σ : wc_S) : Option (Int32 × wc_S) :=
if x3 < x5 then (
wc_st (σ 71 17) fun v2 =>
if x4 ≤ v2 then (
wf_M_isWorn_46 k1 16 x2 x3 0 σ) else (
some (1, σ))) else (
wc_gd (wc_in x5 9) (
wc_st (σ k1 x5.toNatClampNeg) fun v47 =>
wc_gd (wc_in v47 9) (
wc_st (σ 75 v47.toNatClampNeg) fun v49 =>
wc_st (x4 + v49) fun v50 =>
wc_st (x5 + 1) fun v51 =>
k6 x2 x3 v50 v51 σ)))
def wf_M_isWorn_6 (k1 : Nat) (n : Nat) : Int32 → Int32 → Int32 → Int32 → wc_S → Option (Int32 × wc_S) := match n with
  | 0 => fun _ _ _ _ _ => none
  | n + 1 => wf_M_isWorn_6_b k1 (wf_M_isWorn_6 k1 n)
def wf_M_isWorn (k1 : Nat) (a2 : Int32) (a3 : Int32) (σ : wc_S) : Option (Int32 × wc_S) :=
wf_M_isWorn_6 k1 16 a2 a3 0 a2 σ
def wf_M_reckon_167 (k1 : Nat) (k20 : Int32 → Int32 → Int32 → wc_S → Option wc_S) (x2 : Int32) (x3 : Int32) (x4 : Int32) (σ : wc_S) : Option wc_S :=
wc_st (x4 + 1) fun v17 =>
k20 x2 x3 v17 σ
def wf_M_reckon_118 (k1 : Nat) (k20 : Int32 → Int32 → Int32 → wc_S → Option wc_S) (x2 : Int32) (x3 : Int32) (x4 : Int32) (σ : wc_S) : Option wc_S :=
wc_gd (wc_in x4 9) (
wc_st (σ k1 x4.toNatClampNeg) fun v13 =>
wc_gd (wc_in v13 9) (
wc_st (σ 77 v13.toNatClampNeg) fun v15 =>
if v15 < 0 then (
wf_M_reckon_167 k1 k20 x2 x3 x4 σ) else (
wc_gd (wc_in x4 9) (
wc_st (σ k1 x4.toNatClampNeg) fun v19 =>
wc_gd (wc_in v19 9) (
wc_st (σ 77 v19.toNatClampNeg) fun v21 =>
if v21 = x4 then (
wf_M_reckon_167 k1 k20 x2 x3 x4 σ) else (
wc_st (σ 71 27) fun v23 =>
wc_st (v23 + 1) fun v24 =>
wc_st (wc_u σ 71 27 v24) fun σ25 =>
wc_st (σ25 71 25) fun v26 =>
wc_st (σ25 71 19) fun v27 =>
wc_st (v26 + v27) fun v28 =>
wc_st (wc_u σ25 71 25 v28) fun σ29 =>
wf_M_reckon_167 k1 k20 x2 x3 x4 σ29))))))
def wf_M_reckon_90 (k1 : Nat) (k20 : Int32 → Int32 → Int32 → wc_S → Option wc_S) (x2 : Int32) (x3 : Int32) (x4 : Int32) (σ : wc_S) : Option wc_S :=
if x4 ≤ 0 then (
wf_M_reckon_118 k1 k20 x2 x3 x4 σ) else (
wc_st (σ 71 25) fun v30 =>
wc_st (x4 - 1) fun v31 =>
wc_gd (wc_in v31 9) (
wc_st (σ k1 v31.toNatClampNeg) fun v33 =>
wc_gd (wc_in x4 9) (
wc_st (σ k1 x4.toNatClampNeg) fun v35 =>
wc_b2 (wf_M_jumpOf v33 v35 σ) fun r37 σ36 =>
wc_st (v30 + r37) fun v38 =>
wc_st (wc_u σ36 71 25 v38) fun σ39 =>
wf_M_reckon_118 k1 k20 x2 x3 x4 σ39)))
def wf_M_reckon_53 (k1 : Nat) (k20 : Int32 → Int32 → Int32 → wc_S → Option wc_S) (x2 : Int32) (x3 : Int32) (x4 : Int32) (s1 : Int32) (s2 : Int32) (σ : wc_S) : Option wc_S :=
wc_gd (wc_in s1 9) (
wc_st (wc_u σ 87 s1.toNatClampNeg (vp_nar .boolean s2)) fun σ7 =>
wc_gd (wc_in x4 9) (
wc_st (σ7 87 x4.toNatClampNeg) fun v9 =>
if v9 = 0 then (
wf_M_reckon_90 k1 k20 x2 x3 x4 σ7) else (
wc_st (σ7 71 26) fun v40 =>
wc_st (v40 + 1) fun v41 =>
wc_st (wc_u σ7 71 26 v41) fun σ42 =>
wc_st (σ42 71 25) fun v43 =>
wc_st (σ42 71 18) fun v44 =>
wc_st (v43 + v44) fun v45 =>
wc_st (wc_u σ42 71 25 v45) fun σ46 =>
wf_M_reckon_90 k1 k20 x2 x4 x4 σ46)))
def wf_M_reckon_52 (k1 : Nat) (k20 : Int32 → Int32 → Int32 → wc_S → Option wc_S) (x2 : Int32) (x3 : Int32) (x4 : Int32) (s1 : Int32) (σ : wc_S) : Option wc_S :=
wf_M_reckon_53 k1 k20 x2 x3 x4 s1 0 σ
def wf_M_reckon_20_b (k1 : Nat) (k20 : Int32 → Int32 → Int32 → wc_S → Option wc_S) (x2 : Int32) (x3 : Int32) (x4 : Int32) (σ : wc_S) : Option wc_S :=
if x2 ≤ x4 then (
some σ) else (
if x4 ≤ 0 then (
wf_M_reckon_52 k1 k20 x2 x3 x4 x4 σ) else (
wc_b2 (wf_M_isWorn k1 x3 x4 σ) fun r48 σ47 =>
if r48 = 0 then (
wf_M_reckon_52 k1 k20 x2 x3 x4 x4 σ47) else (
wf_M_reckon_53 k1 k20 x2 x3 x4 x4 1 σ47)))
def wf_M_reckon_20 (k1 : Nat) (n : Nat) : Int32 → Int32 → Int32 → wc_S → Option wc_S := match n with
  | 0 => fun _ _ _ _ => none
  | n + 1 => wf_M_reckon_20_b k1 (wf_M_reckon_20 k1 n)
def wf_M_reckon (k1 : Nat) (a2 : Int32) (σ : wc_S) : Option wc_S :=
wc_st (wc_u σ 71 25 0) fun σ1 =>
wc_st (wc_u σ1 71 26 0) fun σ2 =>
wc_st (wc_u σ2 71 27 0) fun σ3 =>
wf_M_reckon_20 k1 16 a2 0 0 σ3
def wf_M_stands_2_b (k2 : Int32 → Int32 → Int32 → wc_S → Option (Int32 × wc_S)) (x1 : Int32) (x2 : Int32) (x3 : Int32) (σ : wc_S) : Option (Int32 × wc_S) :=
if x2 ≤ x3 then (
some (0, σ)) else (
wc_gd (wc_in x3 9) (
wc_st (σ 86 x3.toNatClampNeg) fun v3 =>
if v3 = x1 then (
some (1, σ)) else (
wc_st (x3 + 1) fun v5 =>
k2 x1 x2 v5 σ)))
def wf_M_stands_2 (n : Nat) : Int32 → Int32 → Int32 → wc_S → Option (Int32 × wc_S) := match n with
  | 0 => fun _ _ _ _ => none
  | n + 1 => wf_M_stands_2_b  (wf_M_stands_2  n)
def wf_M_stands (a1 : Int32) (a2 : Int32) (σ : wc_S) : Option (Int32 × wc_S) :=
wf_M_stands_2 16 a1 a2 0 σ
def wf_M_run_291 (σ : wc_S) : Option (Int32 × wc_S) :=
wc_st (σ 71 22) fun v14 =>
if v14 = 0 then (
some ((-1), σ)) else (
wc_st (σ 71 1) fun v16 =>
some (v16, σ))
def wf_M_run_89 (k61 : Int32 → Int32 → Int32 → wc_S → Option (Int32 × wc_S)) (x2 : Int32) (x3 : Int32) (x4 : Int32) (σ : wc_S) : Option (Int32 × wc_S) :=
wc_st (x4 + (-1)) fun v19 =>
if v19 < 0 then (
k61 x2 x3 v19 σ) else (
wc_gd (wc_in v19 9) (
wc_st (σ 86 v19.toNatClampNeg) fun v22 =>
wc_st (v22 + 1) fun v23 =>
wc_gd (wc_in v19 9) (
wc_st (wc_u σ 86 v19.toNatClampNeg v23) fun σ25 =>
k61 x2 x3 v19 σ25)))
def wf_M_run_140 (k61 : Int32 → Int32 → Int32 → wc_S → Option (Int32 × wc_S)) (x2 : Int32) (x3 : Int32) (x4 : Int32) (σ : wc_S) : Option (Int32 × wc_S) :=
wc_gd (wc_in x4 9) (
wc_st (σ 86 x4.toNatClampNeg) fun v36 =>
wc_st (v36 + 1) fun v37 =>
wc_gd (wc_in x4 9) (
wc_st (wc_u σ 86 x4.toNatClampNeg v37) fun σ39 =>
k61 x2 x3 x4 σ39))
def wf_M_run_234_b (k61 : Int32 → Int32 → Int32 → wc_S → Option (Int32 × wc_S)) (k234 : Int32 → Int32 → Int32 → Int32 → wc_S → Option (Int32 × wc_S)) (x2 : Int32) (x3 : Int32) (x4 : Int32) (x5 : Int32) (σ : wc_S) : Option (Int32 × wc_S) :=
wc_st (σ 71 1) fun v57 =>
if v57 ≤ x5 then (
wc_gd (wc_in x4 9) (
wc_st (σ 86 x4.toNatClampNeg) fun v60 =>
wc_st (v60 + 1) fun v61 =>
wc_gd (wc_in x4 9) (
wc_st (wc_u σ 86 x4.toNatClampNeg v61) fun σ63 =>
k61 x2 x3 x4 σ63))) else (
wc_gd (wc_in x5 9) (
wc_st (σ 86 x5.toNatClampNeg) fun v65 =>
wc_gd (wc_in x5 9) (
wc_st (wc_u σ 85 x5.toNatClampNeg v65) fun σ67 =>
wc_st (x5 + 1) fun v68 =>
k234 x2 x3 x4 v68 σ67)))
def wf_M_run_234 (k61 : Int32 → Int32 → Int32 → wc_S → Option (Int32 × wc_S)) (n : Nat) : Int32 → Int32 → Int32 → Int32 → wc_S → Option (Int32 × wc_S) := match n with
  | 0 => fun _ _ _ _ _ => none
  | n + 1 => wf_M_run_234_b k61 (wf_M_run_234 k61 n)
def wf_M_run_210 (k61 : Int32 → Int32 → Int32 → wc_S → Option (Int32 × wc_S)) (x2 : Int32) (x3 : Int32) (x4 : Int32) (σ : wc_S) : Option (Int32 × wc_S) :=
wc_st (σ 71 1) fun v49 =>
wc_st (v49 - 1) fun v50 =>
if x4 = v50 then (
wc_st (wc_u σ 71 22 1) fun σ55 =>
wc_st (σ55 71 25) fun v56 =>
wf_M_run_234 k61 16 v56 x3 x4 0 σ55) else (
wc_st (x4 + 1) fun v52 =>
wc_gd (wc_in v52 9) (
wc_st (wc_u σ 86 v52.toNatClampNeg 0) fun σ54 =>
k61 x2 x3 v52 σ54))
def wf_M_run_61_b (k61 : Int32 → Int32 → Int32 → wc_S → Option (Int32 × wc_S)) (x2 : Int32) (x3 : Int32) (x4 : Int32) (σ : wc_S) : Option (Int32 × wc_S) :=
if x4 < 0 then (
wf_M_run_291  σ) else (
wc_st (σ 71 1) fun v17 =>
if x4 = v17 then (
wf_M_run_89 k61 x2 x3 x4 σ) else (
wc_gd (wc_in x4 9) (
wc_st (σ 86 x4.toNatClampNeg) fun v27 =>
wc_st (σ 71 1) fun v28 =>
if v27 = v28 then (
wf_M_run_89 k61 x2 x3 x4 σ) else (
wc_gd (wc_in x4 9) (
wc_st (σ 86 x4.toNatClampNeg) fun v31 =>
wc_b2 (wf_M_stands v31 x4 σ) fun r33 σ32 =>
if r33 = 0 then (
wc_b2 (wf_M_mayBe 86 x4 σ32) fun r41 σ40 =>
if r41 = 0 then (
wf_M_run_140 k61 x2 x3 x4 σ40) else (
if x3 = 0 then (
wc_st (wc_u σ40 71 21 0) fun σ76 =>
wf_M_run_291  σ76) else (
wc_st (x3 + (-1)) fun v44 =>
wc_st (x4 + 1) fun v45 =>
wc_b1 (wf_M_reckon 86 v45 σ40) fun σ46 =>
wc_st (σ46 71 22) fun v47 =>
if v47 = 0 then (
wf_M_run_210 k61 x2 v44 x4 σ46) else (
wc_st (σ46 71 25) fun v69 =>
if v69 < x2 then (
wf_M_run_210 k61 x2 v44 x4 σ46) else (
wc_gd (wc_in x4 9) (
wc_st (σ46 86 x4.toNatClampNeg) fun v72 =>
wc_st (v72 + 1) fun v73 =>
wc_gd (wc_in x4 9) (
wc_st (wc_u σ46 86 x4.toNatClampNeg v73) fun σ75 =>
k61 x2 v44 x4 σ75))))))) else (
wf_M_run_140 k61 x2 x3 x4 σ32))))))
def wf_M_run_61 (n : Nat) : Int32 → Int32 → Int32 → wc_S → Option (Int32 × wc_S) := match n with
  | 0 => fun _ _ _ _ => none
  | n + 1 => wf_M_run_61_b  (wf_M_run_61  n)
def wf_M_run (a1 : Int32) (σ : wc_S) : Option (Int32 × wc_S) :=
wc_b2 (wf_M_in a1 0 100000 σ) fun r2 σ1 =>
wc_b2 (wf_M_goes r2 1 1 σ1) fun r4 σ3 =>
if r4 = 0 then (
some (0, σ3)) else (
wc_st (wc_u σ3 71 20 1) fun σ6 =>
wc_st (wc_u σ6 71 22 0) fun σ7 =>
wc_st (wc_u σ7 71 21 1) fun σ8 =>
wc_gd (wc_in 0 9) (
wc_st (wc_u σ8 86 ((0 : Int32).toNatClampNeg) 0) fun σ10 =>
wc_st (σ10 71 1) fun v11 =>
if v11 = 0 then (
wc_st (wc_u σ10 71 22 1) fun σ77 =>
some (0, σ77)) else (
wf_M_run_61 wc_big 0 a1 0 σ10)))
def wf_M_proved (σ : wc_S) : Option (Int32 × wc_S) :=
wc_st (σ 71 20) fun v1 =>
wc_b2 (wf_M_goes v1 1 1 σ) fun r3 σ2 =>
if r3 = 0 then (
some (0, σ2)) else (
wc_st (σ2 71 21) fun v5 =>
if v5 = 0 then (
some (0, σ2)) else (
some (1, σ2)))
def wf_M_order_31 (x1 : Int32) (s1 : Int32) (σ : wc_S) : Option (Int32 × wc_S) :=
wc_st (wc_u σ 71 0 s1) fun σ8 =>
wc_st (σ8 71 0) fun v9 =>
if v9 ≤ 0 then (
wc_gd (wc_in x1 9) (
wc_st (σ8 85 x1.toNatClampNeg) fun v12 =>
some (v12, σ8))) else (
some (0, σ8))
def wf_M_order (a1 : Int32) (σ : wc_S) : Option (Int32 × wc_S) :=
wc_st (σ 71 22) fun v1 =>
if v1 = 0 then (
wf_M_order_31 a1 2 σ) else (
wc_st (σ 71 1) fun v3 =>
wc_st (v3 - 1) fun v4 =>
wc_b2 (wf_M_in a1 0 v4 σ) fun r6 σ5 =>
if r6 = 0 then (
wf_M_order_31 a1 1 σ5) else (
wf_M_order_31 a1 0 σ5))
def wf_M_told (a1 : Int32) (σ : wc_S) : Option (Int32 × wc_S) :=
wc_b2 (wf_M_in a1 0 2 σ) fun r2 σ1 =>
wc_st (σ1 71 22) fun v3 =>
wc_b2 (wf_M_goes r2 v3 1 σ1) fun r5 σ4 =>
if r5 = 0 then (
some (0, σ4)) else (
wc_st (σ4 71 1) fun v7 =>
wc_b1 (wf_M_reckon 85 v7 σ4) fun σ8 =>
if a1 = 0 then (
wc_st (σ8 71 25) fun v13 =>
some (v13, σ8)) else (
if a1 = 1 then (
wc_st (σ8 71 26) fun v12 =>
some (v12, σ8)) else (
wc_st (σ8 71 27) fun v11 =>
some (v11, σ8))))
def wf_M_change_31 (x1 : Int32) (s1 : Int32) (σ : wc_S) : Option (Int32 × wc_S) :=
wc_st (wc_u σ 71 0 s1) fun σ8 =>
wc_st (σ8 71 0) fun v9 =>
if v9 ≤ 0 then (
wc_st (σ8 71 1) fun v11 =>
wc_b1 (wf_M_reckon 85 v11 σ8) fun σ12 =>
wc_gd (wc_in x1 9) (
wc_st (σ12 87 x1.toNatClampNeg) fun v14 =>
wc_gd (wc_z v14) (some (v14, σ12)))) else (
some (0, σ8))
def wf_M_change (a1 : Int32) (σ : wc_S) : Option (Int32 × wc_S) :=
wc_st (σ 71 22) fun v1 =>
if v1 = 0 then (
wf_M_change_31 a1 2 σ) else (
wc_st (σ 71 1) fun v3 =>
wc_st (v3 - 1) fun v4 =>
wc_b2 (wf_M_in a1 0 v4 σ) fun r6 σ5 =>
if r6 = 0 then (
wf_M_change_31 a1 1 σ5) else (
wf_M_change_31 a1 0 σ5))
def wf_M_jump_27 (x1 : Int32) (x2 : Int32) (s1 : Int32) (σ : wc_S) : Option (Int32 × wc_S) :=
wc_b2 (wf_M_goes s1 1 1 σ) fun r5 σ4 =>
if r5 = 0 then (
some (0, σ4)) else (
wc_b2 (wf_M_jumpOf x1 x2 σ4) fun r8 σ7 =>
some (r8, σ7))
def wf_M_jump_26 (x1 : Int32) (x2 : Int32) (σ : wc_S) : Option (Int32 × wc_S) :=
wf_M_jump_27 x1 x2 0 σ
def wf_M_jump (a1 : Int32) (a2 : Int32) (σ : wc_S) : Option (Int32 × wc_S) :=
wc_b2 (wf_M_isCoil a1 σ) fun r2 σ1 =>
if r2 = 0 then (
wf_M_jump_26 a1 a2 σ1) else (
wc_b2 (wf_M_isCoil a2 σ1) fun r10 σ9 =>
if r10 = 0 then (
wf_M_jump_26 a1 a2 σ9) else (
if a1 = a2 then (
wf_M_jump_26 a1 a2 σ9) else (
wf_M_jump_27 a1 a2 1 σ9)))
def wf_M_bound_101 (k11 : Int32 → Int32 → Int32 → wc_S → Option (Int32 × wc_S)) (x1 : Int32) (x2 : Int32) (x3 : Int32) (σ : wc_S) : Option (Int32 × wc_S) :=
wc_st (x3 + 1) fun v10 =>
k11 x1 x2 v10 σ
def wf_M_bound_87 (k11 : Int32 → Int32 → Int32 → wc_S → Option (Int32 × wc_S)) (x1 : Int32) (x2 : Int32) (x3 : Int32) (x4 : Int32) (σ : wc_S) : Option (Int32 × wc_S) :=
wc_st (x1 + x4) fun v8 =>
if x4 ≤ x2 then (
wf_M_bound_101 k11 v8 x2 x3 σ) else (
wf_M_bound_101 k11 v8 x4 x3 σ)
def wf_M_bound_73 (k11 : Int32 → Int32 → Int32 → wc_S → Option (Int32 × wc_S)) (k25 : Int32 → Int32 → Int32 → Int32 → Int32 → wc_S → Option (Int32 × wc_S)) (x1 : Int32) (x2 : Int32) (x3 : Int32) (x4 : Int32) (x5 : Int32) (σ : wc_S) : Option (Int32 × wc_S) :=
wc_st (x5 + 1) fun v15 =>
k25 x1 x2 x3 x4 v15 σ
def wf_M_bound_69 (k11 : Int32 → Int32 → Int32 → wc_S → Option (Int32 × wc_S)) (k25 : Int32 → Int32 → Int32 → Int32 → Int32 → wc_S → Option (Int32 × wc_S)) (x1 : Int32) (x2 : Int32) (x3 : Int32) (x5 : Int32) (x6 : Int32) (σ : wc_S) : Option (Int32 × wc_S) :=
wf_M_bound_73 k11 k25 x1 x2 x3 x6 x5 σ
def wf_M_bound_25_b (k11 : Int32 → Int32 → Int32 → wc_S → Option (Int32 × wc_S)) (k25 : Int32 → Int32 → Int32 → Int32 → Int32 → wc_S → Option (Int32 × wc_S)) (x1 : Int32) (x2 : Int32) (x3 : Int32) (x4 : Int32) (x5 : Int32) (σ : wc_S) : Option (Int32 × wc_S) :=
wc_st (σ 71 1) fun v5 =>
if v5 ≤ x5 then (
if 0 ≤ x4 then (
wf_M_bound_87 k11 x1 x2 x3 x4 σ) else (
wf_M_bound_87 k11 x1 x2 x3 0 σ)) else (
if x5 = x3 then (
wf_M_bound_73 k11 k25 x1 x2 x3 x4 x5 σ) else (
wc_b2 (wf_M_jumpOf x5 x3 σ) fun r13 σ12 =>
if r13 < 0 then (
wf_M_bound_73 k11 k25 x1 x2 x3 x4 x5 σ12) else (
if x4 < 0 then (
wf_M_bound_69 k11 k25 x1 x2 x3 x5 r13 σ12) else (
if x4 ≤ r13 then (
wf_M_bound_73 k11 k25 x1 x2 x3 x4 x5 σ12) else (
wf_M_bound_69 k11 k25 x1 x2 x3 x5 r13 σ12)))))
def wf_M_bound_25 (k11 : Int32 → Int32 → Int32 → wc_S → Option (Int32 × wc_S)) (n : Nat) : Int32 → Int32 → Int32 → Int32 → Int32 → wc_S → Option (Int32 × wc_S) := match n with
  | 0 => fun _ _ _ _ _ _ => none
  | n + 1 => wf_M_bound_25_b k11 (wf_M_bound_25 k11 n)
def wf_M_bound_11_b (k11 : Int32 → Int32 → Int32 → wc_S → Option (Int32 × wc_S)) (x1 : Int32) (x2 : Int32) (x3 : Int32) (σ : wc_S) : Option (Int32 × wc_S) :=
wc_st (σ 71 1) fun v2 =>
if v2 ≤ x3 then (
wc_st (x1 - x2) fun v4 =>
some (v4, σ)) else (
wf_M_bound_25 k11 16 x1 x2 x3 (-1) 0 σ)
def wf_M_bound_11 (n : Nat) : Int32 → Int32 → Int32 → wc_S → Option (Int32 × wc_S) := match n with
  | 0 => fun _ _ _ _ => none
  | n + 1 => wf_M_bound_11_b  (wf_M_bound_11  n)
def wf_M_bound (σ : wc_S) : Option (Int32 × wc_S) :=
wc_st (wc_u σ 71 0 0) fun σ1 =>
wf_M_bound_11 16 0 0 0 σ1
def wf_M_isGood_2_b (k1 : Nat) (k2 : Int32 → wc_S → Option (Int32 × wc_S)) (x2 : Int32) (σ : wc_S) : Option (Int32 × wc_S) :=
wc_st (σ 71 1) fun v1 =>
if v1 ≤ x2 then (
some (1, σ)) else (
wc_b2 (wf_M_mayBe k1 x2 σ) fun r4 σ3 =>
if r4 = 0 then (
some (0, σ3)) else (
wc_st (x2 + 1) fun v6 =>
k2 v6 σ3))
def wf_M_isGood_2 (k1 : Nat) (n : Nat) : Int32 → wc_S → Option (Int32 × wc_S) := match n with
  | 0 => fun _ _ => none
  | n + 1 => wf_M_isGood_2_b k1 (wf_M_isGood_2 k1 n)
def wf_M_isGood (k1 : Nat) (σ : wc_S) : Option (Int32 × wc_S) :=
wf_M_isGood_2 k1 16 0 σ
def wf_M_tell_108_b (k108 : Int32 → wc_S → Option wc_S) (x4 : Int32) (σ : wc_S) : Option wc_S :=
wc_st (σ 71 1) fun v8 =>
if v8 ≤ x4 then (
some σ) else (
wc_gd (wc_in x4 9) (
wc_st (σ 86 x4.toNatClampNeg) fun v11 =>
wc_gd (wc_in x4 9) (
wc_st (wc_u σ 85 x4.toNatClampNeg v11) fun σ13 =>
wc_st (x4 + 1) fun v14 =>
k108 v14 σ13)))
def wf_M_tell_108 (n : Nat) : Int32 → wc_S → Option wc_S := match n with
  | 0 => fun _ _ => none
  | n + 1 => wf_M_tell_108_b  (wf_M_tell_108  n)
def wf_M_tell_92 (s1 : Int32) (s2 : Int32) (σ : wc_S) : Option wc_S :=
wc_b2 (wf_M_goes s1 s2 1 σ) fun r5 σ4 =>
if r5 = 0 then (
some σ4) else (
wc_st (wc_u σ4 71 22 1) fun σ7 =>
wf_M_tell_108 16 0 σ7)
def wf_M_tell_91 (s1 : Int32) (σ : wc_S) : Option wc_S :=
wf_M_tell_92 s1 0 σ
def wf_M_tell_64 (k5 : Int64 → Int32 → Int32 → wc_S → Option wc_S) (x1 : Int64) (x3 : Int32) (x4 : Int32) (σ : wc_S) : Option wc_S :=
wc_st (x4 + 1) fun v28 =>
k5 x1 x3 v28 σ
def wf_M_tell_62 (k5 : Int64 → Int32 → Int32 → wc_S → Option wc_S) (x1 : Int64) (x4 : Int32) (σ : wc_S) : Option wc_S :=
wf_M_tell_64 k5 x1 0 x4 σ
def wf_M_tell_5_b (k5 : Int64 → Int32 → Int32 → wc_S → Option wc_S) (x1 : Int64) (x3 : Int32) (x4 : Int32) (σ : wc_S) : Option wc_S :=
wc_st (σ 71 1) fun v1 =>
if v1 ≤ x4 then (
if x3 = 0 then (
wf_M_tell_91 x3 σ) else (
wc_b2 (wf_M_isGood 86 σ) fun r16 σ15 =>
if r16 = 0 then (
wf_M_tell_91 x3 σ15) else (
wf_M_tell_92 x3 1 σ15))) else (
wc_st ((4 : Int32) * x4) fun v18 =>
wc_st (x1 >>> (v18.toInt64 &&& 63)) fun v19 =>
wc_st (v19 &&& 15) fun v20 =>
wc_st v20.toInt32 fun v21 =>
wc_gd (wc_in x4 9) (
wc_st (wc_u σ 86 x4.toNatClampNeg v21) fun σ23 =>
wc_gd (wc_in x4 9) (
wc_st (σ23 86 x4.toNatClampNeg) fun v25 =>
wc_st (σ23 71 1) fun v26 =>
if v26 ≤ v25 then (
wf_M_tell_62 k5 x1 x4 σ23) else (
wc_gd (wc_in x4 9) (
wc_st (σ23 86 x4.toNatClampNeg) fun v30 =>
wc_b2 (wf_M_stands v30 x4 σ23) fun r32 σ31 =>
if r32 = 0 then (
wf_M_tell_64 k5 x1 x3 x4 σ31) else (
wf_M_tell_62 k5 x1 x4 σ31))))))
def wf_M_tell_5 (n : Nat) : Int64 → Int32 → Int32 → wc_S → Option wc_S := match n with
  | 0 => fun _ _ _ _ => none
  | n + 1 => wf_M_tell_5_b  (wf_M_tell_5  n)
def wf_M_tell (a1 : Int64) (σ : wc_S) : Option wc_S :=
wf_M_tell_5 16 a1 1 0 σ
def wf_M_swaps_111_b (k111 : Int32 → wc_S → Option (Int32 × wc_S)) (x4 : Int32) (σ : wc_S) : Option (Int32 × wc_S) :=
wc_st (σ 71 1) fun v21 =>
if v21 ≤ x4 then (
some (1, σ)) else (
wc_gd (wc_in x4 9) (
wc_st (σ 86 x4.toNatClampNeg) fun v24 =>
wc_gd (wc_in x4 9) (
wc_st (wc_u σ 85 x4.toNatClampNeg v24) fun σ26 =>
wc_st (x4 + 1) fun v27 =>
k111 v27 σ26)))
def wf_M_swaps_111 (n : Nat) : Int32 → wc_S → Option (Int32 × wc_S) := match n with
  | 0 => fun _ _ => none
  | n + 1 => wf_M_swaps_111_b  (wf_M_swaps_111  n)
def wf_M_swaps_20_b (k20 : Int32 → Int32 → Int32 → Int32 → wc_S → Option (Int32 × wc_S)) (x1 : Int32) (x2 : Int32) (x3 : Int32) (x4 : Int32) (σ : wc_S) : Option (Int32 × wc_S) :=
wc_st (σ 71 1) fun v4 =>
if v4 ≤ x4 then (
wc_gd (wc_in x2 9) (
wc_st (σ 85 x2.toNatClampNeg) fun v7 =>
wc_gd (wc_in x1 9) (
wc_st (wc_u σ 86 x1.toNatClampNeg v7) fun σ9 =>
wc_gd (wc_in x1 9) (
wc_st (σ9 85 x1.toNatClampNeg) fun v11 =>
wc_gd (wc_in x2 9) (
wc_st (wc_u σ9 86 x2.toNatClampNeg v11) fun σ13 =>
wc_b2 (wf_M_isGood 86 σ13) fun r15 σ14 =>
if r15 = 0 then (
some (0, σ14)) else (
wc_st (σ14 71 1) fun v17 =>
wc_b1 (wf_M_reckon 86 v17 σ14) fun σ18 =>
wc_st (σ18 71 25) fun v19 =>
if v19 < x3 then (
wf_M_swaps_111 16 0 σ18) else (
some (0, σ18)))))))) else (
wc_gd (wc_in x4 9) (
wc_st (σ 85 x4.toNatClampNeg) fun v29 =>
wc_gd (wc_in x4 9) (
wc_st (wc_u σ 86 x4.toNatClampNeg v29) fun σ31 =>
wc_st (x4 + 1) fun v32 =>
k20 x1 x2 x3 v32 σ31)))
def wf_M_swaps_20 (n : Nat) : Int32 → Int32 → Int32 → Int32 → wc_S → Option (Int32 × wc_S) := match n with
  | 0 => fun _ _ _ _ _ => none
  | n + 1 => wf_M_swaps_20_b  (wf_M_swaps_20  n)
def wf_M_swaps (a1 : Int32) (a2 : Int32) (σ : wc_S) : Option (Int32 × wc_S) :=
wc_st (σ 71 1) fun v1 =>
wc_b1 (wf_M_reckon 85 v1 σ) fun σ2 =>
wc_st (σ2 71 25) fun v3 =>
wf_M_swaps_20 16 a1 a2 v3 0 σ2
def wf_M_better_14_b (k2 : Int32 → wc_S → Option (Int32 × wc_S)) (k14 : Int32 → Int32 → wc_S → Option (Int32 × wc_S)) (x1 : Int32) (x2 : Int32) (σ : wc_S) : Option (Int32 × wc_S) :=
wc_st (σ 71 1) fun v4 =>
if v4 ≤ x2 then (
wc_st (x1 + 1) fun v6 =>
k2 v6 σ) else (
wc_b2 (wf_M_swaps x1 x2 σ) fun r8 σ7 =>
if r8 = 0 then (
wc_st (x2 + 1) fun v10 =>
k14 x1 v10 σ7) else (
some (1, σ7)))
def wf_M_better_14 (k2 : Int32 → wc_S → Option (Int32 × wc_S)) (n : Nat) : Int32 → Int32 → wc_S → Option (Int32 × wc_S) := match n with
  | 0 => fun _ _ _ => none
  | n + 1 => wf_M_better_14_b k2 (wf_M_better_14 k2 n)
def wf_M_better_2_b (k2 : Int32 → wc_S → Option (Int32 × wc_S)) (x1 : Int32) (σ : wc_S) : Option (Int32 × wc_S) :=
wc_st (σ 71 1) fun v1 =>
if v1 ≤ x1 then (
some (0, σ)) else (
wc_st (x1 + 1) fun v3 =>
wf_M_better_14 k2 16 x1 v3 σ)
def wf_M_better_2 (n : Nat) : Int32 → wc_S → Option (Int32 × wc_S) := match n with
  | 0 => fun _ _ => none
  | n + 1 => wf_M_better_2_b  (wf_M_better_2  n)
def wf_M_better (σ : wc_S) : Option (Int32 × wc_S) :=
wf_M_better_2 16 0 σ
def wf_M_improve_23_b (k23 : Int32 → Int32 → wc_S → Option (Int32 × wc_S)) (x1 : Int32) (x2 : Int32) (σ : wc_S) : Option (Int32 × wc_S) :=
if x1 ≤ x2 then (
some (x2, σ)) else (
wc_b2 (wf_M_better σ) fun r9 σ8 =>
if r9 = 0 then (
some (x2, σ8)) else (
wc_st (x2 + 1) fun v11 =>
k23 x1 v11 σ8))
def wf_M_improve_23 (n : Nat) : Int32 → Int32 → wc_S → Option (Int32 × wc_S) := match n with
  | 0 => fun _ _ _ => none
  | n + 1 => wf_M_improve_23_b  (wf_M_improve_23  n)
def wf_M_improve (a1 : Int32) (σ : wc_S) : Option (Int32 × wc_S) :=
wc_st (σ 71 22) fun v1 =>
wc_b2 (wf_M_in a1 0 100 σ) fun r3 σ2 =>
wc_b2 (wf_M_goes v1 r3 1 σ2) fun r5 σ4 =>
if r5 = 0 then (
some (0, σ4)) else (
wf_M_improve_23 128 a1 0 σ4)
def wf_K_coil (a1 : Int32) (a2 : Int32) (a3 : Int32) (a4 : Int32) (σ : wc_S) : Option (Int32 × wc_S) :=
wc_cti (wf_W_coil a1 a2 a3 a4 σ) (fun k9 σ3 =>
if k9 = 2 then (
some (1, σ3)) else (
if k9 = 3 then (
some (2, σ3)) else (
none))) (fun r2 σ1 =>
wc_gd (wc_in 0 1) (
wc_st (wc_u σ1 88 ((0 : Int32).toNatClampNeg) r2) fun σ5 =>
some (0, σ5)))
def wf_K_table (a1 : Int32) (a2 : Int32) (a3 : Int32) (a4 : Int32) (σ : wc_S) : Option (Int32 × wc_S) :=
wc_cti (wf_W_table a1 a2 a3 a4 σ) (fun k9 σ3 =>
if k9 = 0 then (
some (1, σ3)) else (
if k9 = 2 then (
some (2, σ3)) else (
if k9 = 3 then (
some (3, σ3)) else (
none)))) (fun r2 σ1 =>
wc_gd (wc_in 0 1) (
wc_st (wc_u σ1 88 ((0 : Int32).toNatClampNeg) r2) fun σ5 =>
some (0, σ5)))
def wf_K_group (a1 : Int32) (a2 : Int32) (a3 : Int32) (σ : wc_S) : Option (Int32 × wc_S) :=
wc_cti (wf_W_group a1 a2 a3 σ) (fun k9 σ3 =>
if k9 = 2 then (
some (1, σ3)) else (
if k9 = 3 then (
some (2, σ3)) else (
none))) (fun r2 σ1 =>
wc_gd (wc_in 0 1) (
wc_st (wc_u σ1 88 ((0 : Int32).toNatClampNeg) r2) fun σ5 =>
some (0, σ5)))
def wf_K_urgent (a1 : Int32) (a2 : Int32) (σ : wc_S) : Option (Int32 × wc_S) :=
wc_ctv (wf_W_urgent a1 a2 σ) (fun k9 σ2 =>
if k9 = 0 then (
some (1, σ2)) else (
if k9 = 2 then (
some (2, σ2)) else (
none))) (fun σ1 =>
some (0, σ1))
def wf_K_old (a1 : Int32) (a2 : Int32) (σ : wc_S) : Option (Int32 × wc_S) :=
wc_ctv (wf_W_old a1 a2 σ) (fun k9 σ2 =>
if k9 = 0 then (
some (1, σ2)) else (
if k9 = 2 then (
some (2, σ2)) else (
none))) (fun σ1 =>
some (0, σ1))
def wf_K_rules (a1 : Int32) (a2 : Int32) (a3 : Int32) (a4 : Int32) (σ : wc_S) : Option (Int32 × wc_S) :=
wc_ctv (wf_W_rules a1 a2 a3 a4 σ) (fun k9 σ2 =>
if k9 = 2 then (
some (1, σ2)) else (
none)) (fun σ1 =>
some (0, σ1))
def wf_K_run (a1 : Int32) (σ : wc_S) : Option (Int32 × wc_S) :=
wc_cti (wf_W_run a1 σ) (fun k9 σ3 =>
if k9 = 2 then (
some (1, σ3)) else (
none)) (fun r2 σ1 =>
wc_gd (wc_in 0 1) (
wc_st (wc_u σ1 88 ((0 : Int32).toNatClampNeg) r2) fun σ5 =>
some (0, σ5)))
def wf_K_proved (σ : wc_S) : Option (Int32 × wc_S) :=
wc_cti (wf_W_proved σ) (fun k9 σ3 =>
if k9 = 1 then (
some (1, σ3)) else (
none)) (fun r2 σ1 =>
if r2 = 0 then (
wc_gd (wc_in 0 1) (
wc_st (wc_u σ1 88 ((0 : Int32).toNatClampNeg) 0) fun σ6 =>
some (0, σ6))) else (
wc_gd (wc_in 0 1) (
wc_st (wc_u σ1 88 ((0 : Int32).toNatClampNeg) 1) fun σ8 =>
some (0, σ8))))
def wf_K_order (a1 : Int32) (σ : wc_S) : Option (Int32 × wc_S) :=
wc_cti (wf_W_order a1 σ) (fun k9 σ3 =>
if k9 = 0 then (
some (1, σ3)) else (
if k9 = 1 then (
some (2, σ3)) else (
none))) (fun r2 σ1 =>
wc_gd (wc_in 0 1) (
wc_st (wc_u σ1 88 ((0 : Int32).toNatClampNeg) r2) fun σ5 =>
some (0, σ5)))
def wf_K_told (a1 : Int32) (σ : wc_S) : Option (Int32 × wc_S) :=
wc_cti (wf_W_told a1 σ) (fun k9 σ3 =>
if k9 = 0 then (
some (1, σ3)) else (
if k9 = 1 then (
some (2, σ3)) else (
none))) (fun r2 σ1 =>
wc_gd (wc_in 0 1) (
wc_st (wc_u σ1 88 ((0 : Int32).toNatClampNeg) r2) fun σ5 =>
some (0, σ5)))
def wf_K_change (a1 : Int32) (σ : wc_S) : Option (Int32 × wc_S) :=
wc_cti (wf_W_change a1 σ) (fun k9 σ3 =>
if k9 = 0 then (
some (1, σ3)) else (
if k9 = 1 then (
some (2, σ3)) else (
none))) (fun r2 σ1 =>
if r2 = 0 then (
wc_gd (wc_in 0 1) (
wc_st (wc_u σ1 88 ((0 : Int32).toNatClampNeg) 0) fun σ6 =>
some (0, σ6))) else (
wc_gd (wc_in 0 1) (
wc_st (wc_u σ1 88 ((0 : Int32).toNatClampNeg) 1) fun σ8 =>
some (0, σ8))))
def wf_K_jump (a1 : Int32) (a2 : Int32) (σ : wc_S) : Option (Int32 × wc_S) :=
wc_cti (wf_W_jump a1 a2 σ) (fun k9 σ3 =>
if k9 = 0 then (
some (1, σ3)) else (
none)) (fun r2 σ1 =>
wc_gd (wc_in 0 1) (
wc_st (wc_u σ1 88 ((0 : Int32).toNatClampNeg) r2) fun σ5 =>
some (0, σ5)))
def wf_K_tell (a1 : Int64) (σ : wc_S) : Option (Int32 × wc_S) :=
wc_ctv (wf_W_tell a1 σ) (fun k9 σ2 =>
if k9 = 0 then (
some (1, σ2)) else (
if k9 = 3 then (
some (2, σ2)) else (
none))) (fun σ1 =>
some (0, σ1))
def wf_K_improve (a1 : Int32) (σ : wc_S) : Option (Int32 × wc_S) :=
wc_cti (wf_W_improve a1 σ) (fun k9 σ3 =>
if k9 = 1 then (
some (1, σ3)) else (
if k9 = 2 then (
some (2, σ3)) else (
none))) (fun r2 σ1 =>
wc_gd (wc_in 0 1) (
wc_st (wc_u σ1 88 ((0 : Int32).toNatClampNeg) r2) fun σ5 =>
some (0, σ5)))
end
