-- ===== PART A: goes FIRST, ahead of the names: the tables' words, and 'selects' of the private methods out of them =====
/-- a private method of a class that the tables say can be made, by its rows of tables_1 -/
def lw_okq (q : MethodName × Nat) : Prop := (q.1.cls ≠ "java/lang/invoke/MethodHandle" ∧ q.1.cls ≠ "java/lang/invoke/VarHandle") ∧ Cond.instantiable q.1.cls q.2 ∈ tables_1 ∧ Cond.privateMethod q.1 ∈ tables_1 ∧ Cond.instanceMethod q.1 ∈ tables_1
theorem lw_p0 : lw_okq (⟨"WorksBudget", "forget", "()V"⟩, 11) := ⟨⟨by decide +kernel, by decide +kernel⟩, List.mem_of_getElem? (i := 11) (by decide +kernel), List.mem_of_getElem? (i := 239) (by decide +kernel), List.mem_of_getElem? (i := 240) (by decide +kernel)⟩
theorem lw_p1 : lw_okq (⟨"WorksBudget$Search", "prepare", "(JI)V"⟩, 20) := ⟨⟨by decide +kernel, by decide +kernel⟩, List.mem_of_getElem? (i := 110) (by decide +kernel), List.mem_of_getElem? (i := 321) (by decide +kernel), List.mem_of_getElem? (i := 322) (by decide +kernel)⟩
theorem lw_p2 : lw_okq (⟨"WorksBudget$Search", "prepareRests", "()V"⟩, 20) := ⟨⟨by decide +kernel, by decide +kernel⟩, List.mem_of_getElem? (i := 110) (by decide +kernel), List.mem_of_getElem? (i := 329) (by decide +kernel), List.mem_of_getElem? (i := 330) (by decide +kernel)⟩
theorem lw_p3 : lw_okq (⟨"WorksBudget$Search", "lookFrom", "(IJ)V"⟩, 20) := ⟨⟨by decide +kernel, by decide +kernel⟩, List.mem_of_getElem? (i := 110) (by decide +kernel), List.mem_of_getElem? (i := 337) (by decide +kernel), List.mem_of_getElem? (i := 338) (by decide +kernel)⟩
theorem lw_p4 : lw_okq (⟨"WorksBudget$Search", "isHopeless", "(I)Z"⟩, 20) := ⟨⟨by decide +kernel, by decide +kernel⟩, List.mem_of_getElem? (i := 110) (by decide +kernel), List.mem_of_getElem? (i := 341) (by decide +kernel), List.mem_of_getElem? (i := 342) (by decide +kernel)⟩
theorem lw_p5 : lw_okq (⟨"WorksBudget$Search", "countOfChanges", "(I)I"⟩, 20) := ⟨⟨by decide +kernel, by decide +kernel⟩, List.mem_of_getElem? (i := 110) (by decide +kernel), List.mem_of_getElem? (i := 345) (by decide +kernel), List.mem_of_getElem? (i := 346) (by decide +kernel)⟩
theorem lw_p6 : lw_okq (⟨"WorksBudget$Search", "weigh", "()V"⟩, 20) := ⟨⟨by decide +kernel, by decide +kernel⟩, List.mem_of_getElem? (i := 110) (by decide +kernel), List.mem_of_getElem? (i := 355) (by decide +kernel), List.mem_of_getElem? (i := 356) (by decide +kernel)⟩
theorem lw_p7 : lw_okq (⟨"WorksBudget$Search", "isFair", "()Z"⟩, 20) := ⟨⟨by decide +kernel, by decide +kernel⟩, List.mem_of_getElem? (i := 110) (by decide +kernel), List.mem_of_getElem? (i := 359) (by decide +kernel), List.mem_of_getElem? (i := 360) (by decide +kernel)⟩
theorem lw_p8 : lw_okq (⟨"WorksBudget$Search", "isBetter", "(I)Z"⟩, 20) := ⟨⟨by decide +kernel, by decide +kernel⟩, List.mem_of_getElem? (i := 110) (by decide +kernel), List.mem_of_getElem? (i := 365) (by decide +kernel), List.mem_of_getElem? (i := 366) (by decide +kernel)⟩
theorem lw_p9 : lw_okq (⟨"WorksBudget$Search", "lookWith", "(IJ)V"⟩, 20) := ⟨⟨by decide +kernel, by decide +kernel⟩, List.mem_of_getElem? (i := 110) (by decide +kernel), List.mem_of_getElem? (i := 369) (by decide +kernel), List.mem_of_getElem? (i := 370) (by decide +kernel)⟩
theorem lw_p10 : lw_okq (⟨"WorksBudget$Search", "pick", "(II)V"⟩, 20) := ⟨⟨by decide +kernel, by decide +kernel⟩, List.mem_of_getElem? (i := 110) (by decide +kernel), List.mem_of_getElem? (i := 373) (by decide +kernel), List.mem_of_getElem? (i := 374) (by decide +kernel)⟩
theorem lw_p11 : lw_okq (⟨"WorksBudget$Search", "isOverspent", "(I)Z"⟩, 20) := ⟨⟨by decide +kernel, by decide +kernel⟩, List.mem_of_getElem? (i := 110) (by decide +kernel), List.mem_of_getElem? (i := 381) (by decide +kernel), List.mem_of_getElem? (i := 382) (by decide +kernel)⟩
theorem lw_p12 : lw_okq (⟨"WorksBudget$Search", "lookWithout", "(IJ)V"⟩, 20) := ⟨⟨by decide +kernel, by decide +kernel⟩, List.mem_of_getElem? (i := 110) (by decide +kernel), List.mem_of_getElem? (i := 385) (by decide +kernel), List.mem_of_getElem? (i := 386) (by decide +kernel)⟩
theorem lw_p13 : lw_okq (⟨"WorksBudget", "planOrNothing", "()I"⟩, 11) := ⟨⟨by decide +kernel, by decide +kernel⟩, List.mem_of_getElem? (i := 11) (by decide +kernel), List.mem_of_getElem? (i := 397) (by decide +kernel), List.mem_of_getElem? (i := 398) (by decide +kernel)⟩
theorem lw_p14 : lw_okq (⟨"WorksBudget$Bounds", "byPrice", "(JJJ)J"⟩, 1) := ⟨⟨by decide +kernel, by decide +kernel⟩, List.mem_of_getElem? (i := 178) (by decide +kernel), List.mem_of_getElem? (i := 432) (by decide +kernel), List.mem_of_getElem? (i := 433) (by decide +kernel)⟩
theorem lw_p15 : lw_okq (⟨"WorksBudget$Bounds", "mostPartsOf", "(IJJ)J"⟩, 1) := ⟨⟨by decide +kernel, by decide +kernel⟩, List.mem_of_getElem? (i := 178) (by decide +kernel), List.mem_of_getElem? (i := 436) (by decide +kernel), List.mem_of_getElem? (i := 437) (by decide +kernel)⟩
def lw_privs_1 : List (MethodName × Nat) := [(⟨"WorksBudget", "forget", "()V"⟩, 11), (⟨"WorksBudget$Search", "prepare", "(JI)V"⟩, 20), (⟨"WorksBudget$Search", "prepareRests", "()V"⟩, 20), (⟨"WorksBudget$Search", "lookFrom", "(IJ)V"⟩, 20), (⟨"WorksBudget$Search", "isHopeless", "(I)Z"⟩, 20), (⟨"WorksBudget$Search", "countOfChanges", "(I)I"⟩, 20), (⟨"WorksBudget$Search", "weigh", "()V"⟩, 20), (⟨"WorksBudget$Search", "isFair", "()Z"⟩, 20), (⟨"WorksBudget$Search", "isBetter", "(I)Z"⟩, 20), (⟨"WorksBudget$Search", "lookWith", "(IJ)V"⟩, 20), (⟨"WorksBudget$Search", "pick", "(II)V"⟩, 20), (⟨"WorksBudget$Search", "isOverspent", "(I)Z"⟩, 20), (⟨"WorksBudget$Search", "lookWithout", "(IJ)V"⟩, 20), (⟨"WorksBudget", "planOrNothing", "()I"⟩, 11), (⟨"WorksBudget$Bounds", "byPrice", "(JJJ)J"⟩, 1), (⟨"WorksBudget$Bounds", "mostPartsOf", "(IJJ)J"⟩, 1)]
theorem lw_r1 : ∀ q ∈ lw_privs_1, lw_okq q := List.forall_mem_cons.mpr ⟨lw_p0, List.forall_mem_cons.mpr ⟨lw_p1, List.forall_mem_cons.mpr ⟨lw_p2, List.forall_mem_cons.mpr ⟨lw_p3, List.forall_mem_cons.mpr ⟨lw_p4, List.forall_mem_cons.mpr ⟨lw_p5, List.forall_mem_cons.mpr ⟨lw_p6, List.forall_mem_cons.mpr ⟨lw_p7, List.forall_mem_cons.mpr ⟨lw_p8, List.forall_mem_cons.mpr ⟨lw_p9, List.forall_mem_cons.mpr ⟨lw_p10, List.forall_mem_cons.mpr ⟨lw_p11, List.forall_mem_cons.mpr ⟨lw_p12, List.forall_mem_cons.mpr ⟨lw_p13, List.forall_mem_cons.mpr ⟨lw_p14, List.forall_mem_cons.mpr ⟨lw_p15, fun _ h => absurd h List.not_mem_nil⟩⟩⟩⟩⟩⟩⟩⟩⟩⟩⟩⟩⟩⟩⟩⟩
theorem lw_p16 : lw_okq (⟨"WorksBudget", "clashingMusts", "()I"⟩, 11) := ⟨⟨by decide +kernel, by decide +kernel⟩, List.mem_of_getElem? (i := 11) (by decide +kernel), List.mem_of_getElem? (i := 458) (by decide +kernel), List.mem_of_getElem? (i := 459) (by decide +kernel)⟩
theorem lw_p17 : lw_okq (⟨"WorksBudget", "gainOfBest", "(I)J"⟩, 11) := ⟨⟨by decide +kernel, by decide +kernel⟩, List.mem_of_getElem? (i := 11) (by decide +kernel), List.mem_of_getElem? (i := 473) (by decide +kernel), List.mem_of_getElem? (i := 474) (by decide +kernel)⟩
theorem lw_p18 : lw_okq (⟨"WorksBudget", "countOfThingsBefore", "(I)I"⟩, 11) := ⟨⟨by decide +kernel, by decide +kernel⟩, List.mem_of_getElem? (i := 11) (by decide +kernel), List.mem_of_getElem? (i := 514) (by decide +kernel), List.mem_of_getElem? (i := 515) (by decide +kernel)⟩
theorem lw_p19 : lw_okq (⟨"WorksBudget$Policies", "isPossible", "(I)Z"⟩, 2) := ⟨⟨by decide +kernel, by decide +kernel⟩, List.mem_of_getElem? (i := 188) (by decide +kernel), List.mem_of_getElem? (i := 543) (by decide +kernel), List.mem_of_getElem? (i := 544) (by decide +kernel)⟩
theorem lw_p20 : lw_okq (⟨"WorksBudget$Policies", "putInOrder", "(I)V"⟩, 2) := ⟨⟨by decide +kernel, by decide +kernel⟩, List.mem_of_getElem? (i := 188) (by decide +kernel), List.mem_of_getElem? (i := 563) (by decide +kernel), List.mem_of_getElem? (i := 564) (by decide +kernel)⟩
theorem lw_p21 : lw_okq (⟨"WorksBudget$Policies", "goesBefore", "(III)Z"⟩, 2) := ⟨⟨by decide +kernel, by decide +kernel⟩, List.mem_of_getElem? (i := 188) (by decide +kernel), List.mem_of_getElem? (i := 567) (by decide +kernel), List.mem_of_getElem? (i := 568) (by decide +kernel)⟩
theorem lw_p22 : lw_okq (⟨"WorksBudget$Policies", "leadByWorthByCost", "(II)J"⟩, 2) := ⟨⟨by decide +kernel, by decide +kernel⟩, List.mem_of_getElem? (i := 188) (by decide +kernel), List.mem_of_getElem? (i := 571) (by decide +kernel), List.mem_of_getElem? (i := 572) (by decide +kernel)⟩
theorem lw_p23 : lw_okq (⟨"WorksBudgetModel", "tell", "()V"⟩, 23) := ⟨⟨by decide +kernel, by decide +kernel⟩, List.mem_of_getElem? (i := 602) (by decide +kernel), List.mem_of_getElem? (i := 687) (by decide +kernel), List.mem_of_getElem? (i := 688) (by decide +kernel)⟩
theorem lw_p24 : lw_okq (⟨"WorksBudgetModel", "isChoice", "(I)Z"⟩, 23) := ⟨⟨by decide +kernel, by decide +kernel⟩, List.mem_of_getElem? (i := 602) (by decide +kernel), List.mem_of_getElem? (i := 700) (by decide +kernel), List.mem_of_getElem? (i := 701) (by decide +kernel)⟩
theorem lw_p25 : lw_okq (⟨"WorksBudgetModel", "isYear", "(I)Z"⟩, 23) := ⟨⟨by decide +kernel, by decide +kernel⟩, List.mem_of_getElem? (i := 602) (by decide +kernel), List.mem_of_getElem? (i := 711) (by decide +kernel), List.mem_of_getElem? (i := 712) (by decide +kernel)⟩
theorem lw_p26 : lw_okq (⟨"WorksBudgetModel", "best", "(J)I"⟩, 23) := ⟨⟨by decide +kernel, by decide +kernel⟩, List.mem_of_getElem? (i := 602) (by decide +kernel), List.mem_of_getElem? (i := 735) (by decide +kernel), List.mem_of_getElem? (i := 736) (by decide +kernel)⟩
theorem lw_p27 : lw_okq (⟨"WorksBudgetModel", "setAt", "(I)I"⟩, 23) := ⟨⟨by decide +kernel, by decide +kernel⟩, List.mem_of_getElem? (i := 602) (by decide +kernel), List.mem_of_getElem? (i := 739) (by decide +kernel), List.mem_of_getElem? (i := 740) (by decide +kernel)⟩
theorem lw_p28 : lw_okq (⟨"WorksBudgetModel", "holdsWith", "(II)Z"⟩, 23) := ⟨⟨by decide +kernel, by decide +kernel⟩, List.mem_of_getElem? (i := 602) (by decide +kernel), List.mem_of_getElem? (i := 743) (by decide +kernel), List.mem_of_getElem? (i := 744) (by decide +kernel)⟩
theorem lw_p29 : lw_okq (⟨"WorksBudgetModel", "isPlan", "(I)Z"⟩, 23) := ⟨⟨by decide +kernel, by decide +kernel⟩, List.mem_of_getElem? (i := 602) (by decide +kernel), List.mem_of_getElem? (i := 747) (by decide +kernel), List.mem_of_getElem? (i := 748) (by decide +kernel)⟩
theorem lw_p30 : lw_okq (⟨"WorksBudgetModel", "isFair", "(I)Z"⟩, 23) := ⟨⟨by decide +kernel, by decide +kernel⟩, List.mem_of_getElem? (i := 602) (by decide +kernel), List.mem_of_getElem? (i := 751) (by decide +kernel), List.mem_of_getElem? (i := 752) (by decide +kernel)⟩
theorem lw_p31 : lw_okq (⟨"WorksBudgetModel", "fits", "(I)Z"⟩, 23) := ⟨⟨by decide +kernel, by decide +kernel⟩, List.mem_of_getElem? (i := 602) (by decide +kernel), List.mem_of_getElem? (i := 755) (by decide +kernel), List.mem_of_getElem? (i := 756) (by decide +kernel)⟩
def lw_privs_2 : List (MethodName × Nat) := [(⟨"WorksBudget", "clashingMusts", "()I"⟩, 11), (⟨"WorksBudget", "gainOfBest", "(I)J"⟩, 11), (⟨"WorksBudget", "countOfThingsBefore", "(I)I"⟩, 11), (⟨"WorksBudget$Policies", "isPossible", "(I)Z"⟩, 2), (⟨"WorksBudget$Policies", "putInOrder", "(I)V"⟩, 2), (⟨"WorksBudget$Policies", "goesBefore", "(III)Z"⟩, 2), (⟨"WorksBudget$Policies", "leadByWorthByCost", "(II)J"⟩, 2), (⟨"WorksBudgetModel", "tell", "()V"⟩, 23), (⟨"WorksBudgetModel", "isChoice", "(I)Z"⟩, 23), (⟨"WorksBudgetModel", "isYear", "(I)Z"⟩, 23), (⟨"WorksBudgetModel", "best", "(J)I"⟩, 23), (⟨"WorksBudgetModel", "setAt", "(I)I"⟩, 23), (⟨"WorksBudgetModel", "holdsWith", "(II)Z"⟩, 23), (⟨"WorksBudgetModel", "isPlan", "(I)Z"⟩, 23), (⟨"WorksBudgetModel", "isFair", "(I)Z"⟩, 23), (⟨"WorksBudgetModel", "fits", "(I)Z"⟩, 23)]
theorem lw_r2 : ∀ q ∈ lw_privs_2, lw_okq q := List.forall_mem_cons.mpr ⟨lw_p16, List.forall_mem_cons.mpr ⟨lw_p17, List.forall_mem_cons.mpr ⟨lw_p18, List.forall_mem_cons.mpr ⟨lw_p19, List.forall_mem_cons.mpr ⟨lw_p20, List.forall_mem_cons.mpr ⟨lw_p21, List.forall_mem_cons.mpr ⟨lw_p22, List.forall_mem_cons.mpr ⟨lw_p23, List.forall_mem_cons.mpr ⟨lw_p24, List.forall_mem_cons.mpr ⟨lw_p25, List.forall_mem_cons.mpr ⟨lw_p26, List.forall_mem_cons.mpr ⟨lw_p27, List.forall_mem_cons.mpr ⟨lw_p28, List.forall_mem_cons.mpr ⟨lw_p29, List.forall_mem_cons.mpr ⟨lw_p30, List.forall_mem_cons.mpr ⟨lw_p31, fun _ h => absurd h List.not_mem_nil⟩⟩⟩⟩⟩⟩⟩⟩⟩⟩⟩⟩⟩⟩⟩⟩
theorem lw_p32 : lw_okq (⟨"WorksBudgetModel", "spentIn", "(II)J"⟩, 23) := ⟨⟨by decide +kernel, by decide +kernel⟩, List.mem_of_getElem? (i := 602) (by decide +kernel), List.mem_of_getElem? (i := 759) (by decide +kernel), List.mem_of_getElem? (i := 760) (by decide +kernel)⟩
theorem lw_p33 : lw_okq (⟨"WorksBudgetModel", "isBetter", "(II)Z"⟩, 23) := ⟨⟨by decide +kernel, by decide +kernel⟩, List.mem_of_getElem? (i := 602) (by decide +kernel), List.mem_of_getElem? (i := 763) (by decide +kernel), List.mem_of_getElem? (i := 764) (by decide +kernel)⟩
theorem lw_p34 : lw_okq (⟨"WorksBudgetModel", "worthOf", "(I)J"⟩, 23) := ⟨⟨by decide +kernel, by decide +kernel⟩, List.mem_of_getElem? (i := 602) (by decide +kernel), List.mem_of_getElem? (i := 767) (by decide +kernel), List.mem_of_getElem? (i := 768) (by decide +kernel)⟩
theorem lw_p35 : lw_okq (⟨"WorksBudgetModel", "yearsOf", "(I)I"⟩, 23) := ⟨⟨by decide +kernel, by decide +kernel⟩, List.mem_of_getElem? (i := 602) (by decide +kernel), List.mem_of_getElem? (i := 771) (by decide +kernel), List.mem_of_getElem? (i := 772) (by decide +kernel)⟩
theorem lw_p36 : lw_okq (⟨"WorksBudgetModel", "mostWorth", "(II)J"⟩, 23) := ⟨⟨by decide +kernel, by decide +kernel⟩, List.mem_of_getElem? (i := 602) (by decide +kernel), List.mem_of_getElem? (i := 787) (by decide +kernel), List.mem_of_getElem? (i := 788) (by decide +kernel)⟩
theorem lw_p37 : lw_okq (⟨"WorksBudgetModel", "byPrice", "(JJ)J"⟩, 23) := ⟨⟨by decide +kernel, by decide +kernel⟩, List.mem_of_getElem? (i := 602) (by decide +kernel), List.mem_of_getElem? (i := 791) (by decide +kernel), List.mem_of_getElem? (i := 792) (by decide +kernel)⟩
theorem lw_p38 : lw_okq (⟨"WorksBudgetModel", "savedBy", "(I)J"⟩, 23) := ⟨⟨by decide +kernel, by decide +kernel⟩, List.mem_of_getElem? (i := 602) (by decide +kernel), List.mem_of_getElem? (i := 795) (by decide +kernel), List.mem_of_getElem? (i := 796) (by decide +kernel)⟩
theorem lw_p39 : lw_okq (⟨"WorksBudgetModel", "someHolds", "(I)Z"⟩, 23) := ⟨⟨by decide +kernel, by decide +kernel⟩, List.mem_of_getElem? (i := 602) (by decide +kernel), List.mem_of_getElem? (i := 803) (by decide +kernel), List.mem_of_getElem? (i := 804) (by decide +kernel)⟩
theorem lw_p40 : lw_okq (⟨"WorksBudgetModel", "differ", "(I)I"⟩, 23) := ⟨⟨by decide +kernel, by decide +kernel⟩, List.mem_of_getElem? (i := 602) (by decide +kernel), List.mem_of_getElem? (i := 825) (by decide +kernel), List.mem_of_getElem? (i := 826) (by decide +kernel)⟩
theorem lw_p41 : lw_okq (⟨"WorksBudgetModel", "planBy", "(I)I"⟩, 23) := ⟨⟨by decide +kernel, by decide +kernel⟩, List.mem_of_getElem? (i := 602) (by decide +kernel), List.mem_of_getElem? (i := 849) (by decide +kernel), List.mem_of_getElem? (i := 850) (by decide +kernel)⟩
theorem lw_p42 : lw_okq (⟨"WorksBudgetModel", "comesBefore", "(III)Z"⟩, 23) := ⟨⟨by decide +kernel, by decide +kernel⟩, List.mem_of_getElem? (i := 602) (by decide +kernel), List.mem_of_getElem? (i := 853) (by decide +kernel), List.mem_of_getElem? (i := 854) (by decide +kernel)⟩
def lw_privs_3 : List (MethodName × Nat) := [(⟨"WorksBudgetModel", "spentIn", "(II)J"⟩, 23), (⟨"WorksBudgetModel", "isBetter", "(II)Z"⟩, 23), (⟨"WorksBudgetModel", "worthOf", "(I)J"⟩, 23), (⟨"WorksBudgetModel", "yearsOf", "(I)I"⟩, 23), (⟨"WorksBudgetModel", "mostWorth", "(II)J"⟩, 23), (⟨"WorksBudgetModel", "byPrice", "(JJ)J"⟩, 23), (⟨"WorksBudgetModel", "savedBy", "(I)J"⟩, 23), (⟨"WorksBudgetModel", "someHolds", "(I)Z"⟩, 23), (⟨"WorksBudgetModel", "differ", "(I)I"⟩, 23), (⟨"WorksBudgetModel", "planBy", "(I)I"⟩, 23), (⟨"WorksBudgetModel", "comesBefore", "(III)Z"⟩, 23)]
theorem lw_r3 : ∀ q ∈ lw_privs_3, lw_okq q := List.forall_mem_cons.mpr ⟨lw_p32, List.forall_mem_cons.mpr ⟨lw_p33, List.forall_mem_cons.mpr ⟨lw_p34, List.forall_mem_cons.mpr ⟨lw_p35, List.forall_mem_cons.mpr ⟨lw_p36, List.forall_mem_cons.mpr ⟨lw_p37, List.forall_mem_cons.mpr ⟨lw_p38, List.forall_mem_cons.mpr ⟨lw_p39, List.forall_mem_cons.mpr ⟨lw_p40, List.forall_mem_cons.mpr ⟨lw_p41, List.forall_mem_cons.mpr ⟨lw_p42, fun _ h => absurd h List.not_mem_nil⟩⟩⟩⟩⟩⟩⟩⟩⟩⟩⟩
def lw_privs : List (MethodName × Nat) := lw_privs_1 ++ (lw_privs_2 ++ (lw_privs_3))
def lw_tbl : List Cond := k2_sels lw_privs ++ tables_1
theorem lw_privs_ok : ∀ q ∈ lw_privs, lw_okq q := by
  show ∀ q ∈ lw_privs_1 ++ (lw_privs_2 ++ (lw_privs_3)), lw_okq q
  exact List.forall_mem_append.mpr ⟨lw_r1, List.forall_mem_append.mpr ⟨lw_r2, lw_r3⟩⟩
def F_W : u_T := fun k => match k with
  | 0 => ("WorksBudget$Works", "years", "I", true)
  | 1 => ("WorksBudget$Works", "budgets", "[J", true)
  | 2 => ("WorksBudget$Works", "things", "I", false)
  | 3 => ("WorksBudget$Works", "placeOf", "[I", true)
  | 4 => ("WorksBudget$Works", "districtOf", "[I", true)
  | 5 => ("WorksBudget$Works", "choices", "I", false)
  | 6 => ("WorksBudget$Works", "thingOf", "[I", true)
  | 7 => ("WorksBudget$Works", "yearOf", "[I", true)
  | 8 => ("WorksBudget$Works", "costOf", "[J", true)
  | 9 => ("WorksBudget$Works", "worthOf", "[J", true)
  | 10 => ("WorksBudget$Works", "musts", "I", false)
  | 11 => ("WorksBudget$Works", "joins", "I", false)
  | 12 => ("WorksBudget$Works", "joinedTo", "[I", true)
  | 13 => ("WorksBudget$Works", "saves", "[[J", true)
  | _ => ("WorksBudget$Works", "fairness", "J", false)
def t_W : Nat → FieldType := fun k => match k with
  | 0 => .int
  | 1 => .array .long
  | 2 => .int
  | 3 => .array .int
  | 4 => .array .int
  | 5 => .int
  | 6 => .array .int
  | 7 => .array .int
  | 8 => .array .long
  | 9 => .array .long
  | 10 => .int
  | 11 => .int
  | 12 => .array .int
  | 13 => .array (.array .long)
  | _ => .long
def F_S : u_T := fun k => match k with
  | 0 => ("WorksBudget$Search", "works", "LWorksBudget$Works;", true)
  | 1 => ("WorksBudget$Search", "nodes", "J", false)
  | 2 => ("WorksBudget$Search", "musts", "I", false)
  | 3 => ("WorksBudget$Search", "oldPlan", "I", false)
  | 4 => ("WorksBudget$Search", "compared", "I", false)
  | 5 => ("WorksBudget$Search", "oneIsEnough", "Z", false)
  | 6 => ("WorksBudget$Search", "usedDistricts", "I", false)
  | 7 => ("WorksBudget$Search", "limits", "[J", true)
  | 8 => ("WorksBudget$Search", "savesFrom", "[[J", true)
  | 9 => ("WorksBudget$Search", "worthFrom", "[J", true)
  | 10 => ("WorksBudget$Search", "picked", "I", false)
  | 11 => ("WorksBudget$Search", "taken", "I", false)
  | 12 => ("WorksBudget$Search", "sumOfYears", "I", false)
  | 13 => ("WorksBudget$Search", "gained", "J", false)
  | 14 => ("WorksBudget$Search", "spent", "[J", true)
  | 15 => ("WorksBudget$Search", "gainedIn", "[J", true)
  | 16 => ("WorksBudget$Search", "best", "I", false)
  | 17 => ("WorksBudget$Search", "bestChanges", "I", false)
  | 18 => ("WorksBudget$Search", "bestWorth", "J", false)
  | _ => ("WorksBudget$Search", "bestSumOfYears", "I", false)
def t_S : Nat → FieldType := fun k => match k with
  | 0 => .object "WorksBudget$Works"
  | 1 => .long
  | 2 => .int
  | 3 => .int
  | 4 => .int
  | 5 => .boolean
  | 6 => .int
  | 7 => .array .long
  | 8 => .array (.array .long)
  | 9 => .array .long
  | 10 => .int
  | 11 => .int
  | 12 => .int
  | 13 => .long
  | 14 => .array .long
  | 15 => .array .long
  | 16 => .int
  | 17 => .int
  | 18 => .long
  | _ => .int
def F_N : u_T := fun k => match k with
  | _ => ("WorksBudget$Bounds", "works", "LWorksBudget$Works;", true)
def t_N : Nat → FieldType := fun k => match k with
  | _ => .object "WorksBudget$Works"
def F_P : u_T := fun k => match k with
  | 0 => ("WorksBudget$Policies", "works", "LWorksBudget$Works;", true)
  | _ => ("WorksBudget$Policies", "order", "[I", true)
def t_P : Nat → FieldType := fun k => match k with
  | 0 => .object "WorksBudget$Works"
  | _ => .array .int
def F_B : u_T := fun k => match k with
  | 0 => ("WorksBudget", "works", "LWorksBudget$Works;", true)
  | 1 => ("WorksBudget", "search", "LWorksBudget$Search;", true)
  | 2 => ("WorksBudget", "bounds", "LWorksBudget$Bounds;", true)
  | 3 => ("WorksBudget", "policies", "LWorksBudget$Policies;", true)
  | 4 => ("WorksBudget", "plan", "I", false)
  | 5 => ("WorksBudget", "oldPlan", "I", false)
  | 6 => ("WorksBudget", "provedByRun", "Z", false)
  | 7 => ("WorksBudget", "bestIsKnown", "Z", false)
  | 8 => ("WorksBudget", "bestOfAll", "I", false)
  | 9 => ("WorksBudget", "clashIsKnown", "Z", false)
  | _ => ("WorksBudget", "clashing", "I", false)
def t_B : Nat → FieldType := fun k => match k with
  | 0 => .object "WorksBudget$Works"
  | 1 => .object "WorksBudget$Search"
  | 2 => .object "WorksBudget$Bounds"
  | 3 => .object "WorksBudget$Policies"
  | 4 => .int
  | 5 => .int
  | 6 => .boolean
  | 7 => .boolean
  | 8 => .int
  | 9 => .boolean
  | _ => .int
def F_M : u_T := fun k => match k with
  | 0 => ("WorksBudgetModel", "years", "I", true)
  | 1 => ("WorksBudgetModel", "things", "I", false)
  | 2 => ("WorksBudgetModel", "places", "[I", true)
  | 3 => ("WorksBudgetModel", "districts", "[I", true)
  | 4 => ("WorksBudgetModel", "choices", "I", false)
  | 5 => ("WorksBudgetModel", "thingOf", "[I", true)
  | 6 => ("WorksBudgetModel", "yearOf", "[I", true)
  | 7 => ("WorksBudgetModel", "costs", "[J", true)
  | 8 => ("WorksBudgetModel", "worths", "[J", true)
  | 9 => ("WorksBudgetModel", "musts", "I", false)
  | 10 => ("WorksBudgetModel", "budgets", "[J", true)
  | 11 => ("WorksBudgetModel", "joins", "I", false)
  | 12 => ("WorksBudgetModel", "joinA", "[I", true)
  | 13 => ("WorksBudgetModel", "joinB", "[I", true)
  | 14 => ("WorksBudgetModel", "saves", "[J", true)
  | 15 => ("WorksBudgetModel", "fairness", "J", false)
  | 16 => ("WorksBudgetModel", "plan", "I", false)
  | 17 => ("WorksBudgetModel", "old", "I", false)
  | 18 => ("WorksBudgetModel", "isProved", "Z", false)
  | 19 => ("WorksBudgetModel", "spent", "[J", true)
  | 20 => ("WorksBudgetModel", "parts", "[J", true)
  | 21 => ("WorksBudgetModel", "order", "[I", true)
  | _ => ("WorksBudgetModel", "ranks", "[I", true)
def t_M : Nat → FieldType := fun k => match k with
  | 0 => .int
  | 1 => .int
  | 2 => .array .int
  | 3 => .array .int
  | 4 => .int
  | 5 => .array .int
  | 6 => .array .int
  | 7 => .array .long
  | 8 => .array .long
  | 9 => .int
  | 10 => .array .long
  | 11 => .int
  | 12 => .array .int
  | 13 => .array .int
  | 14 => .array .long
  | 15 => .long
  | 16 => .int
  | 17 => .int
  | 18 => .boolean
  | 19 => .array .long
  | 20 => .array .long
  | 21 => .array .int
  | _ => .array .int
abbrev am_cl : List vw_C := [("WorksBudget$Works", F_W, 15), ("WorksBudget$Search", F_S, 20), ("WorksBudget$Bounds", F_N, 1), ("WorksBudget$Policies", F_P, 2), ("WorksBudget", F_B, 11), ("WorksBudgetModel", F_M, 23)]
abbrev am_ty : List FieldType := [.int, .long, .array .long]
abbrev am_nm : List (String × Nat × MethodName × String) := [("WorksBudget$Works", 58, ⟨"WorksBudget", "isIn", "(II)Z"⟩, "WorksBudget"), ("WorksBudget$Search", 124, ⟨"WorksBudget", "isIn", "(II)Z"⟩, "WorksBudget")]
abbrev am_nf : List (String × Nat × String × String × String × String) := []
def am_k : Nat := 40
def am_T : List Cond := lw_tbl.filter goodWord
theorem am_good : ∀ w ∈ am_T, (w.onTables && w.keeps) = true ∨ ∃ ty, w = .arrayClass ty := fun w h => good_of_word (List.mem_filter.mp h).2
theorem am_lw {w : Cond} (h : w ∈ am_T) : w ∈ lw_tbl := (List.mem_filter.mp h).1
theorem am_in0 {w : Cond} {i : Nat} (h : (k2_sels lw_privs)[i]? = some w) (g : goodWord w = true) : w ∈ am_T := List.mem_filter.mpr ⟨List.mem_append_left _ (List.mem_of_getElem? h), g⟩
theorem am_in1 {w : Cond} {i : Nat} (h : tables_1_1[i]? = some w) (g : goodWord w = true) : w ∈ am_T := List.mem_filter.mpr ⟨List.mem_append_right _ (List.mem_append_left _ (List.mem_of_getElem? h)), g⟩
theorem am_in2 {w : Cond} {i : Nat} (h : tables_1_2[i]? = some w) (g : goodWord w = true) : w ∈ am_T := List.mem_filter.mpr ⟨List.mem_append_right _ (List.mem_append_right _ (List.mem_append_left _ (List.mem_of_getElem? h))), g⟩
theorem am_in3 {w : Cond} {i : Nat} (h : tables_1_3[i]? = some w) (g : goodWord w = true) : w ∈ am_T := List.mem_filter.mpr ⟨List.mem_append_right _ (List.mem_append_right _ (List.mem_append_right _ (List.mem_append_left _ (List.mem_of_getElem? h)))), g⟩
theorem am_in4 {w : Cond} {i : Nat} (h : tables_1_4[i]? = some w) (g : goodWord w = true) : w ∈ am_T := List.mem_filter.mpr ⟨List.mem_append_right _ (List.mem_append_right _ (List.mem_append_right _ (List.mem_append_right _ (List.mem_of_getElem? h)))), g⟩
theorem nm_0 : Cond.methodLinkNest "WorksBudget$Works" 58 ⟨"WorksBudget", "isIn", "(II)Z"⟩ "WorksBudget" ∈ lw_tbl := List.mem_append_right _ (List.mem_append_right _ (List.mem_append_left _ (List.mem_of_getElem? (i := 50) rfl)))
theorem nm_1 : Cond.methodLinkNest "WorksBudget$Search" 124 ⟨"WorksBudget", "isIn", "(II)Z"⟩ "WorksBudget" ∈ lw_tbl := List.mem_append_right _ (List.mem_append_right _ (List.mem_append_left _ (List.mem_of_getElem? (i := 123) rfl)))
