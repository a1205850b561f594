section
-- ===== PART A: goes FIRST, ahead of the names: the tables' words, and 'selects' of the private methods out of them =====
/-- a private method of a class that the tables say can be made, by its rows of tables_1 -/
def lw_okq (q : MethodName × Nat) : Prop := (q.1.cls ≠ "java/lang/invoke/MethodHandle" ∧ q.1.cls ≠ "java/lang/invoke/VarHandle") ∧ Cond.instantiable q.1.cls q.2 ∈ tables_1 ∧ Cond.privateMethod q.1 ∈ tables_1 ∧ Cond.instanceMethod q.1 ∈ tables_1
theorem lw_p0 : lw_okq (⟨"WorksBudget", "forget", "()V"⟩, 11) := ⟨⟨by decide +kernel, by decide +kernel⟩, List.mem_of_getElem? (i := 11) (by decide +kernel), List.mem_of_getElem? (i := 239) (by decide +kernel), List.mem_of_getElem? (i := 240) (by decide +kernel)⟩
theorem lw_p1 : lw_okq (⟨"WorksBudget$Search", "prepare", "(JI)V"⟩, 20) := ⟨⟨by decide +kernel, by decide +kernel⟩, List.mem_of_getElem? (i := 110) (by decide +kernel), List.mem_of_getElem? (i := 321) (by decide +kernel), List.mem_of_getElem? (i := 322) (by decide +kernel)⟩
theorem lw_p2 : lw_okq (⟨"WorksBudget$Search", "prepareRests", "()V"⟩, 20) := ⟨⟨by decide +kernel, by decide +kernel⟩, List.mem_of_getElem? (i := 110) (by decide +kernel), List.mem_of_getElem? (i := 329) (by decide +kernel), List.mem_of_getElem? (i := 330) (by decide +kernel)⟩
theorem lw_p3 : lw_okq (⟨"WorksBudget$Search", "lookFrom", "(IJ)V"⟩, 20) := ⟨⟨by decide +kernel, by decide +kernel⟩, List.mem_of_getElem? (i := 110) (by decide +kernel), List.mem_of_getElem? (i := 337) (by decide +kernel), List.mem_of_getElem? (i := 338) (by decide +kernel)⟩
theorem lw_p4 : lw_okq (⟨"WorksBudget$Search", "isHopeless", "(I)Z"⟩, 20) := ⟨⟨by decide +kernel, by decide +kernel⟩, List.mem_of_getElem? (i := 110) (by decide +kernel), List.mem_of_getElem? (i := 341) (by decide +kernel), List.mem_of_getElem? (i := 342) (by decide +kernel)⟩
theorem lw_p5 : lw_okq (⟨"WorksBudget$Search", "countOfChanges", "(I)I"⟩, 20) := ⟨⟨by decide +kernel, by decide +kernel⟩, List.mem_of_getElem? (i := 110) (by decide +kernel), List.mem_of_getElem? (i := 345) (by decide +kernel), List.mem_of_getElem? (i := 346) (by decide +kernel)⟩
theorem lw_p6 : lw_okq (⟨"WorksBudget$Search", "weigh", "()V"⟩, 20) := ⟨⟨by decide +kernel, by decide +kernel⟩, List.mem_of_getElem? (i := 110) (by decide +kernel), List.mem_of_getElem? (i := 355) (by decide +kernel), List.mem_of_getElem? (i := 356) (by decide +kernel)⟩
theorem lw_p7 : lw_okq (⟨"WorksBudget$Search", "isFair", "()Z"⟩, 20) := ⟨⟨by decide +kernel, by decide +kernel⟩, List.mem_of_getElem? (i := 110) (by decide +kernel), List.mem_of_getElem? (i := 359) (by decide +kernel), List.mem_of_getElem? (i := 360) (by decide +kernel)⟩
theorem lw_p8 : lw_okq (⟨"WorksBudget$Search", "isBetter", "(I)Z"⟩, 20) := ⟨⟨by decide +kernel, by decide +kernel⟩, List.mem_of_getElem? (i := 110) (by decide +kernel), List.mem_of_getElem? (i := 365) (by decide +kernel), List.mem_of_getElem? (i := 366) (by decide +kernel)⟩
theorem lw_p9 : lw_okq (⟨"WorksBudget$Search", "lookWith", "(IJ)V"⟩, 20) := ⟨⟨by decide +kernel, by decide +kernel⟩, List.mem_of_getElem? (i := 110) (by decide +kernel), List.mem_of_getElem? (i := 369) (by decide +kernel), List.mem_of_getElem? (i := 370) (by decide +kernel)⟩
theorem lw_p10 : lw_okq (⟨"WorksBudget$Search", "pick", "(II)V"⟩, 20) := ⟨⟨by decide +kernel, by decide +kernel⟩, List.mem_of_getElem? (i := 110) (by decide +kernel), List.mem_of_getElem? (i := 373) (by decide +kernel), List.mem_of_getElem? (i := 374) (by decide +kernel)⟩
theorem lw_p11 : lw_okq (⟨"WorksBudget$Search", "isOverspent", "(I)Z"⟩, 20) := ⟨⟨by decide +kernel, by decide +kernel⟩, List.mem_of_getElem? (i := 110) (by decide +kernel), List.mem_of_getElem? (i := 381) (by decide +kernel), List.mem_of_getElem? (i := 382) (by decide +kernel)⟩
theorem lw_p12 : lw_okq (⟨"WorksBudget$Search", "lookWithout", "(IJ)V"⟩, 20) := ⟨⟨by decide +kernel, by decide +kernel⟩, List.mem_of_getElem? (i := 110) (by decide +kernel), List.mem_of_getElem? (i := 385) (by decide +kernel), List.mem_of_getElem? (i := 386) (by decide +kernel)⟩
theorem lw_p13 : lw_okq (⟨"WorksBudget", "planOrNothing", "()I"⟩, 11) := ⟨⟨by decide +kernel, by decide +kernel⟩, List.mem_of_getElem? (i := 11) (by decide +kernel), List.mem_of_getElem? (i := 397) (by decide +kernel), List.mem_of_getElem? (i := 398) (by decide +kernel)⟩
theorem lw_p14 : lw_okq (⟨"WorksBudget$Bounds", "byPrice", "(JJJ)J"⟩, 1) := ⟨⟨by decide +kernel, by decide +kernel⟩, List.mem_of_getElem? (i := 178) (by decide +kernel), List.mem_of_getElem? (i := 432) (by decide +kernel), List.mem_of_getElem? (i := 433) (by decide +kernel)⟩
theorem lw_p15 : lw_okq (⟨"WorksBudget$Bounds", "mostPartsOf", "(IJJ)J"⟩, 1) := ⟨⟨by decide +kernel, by decide +kernel⟩, List.mem_of_getElem? (i := 178) (by decide +kernel), List.mem_of_getElem? (i := 436) (by decide +kernel), List.mem_of_getElem? (i := 437) (by decide +kernel)⟩
def lw_privs_1 : List (MethodName × Nat) := [(⟨"WorksBudget", "forget", "()V"⟩, 11), (⟨"WorksBudget$Search", "prepare", "(JI)V"⟩, 20), (⟨"WorksBudget$Search", "prepareRests", "()V"⟩, 20), (⟨"WorksBudget$Search", "lookFrom", "(IJ)V"⟩, 20), (⟨"WorksBudget$Search", "isHopeless", "(I)Z"⟩, 20), (⟨"WorksBudget$Search", "countOfChanges", "(I)I"⟩, 20), (⟨"WorksBudget$Search", "weigh", "()V"⟩, 20), (⟨"WorksBudget$Search", "isFair", "()Z"⟩, 20), (⟨"WorksBudget$Search", "isBetter", "(I)Z"⟩, 20), (⟨"WorksBudget$Search", "lookWith", "(IJ)V"⟩, 20), (⟨"WorksBudget$Search", "pick", "(II)V"⟩, 20), (⟨"WorksBudget$Search", "isOverspent", "(I)Z"⟩, 20), (⟨"WorksBudget$Search", "lookWithout", "(IJ)V"⟩, 20), (⟨"WorksBudget", "planOrNothing", "()I"⟩, 11), (⟨"WorksBudget$Bounds", "byPrice", "(JJJ)J"⟩, 1), (⟨"WorksBudget$Bounds", "mostPartsOf", "(IJJ)J"⟩, 1)]
theorem lw_r1 : ∀ q ∈ lw_privs_1, lw_okq q := List.forall_mem_cons.mpr ⟨lw_p0, List.forall_mem_cons.mpr ⟨lw_p1, List.forall_mem_cons.mpr ⟨lw_p2, List.forall_mem_cons.mpr ⟨lw_p3, List.forall_mem_cons.mpr ⟨lw_p4, List.forall_mem_cons.mpr ⟨lw_p5, List.forall_mem_cons.mpr ⟨lw_p6, List.forall_mem_cons.mpr ⟨lw_p7, List.forall_mem_cons.mpr ⟨lw_p8, List.forall_mem_cons.mpr ⟨lw_p9, List.forall_mem_cons.mpr ⟨lw_p10, List.forall_mem_cons.mpr ⟨lw_p11, List.forall_mem_cons.mpr ⟨lw_p12, List.forall_mem_cons.mpr ⟨lw_p13, List.forall_mem_cons.mpr ⟨lw_p14, List.forall_mem_cons.mpr ⟨lw_p15, fun _ h => absurd h List.not_mem_nil⟩⟩⟩⟩⟩⟩⟩⟩⟩⟩⟩⟩⟩⟩⟩⟩
theorem lw_p16 : lw_okq (⟨"WorksBudget", "clashingMusts", "()I"⟩, 11) := ⟨⟨by decide +kernel, by decide +kernel⟩, List.mem_of_getElem? (i := 11) (by decide +kernel), List.mem_of_getElem? (i := 458) (by decide +kernel), List.mem_of_getElem? (i := 459) (by decide +kernel)⟩
theorem lw_p17 : lw_okq (⟨"WorksBudget", "gainOfBest", "(I)J"⟩, 11) := ⟨⟨by decide +kernel, by decide +kernel⟩, List.mem_of_getElem? (i := 11) (by decide +kernel), List.mem_of_getElem? (i := 473) (by decide +kernel), List.mem_of_getElem? (i := 474) (by decide +kernel)⟩
theorem lw_p18 : lw_okq (⟨"WorksBudget", "countOfThingsBefore", "(I)I"⟩, 11) := ⟨⟨by decide +kernel, by decide +kernel⟩, List.mem_of_getElem? (i := 11) (by decide +kernel), List.mem_of_getElem? (i := 514) (by decide +kernel), List.mem_of_getElem? (i := 515) (by decide +kernel)⟩
theorem lw_p19 : lw_okq (⟨"WorksBudget$Policies", "isPossible", "(I)Z"⟩, 2) := ⟨⟨by decide +kernel, by decide +kernel⟩, List.mem_of_getElem? (i := 188) (by decide +kernel), List.mem_of_getElem? (i := 543) (by decide +kernel), List.mem_of_getElem? (i := 544) (by decide +kernel)⟩
theorem lw_p20 : lw_okq (⟨"WorksBudget$Policies", "putInOrder", "(I)V"⟩, 2) := ⟨⟨by decide +kernel, by decide +kernel⟩, List.mem_of_getElem? (i := 188) (by decide +kernel), List.mem_of_getElem? (i := 563) (by decide +kernel), List.mem_of_getElem? (i := 564) (by decide +kernel)⟩
theorem lw_p21 : lw_okq (⟨"WorksBudget$Policies", "goesBefore", "(III)Z"⟩, 2) := ⟨⟨by decide +kernel, by decide +kernel⟩, List.mem_of_getElem? (i := 188) (by decide +kernel), List.mem_of_getElem? (i := 567) (by decide +kernel), List.mem_of_getElem? (i := 568) (by decide +kernel)⟩
theorem lw_p22 : lw_okq (⟨"WorksBudget$Policies", "leadByWorthByCost", "(II)J"⟩, 2) := ⟨⟨by decide +kernel, by decide +kernel⟩, List.mem_of_getElem? (i := 188) (by decide +kernel), List.mem_of_getElem? (i := 571) (by decide +kernel), List.mem_of_getElem? (i := 572) (by decide +kernel)⟩
theorem lw_p23 : lw_okq (⟨"WorksBudgetModel", "tell", "()V"⟩, 23) := ⟨⟨by decide +kernel, by decide +kernel⟩, List.mem_of_getElem? (i := 602) (by decide +kernel), List.mem_of_getElem? (i := 687) (by decide +kernel), List.mem_of_getElem? (i := 688) (by decide +kernel)⟩
theorem lw_p24 : lw_okq (⟨"WorksBudgetModel", "isChoice", "(I)Z"⟩, 23) := ⟨⟨by decide +kernel, by decide +kernel⟩, List.mem_of_getElem? (i := 602) (by decide +kernel), List.mem_of_getElem? (i := 700) (by decide +kernel), List.mem_of_getElem? (i := 701) (by decide +kernel)⟩
theorem lw_p25 : lw_okq (⟨"WorksBudgetModel", "isYear", "(I)Z"⟩, 23) := ⟨⟨by decide +kernel, by decide +kernel⟩, List.mem_of_getElem? (i := 602) (by decide +kernel), List.mem_of_getElem? (i := 711) (by decide +kernel), List.mem_of_getElem? (i := 712) (by decide +kernel)⟩
theorem lw_p26 : lw_okq (⟨"WorksBudgetModel", "best", "(J)I"⟩, 23) := ⟨⟨by decide +kernel, by decide +kernel⟩, List.mem_of_getElem? (i := 602) (by decide +kernel), List.mem_of_getElem? (i := 735) (by decide +kernel), List.mem_of_getElem? (i := 736) (by decide +kernel)⟩
theorem lw_p27 : lw_okq (⟨"WorksBudgetModel", "setAt", "(I)I"⟩, 23) := ⟨⟨by decide +kernel, by decide +kernel⟩, List.mem_of_getElem? (i := 602) (by decide +kernel), List.mem_of_getElem? (i := 739) (by decide +kernel), List.mem_of_getElem? (i := 740) (by decide +kernel)⟩
theorem lw_p28 : lw_okq (⟨"WorksBudgetModel", "holdsWith", "(II)Z"⟩, 23) := ⟨⟨by decide +kernel, by decide +kernel⟩, List.mem_of_getElem? (i := 602) (by decide +kernel), List.mem_of_getElem? (i := 743) (by decide +kernel), List.mem_of_getElem? (i := 744) (by decide +kernel)⟩
theorem lw_p29 : lw_okq (⟨"WorksBudgetModel", "isPlan", "(I)Z"⟩, 23) := ⟨⟨by decide +kernel, by decide +kernel⟩, List.mem_of_getElem? (i := 602) (by decide +kernel), List.mem_of_getElem? (i := 747) (by decide +kernel), List.mem_of_getElem? (i := 748) (by decide +kernel)⟩
theorem lw_p30 : lw_okq (⟨"WorksBudgetModel", "isFair", "(I)Z"⟩, 23) := ⟨⟨by decide +kernel, by decide +kernel⟩, List.mem_of_getElem? (i := 602) (by decide +kernel), List.mem_of_getElem? (i := 751) (by decide +kernel), List.mem_of_getElem? (i := 752) (by decide +kernel)⟩
theorem lw_p31 : lw_okq (⟨"WorksBudgetModel", "fits", "(I)Z"⟩, 23) := ⟨⟨by decide +kernel, by decide +kernel⟩, List.mem_of_getElem? (i := 602) (by decide +kernel), List.mem_of_getElem? (i := 755) (by decide +kernel), List.mem_of_getElem? (i := 756) (by decide +kernel)⟩
def lw_privs_2 : List (MethodName × Nat) := [(⟨"WorksBudget", "clashingMusts", "()I"⟩, 11), (⟨"WorksBudget", "gainOfBest", "(I)J"⟩, 11), (⟨"WorksBudget", "countOfThingsBefore", "(I)I"⟩, 11), (⟨"WorksBudget$Policies", "isPossible", "(I)Z"⟩, 2), (⟨"WorksBudget$Policies", "putInOrder", "(I)V"⟩, 2), (⟨"WorksBudget$Policies", "goesBefore", "(III)Z"⟩, 2), (⟨"WorksBudget$Policies", "leadByWorthByCost", "(II)J"⟩, 2), (⟨"WorksBudgetModel", "tell", "()V"⟩, 23), (⟨"WorksBudgetModel", "isChoice", "(I)Z"⟩, 23), (⟨"WorksBudgetModel", "isYear", "(I)Z"⟩, 23), (⟨"WorksBudgetModel", "best", "(J)I"⟩, 23), (⟨"WorksBudgetModel", "setAt", "(I)I"⟩, 23), (⟨"WorksBudgetModel", "holdsWith", "(II)Z"⟩, 23), (⟨"WorksBudgetModel", "isPlan", "(I)Z"⟩, 23), (⟨"WorksBudgetModel", "isFair", "(I)Z"⟩, 23), (⟨"WorksBudgetModel", "fits", "(I)Z"⟩, 23)]
theorem lw_r2 : ∀ q ∈ lw_privs_2, lw_okq q := List.forall_mem_cons.mpr ⟨lw_p16, List.forall_mem_cons.mpr ⟨lw_p17, List.forall_mem_cons.mpr ⟨lw_p18, List.forall_mem_cons.mpr ⟨lw_p19, List.forall_mem_cons.mpr ⟨lw_p20, List.forall_mem_cons.mpr ⟨lw_p21, List.forall_mem_cons.mpr ⟨lw_p22, List.forall_mem_cons.mpr ⟨lw_p23, List.forall_mem_cons.mpr ⟨lw_p24, List.forall_mem_cons.mpr ⟨lw_p25, List.forall_mem_cons.mpr ⟨lw_p26, List.forall_mem_cons.mpr ⟨lw_p27, List.forall_mem_cons.mpr ⟨lw_p28, List.forall_mem_cons.mpr ⟨lw_p29, List.forall_mem_cons.mpr ⟨lw_p30, List.forall_mem_cons.mpr ⟨lw_p31, fun _ h => absurd h List.not_mem_nil⟩⟩⟩⟩⟩⟩⟩⟩⟩⟩⟩⟩⟩⟩⟩⟩
theorem lw_p32 : lw_okq (⟨"WorksBudgetModel", "spentIn", "(II)J"⟩, 23) := ⟨⟨by decide +kernel, by decide +kernel⟩, List.mem_of_getElem? (i := 602) (by decide +kernel), List.mem_of_getElem? (i := 759) (by decide +kernel), List.mem_of_getElem? (i := 760) (by decide +kernel)⟩
theorem lw_p33 : lw_okq (⟨"WorksBudgetModel", "isBetter", "(II)Z"⟩, 23) := ⟨⟨by decide +kernel, by decide +kernel⟩, List.mem_of_getElem? (i := 602) (by decide +kernel), List.mem_of_getElem? (i := 763) (by decide +kernel), List.mem_of_getElem? (i := 764) (by decide +kernel)⟩
theorem lw_p34 : lw_okq (⟨"WorksBudgetModel", "worthOf", "(I)J"⟩, 23) := ⟨⟨by decide +kernel, by decide +kernel⟩, List.mem_of_getElem? (i := 602) (by decide +kernel), List.mem_of_getElem? (i := 767) (by decide +kernel), List.mem_of_getElem? (i := 768) (by decide +kernel)⟩
theorem lw_p35 : lw_okq (⟨"WorksBudgetModel", "yearsOf", "(I)I"⟩, 23) := ⟨⟨by decide +kernel, by decide +kernel⟩, List.mem_of_getElem? (i := 602) (by decide +kernel), List.mem_of_getElem? (i := 771) (by decide +kernel), List.mem_of_getElem? (i := 772) (by decide +kernel)⟩
theorem lw_p36 : lw_okq (⟨"WorksBudgetModel", "mostWorth", "(II)J"⟩, 23) := ⟨⟨by decide +kernel, by decide +kernel⟩, List.mem_of_getElem? (i := 602) (by decide +kernel), List.mem_of_getElem? (i := 787) (by decide +kernel), List.mem_of_getElem? (i := 788) (by decide +kernel)⟩
theorem lw_p37 : lw_okq (⟨"WorksBudgetModel", "byPrice", "(JJ)J"⟩, 23) := ⟨⟨by decide +kernel, by decide +kernel⟩, List.mem_of_getElem? (i := 602) (by decide +kernel), List.mem_of_getElem? (i := 791) (by decide +kernel), List.mem_of_getElem? (i := 792) (by decide +kernel)⟩
theorem lw_p38 : lw_okq (⟨"WorksBudgetModel", "savedBy", "(I)J"⟩, 23) := ⟨⟨by decide +kernel, by decide +kernel⟩, List.mem_of_getElem? (i := 602) (by decide +kernel), List.mem_of_getElem? (i := 795) (by decide +kernel), List.mem_of_getElem? (i := 796) (by decide +kernel)⟩
theorem lw_p39 : lw_okq (⟨"WorksBudgetModel", "someHolds", "(I)Z"⟩, 23) := ⟨⟨by decide +kernel, by decide +kernel⟩, List.mem_of_getElem? (i := 602) (by decide +kernel), List.mem_of_getElem? (i := 803) (by decide +kernel), List.mem_of_getElem? (i := 804) (by decide +kernel)⟩
theorem lw_p40 : lw_okq (⟨"WorksBudgetModel", "differ", "(I)I"⟩, 23) := ⟨⟨by decide +kernel, by decide +kernel⟩, List.mem_of_getElem? (i := 602) (by decide +kernel), List.mem_of_getElem? (i := 825) (by decide +kernel), List.mem_of_getElem? (i := 826) (by decide +kernel)⟩
theorem lw_p41 : lw_okq (⟨"WorksBudgetModel", "planBy", "(I)I"⟩, 23) := ⟨⟨by decide +kernel, by decide +kernel⟩, List.mem_of_getElem? (i := 602) (by decide +kernel), List.mem_of_getElem? (i := 849) (by decide +kernel), List.mem_of_getElem? (i := 850) (by decide +kernel)⟩
theorem lw_p42 : lw_okq (⟨"WorksBudgetModel", "comesBefore", "(III)Z"⟩, 23) := ⟨⟨by decide +kernel, by decide +kernel⟩, List.mem_of_getElem? (i := 602) (by decide +kernel), List.mem_of_getElem? (i := 853) (by decide +kernel), List.mem_of_getElem? (i := 854) (by decide +kernel)⟩
def lw_privs_3 : List (MethodName × Nat) := [(⟨"WorksBudgetModel", "spentIn", "(II)J"⟩, 23), (⟨"WorksBudgetModel", "isBetter", "(II)Z"⟩, 23), (⟨"WorksBudgetModel", "worthOf", "(I)J"⟩, 23), (⟨"WorksBudgetModel", "yearsOf", "(I)I"⟩, 23), (⟨"WorksBudgetModel", "mostWorth", "(II)J"⟩, 23), (⟨"WorksBudgetModel", "byPrice", "(JJ)J"⟩, 23), (⟨"WorksBudgetModel", "savedBy", "(I)J"⟩, 23), (⟨"WorksBudgetModel", "someHolds", "(I)Z"⟩, 23), (⟨"WorksBudgetModel", "differ", "(I)I"⟩, 23), (⟨"WorksBudgetModel", "planBy", "(I)I"⟩, 23), (⟨"WorksBudgetModel", "comesBefore", "(III)Z"⟩, 23)]
theorem lw_r3 : ∀ q ∈ lw_privs_3, lw_okq q := List.forall_mem_cons.mpr ⟨lw_p32, List.forall_mem_cons.mpr ⟨lw_p33, List.forall_mem_cons.mpr ⟨lw_p34, List.forall_mem_cons.mpr ⟨lw_p35, List.forall_mem_cons.mpr ⟨lw_p36, List.forall_mem_cons.mpr ⟨lw_p37, List.forall_mem_cons.mpr ⟨lw_p38, List.forall_mem_cons.mpr ⟨lw_p39, List.forall_mem_cons.mpr ⟨lw_p40, List.forall_mem_cons.mpr ⟨lw_p41, List.forall_mem_cons.mpr ⟨lw_p42, fun _ h => absurd h List.not_mem_nil⟩⟩⟩⟩⟩⟩⟩⟩⟩⟩⟩
def lw_privs : List (MethodName × Nat) := lw_privs_1 ++ (lw_privs_2 ++ (lw_privs_3))
def lw_tbl : List Cond := k2_sels lw_privs ++ tables_1
theorem lw_privs_ok : ∀ q ∈ lw_privs, lw_okq q := by
  show ∀ q ∈ lw_privs_1 ++ (lw_privs_2 ++ (lw_privs_3)), lw_okq q
  exact List.forall_mem_append.mpr ⟨lw_r1, List.forall_mem_append.mpr ⟨lw_r2, lw_r3⟩⟩
def F_W : u_T := fun k => match k with
  | 0 => ("WorksBudget$Works", "years", "I", true)
  | 1 => ("WorksBudget$Works", "budgets", "[J", true)
  | 2 => ("WorksBudget$Works", "things", "I", false)
  | 3 => ("WorksBudget$Works", "placeOf", "[I", true)
  | 4 => ("WorksBudget$Works", "districtOf", "[I", true)
  | 5 => ("WorksBudget$Works", "choices", "I", false)
  | 6 => ("WorksBudget$Works", "thingOf", "[I", true)
  | 7 => ("WorksBudget$Works", "yearOf", "[I", true)
  | 8 => ("WorksBudget$Works", "costOf", "[J", true)
  | 9 => ("WorksBudget$Works", "worthOf", "[J", true)
  | 10 => ("WorksBudget$Works", "musts", "I", false)
  | 11 => ("WorksBudget$Works", "joins", "I", false)
  | 12 => ("WorksBudget$Works", "joinedTo", "[I", true)
  | 13 => ("WorksBudget$Works", "saves", "[[J", true)
  | _ => ("WorksBudget$Works", "fairness", "J", false)
def t_W : Nat → FieldType := fun k => match k with
  | 0 => .int
  | 1 => .array .long
  | 2 => .int
  | 3 => .array .int
  | 4 => .array .int
  | 5 => .int
  | 6 => .array .int
  | 7 => .array .int
  | 8 => .array .long
  | 9 => .array .long
  | 10 => .int
  | 11 => .int
  | 12 => .array .int
  | 13 => .array (.array .long)
  | _ => .long
def F_S : u_T := fun k => match k with
  | 0 => ("WorksBudget$Search", "works", "LWorksBudget$Works;", true)
  | 1 => ("WorksBudget$Search", "nodes", "J", false)
  | 2 => ("WorksBudget$Search", "musts", "I", false)
  | 3 => ("WorksBudget$Search", "oldPlan", "I", false)
  | 4 => ("WorksBudget$Search", "compared", "I", false)
  | 5 => ("WorksBudget$Search", "oneIsEnough", "Z", false)
  | 6 => ("WorksBudget$Search", "usedDistricts", "I", false)
  | 7 => ("WorksBudget$Search", "limits", "[J", true)
  | 8 => ("WorksBudget$Search", "savesFrom", "[[J", true)
  | 9 => ("WorksBudget$Search", "worthFrom", "[J", true)
  | 10 => ("WorksBudget$Search", "picked", "I", false)
  | 11 => ("WorksBudget$Search", "taken", "I", false)
  | 12 => ("WorksBudget$Search", "sumOfYears", "I", false)
  | 13 => ("WorksBudget$Search", "gained", "J", false)
  | 14 => ("WorksBudget$Search", "spent", "[J", true)
  | 15 => ("WorksBudget$Search", "gainedIn", "[J", true)
  | 16 => ("WorksBudget$Search", "best", "I", false)
  | 17 => ("WorksBudget$Search", "bestChanges", "I", false)
  | 18 => ("WorksBudget$Search", "bestWorth", "J", false)
  | _ => ("WorksBudget$Search", "bestSumOfYears", "I", false)
def t_S : Nat → FieldType := fun k => match k with
  | 0 => .object "WorksBudget$Works"
  | 1 => .long
  | 2 => .int
  | 3 => .int
  | 4 => .int
  | 5 => .boolean
  | 6 => .int
  | 7 => .array .long
  | 8 => .array (.array .long)
  | 9 => .array .long
  | 10 => .int
  | 11 => .int
  | 12 => .int
  | 13 => .long
  | 14 => .array .long
  | 15 => .array .long
  | 16 => .int
  | 17 => .int
  | 18 => .long
  | _ => .int
def F_N : u_T := fun k => match k with
  | _ => ("WorksBudget$Bounds", "works", "LWorksBudget$Works;", true)
def t_N : Nat → FieldType := fun k => match k with
  | _ => .object "WorksBudget$Works"
def F_P : u_T := fun k => match k with
  | 0 => ("WorksBudget$Policies", "works", "LWorksBudget$Works;", true)
  | _ => ("WorksBudget$Policies", "order", "[I", true)
def t_P : Nat → FieldType := fun k => match k with
  | 0 => .object "WorksBudget$Works"
  | _ => .array .int
def F_B : u_T := fun k => match k with
  | 0 => ("WorksBudget", "works", "LWorksBudget$Works;", true)
  | 1 => ("WorksBudget", "search", "LWorksBudget$Search;", true)
  | 2 => ("WorksBudget", "bounds", "LWorksBudget$Bounds;", true)
  | 3 => ("WorksBudget", "policies", "LWorksBudget$Policies;", true)
  | 4 => ("WorksBudget", "plan", "I", false)
  | 5 => ("WorksBudget", "oldPlan", "I", false)
  | 6 => ("WorksBudget", "provedByRun", "Z", false)
  | 7 => ("WorksBudget", "bestIsKnown", "Z", false)
  | 8 => ("WorksBudget", "bestOfAll", "I", false)
  | 9 => ("WorksBudget", "clashIsKnown", "Z", false)
  | _ => ("WorksBudget", "clashing", "I", false)
def t_B : Nat → FieldType := fun k => match k with
  | 0 => .object "WorksBudget$Works"
  | 1 => .object "WorksBudget$Search"
  | 2 => .object "WorksBudget$Bounds"
  | 3 => .object "WorksBudget$Policies"
  | 4 => .int
  | 5 => .int
  | 6 => .boolean
  | 7 => .boolean
  | 8 => .int
  | 9 => .boolean
  | _ => .int
def F_M : u_T := fun k => match k with
  | 0 => ("WorksBudgetModel", "years", "I", true)
  | 1 => ("WorksBudgetModel", "things", "I", false)
  | 2 => ("WorksBudgetModel", "places", "[I", true)
  | 3 => ("WorksBudgetModel", "districts", "[I", true)
  | 4 => ("WorksBudgetModel", "choices", "I", false)
  | 5 => ("WorksBudgetModel", "thingOf", "[I", true)
  | 6 => ("WorksBudgetModel", "yearOf", "[I", true)
  | 7 => ("WorksBudgetModel", "costs", "[J", true)
  | 8 => ("WorksBudgetModel", "worths", "[J", true)
  | 9 => ("WorksBudgetModel", "musts", "I", false)
  | 10 => ("WorksBudgetModel", "budgets", "[J", true)
  | 11 => ("WorksBudgetModel", "joins", "I", false)
  | 12 => ("WorksBudgetModel", "joinA", "[I", true)
  | 13 => ("WorksBudgetModel", "joinB", "[I", true)
  | 14 => ("WorksBudgetModel", "saves", "[J", true)
  | 15 => ("WorksBudgetModel", "fairness", "J", false)
  | 16 => ("WorksBudgetModel", "plan", "I", false)
  | 17 => ("WorksBudgetModel", "old", "I", false)
  | 18 => ("WorksBudgetModel", "isProved", "Z", false)
  | 19 => ("WorksBudgetModel", "spent", "[J", true)
  | 20 => ("WorksBudgetModel", "parts", "[J", true)
  | 21 => ("WorksBudgetModel", "order", "[I", true)
  | _ => ("WorksBudgetModel", "ranks", "[I", true)
def t_M : Nat → FieldType := fun k => match k with
  | 0 => .int
  | 1 => .int
  | 2 => .array .int
  | 3 => .array .int
  | 4 => .int
  | 5 => .array .int
  | 6 => .array .int
  | 7 => .array .long
  | 8 => .array .long
  | 9 => .int
  | 10 => .array .long
  | 11 => .int
  | 12 => .array .int
  | 13 => .array .int
  | 14 => .array .long
  | 15 => .long
  | 16 => .int
  | 17 => .int
  | 18 => .boolean
  | 19 => .array .long
  | 20 => .array .long
  | 21 => .array .int
  | _ => .array .int
abbrev am_cl : List vw_C := [("WorksBudget$Works", F_W, 15), ("WorksBudget$Search", F_S, 20), ("WorksBudget$Bounds", F_N, 1), ("WorksBudget$Policies", F_P, 2), ("WorksBudget", F_B, 11), ("WorksBudgetModel", F_M, 23)]
abbrev am_ty : List FieldType := [.int, .long, .array .long]
abbrev am_nm : List (String × Nat × MethodName × String) := [("WorksBudget$Works", 58, ⟨"WorksBudget", "isIn", "(II)Z"⟩, "WorksBudget"), ("WorksBudget$Search", 124, ⟨"WorksBudget", "isIn", "(II)Z"⟩, "WorksBudget")]
abbrev am_nf : List (String × Nat × String × String × String × String) := []
def am_k : Nat := 40
def am_T : List Cond := lw_tbl.filter goodWord
theorem am_good : ∀ w ∈ am_T, (w.onTables && w.keeps) = true ∨ ∃ ty, w = .arrayClass ty := fun w h => good_of_word (List.mem_filter.mp h).2
theorem am_lw {w : Cond} (h : w ∈ am_T) : w ∈ lw_tbl := (List.mem_filter.mp h).1
theorem am_in0 {w : Cond} {i : Nat} (h : (k2_sels lw_privs)[i]? = some w) (g : goodWord w = true) : w ∈ am_T := List.mem_filter.mpr ⟨List.mem_append_left _ (List.mem_of_getElem? h), g⟩
theorem am_in1 {w : Cond} {i : Nat} (h : tables_1_1[i]? = some w) (g : goodWord w = true) : w ∈ am_T := List.mem_filter.mpr ⟨List.mem_append_right _ (List.mem_append_left _ (List.mem_of_getElem? h)), g⟩
theorem am_in2 {w : Cond} {i : Nat} (h : tables_1_2[i]? = some w) (g : goodWord w = true) : w ∈ am_T := List.mem_filter.mpr ⟨List.mem_append_right _ (List.mem_append_right _ (List.mem_append_left _ (List.mem_of_getElem? h))), g⟩
theorem am_in3 {w : Cond} {i : Nat} (h : tables_1_3[i]? = some w) (g : goodWord w = true) : w ∈ am_T := List.mem_filter.mpr ⟨List.mem_append_right _ (List.mem_append_right _ (List.mem_append_right _ (List.mem_append_left _ (List.mem_of_getElem? h)))), g⟩
theorem am_in4 {w : Cond} {i : Nat} (h : tables_1_4[i]? = some w) (g : goodWord w = true) : w ∈ am_T := List.mem_filter.mpr ⟨List.mem_append_right _ (List.mem_append_right _ (List.mem_append_right _ (List.mem_append_right _ (List.mem_of_getElem? h)))), g⟩
theorem nm_0 : Cond.methodLinkNest "WorksBudget$Works" 58 ⟨"WorksBudget", "isIn", "(II)Z"⟩ "WorksBudget" ∈ lw_tbl := List.mem_append_right _ (List.mem_append_right _ (List.mem_append_left _ (List.mem_of_getElem? (i := 50) rfl)))
theorem nm_1 : Cond.methodLinkNest "WorksBudget$Search" 124 ⟨"WorksBudget", "isIn", "(II)Z"⟩ "WorksBudget" ∈ lw_tbl := List.mem_append_right _ (List.mem_append_right _ (List.mem_append_left _ (List.mem_of_getElem? (i := 123) rfl)))
end
section
/-! AM: AN ABSTRACT MACHINE OVER THE KIT'S ROWS. A reference is a number: 0 the script, k + 1 the k-th cell made since the law began.
A heap is a list of cells. AW sc M d pc L st h r h': from the pc of the method M, with locals L, stack st and heap h, M returns r with heap h'
(d: the depth of calls that it needs). AM: the same of a call. -/
abbrev am_M : Type := MethodName × ByteArray × Nat × Option FieldType
abbrev am_C : Type := (Nat × vp_A) ⊕ (Nat × List Value)
abbrev am_S : Type := Nat × (Nat → Int32)
abbrev am_E : Type := Nat × Nat × va_G × (Nat → ClassId)
def am_a (E : am_E) : Nat → Nat
  | 0 => E.1
  | k + 1 => E.2.1 + k
def am_v (E : am_E) : Value → Value
  | .ref k => .ref (am_a E k)
  | .int x => .int x
  | .long x => .long x
  | .float x => .float x
  | .double x => .double x
  | .null => .null
  | .retAddr q => .retAddr q
theorem am_v_cat (E : am_E) (v : Value) : (am_v E v).category = v.category := by cases v <;> rfl
theorem am_v_rf (E : am_E) (x : Option Nat) : va_rf (x.map (am_a E)) = am_v E (va_rf x) := by cases x <;> rfl
theorem am_v_def (E : am_E) (t : FieldType) : am_v E (defaultValue t) = defaultValue t := by cases t <;> rfl
theorem am_cats (E : am_E) (st : List Value) : ((st.map (am_v E)).map fun v => v.category).sum = (st.map fun v => v.category).sum := by
  rw [List.map_map]
  congr 1
  exact List.map_congr_left (fun v _ => am_v_cat E v)
def am_g (E : am_E) (x : vp_A) : vp_A := (x.1, match x.2 with
  | .inl f => .inl f
  | .inr (.inl f) => .inr (.inl f)
  | .inr (.inr (.inl f)) => .inr (.inr (.inl f))
  | .inr (.inr (.inr (.inl f))) => .inr (.inr (.inr (.inl f)))
  | .inr (.inr (.inr (.inr f))) => .inr (.inr (.inr (.inr (fun j => (f j).map (am_a E))))))
def am_at (E : am_E) (a : Nat) (c : am_C) (H : Heap) : Prop := match c with
  | .inl x => H[a]? = some (vp_cell (E.2.2.2 x.1) (am_g E x.2))
  | .inr o => ∃ r : vw_C, am_cl[o.1]? = some r ∧ o.2.length = r.2.2 ∧ t_OB a (E.2.2.1.1 o.1) r.2.2 (E.2.2.1.2 o.1) H (vp_V (o.2.map (am_v E)))
def am_H (E : am_E) (h : List am_C) (H : Heap) : Prop := H.size = E.2.1 + h.length ∧ ∀ (k : Nat) (c : am_C), h[k]? = some c → am_at E (E.2.1 + k) c H
def am_s1 (c : am_C) : Nat := match c with
  | .inl x => x.2.1
  | .inr o => o.2.length
def am_sz : List am_C → Nat
  | [] => 0
  | c :: h => am_s1 c + am_sz h
theorem am_sz_app (h : List am_C) (c : am_C) : am_sz (h ++ [c]) = am_sz h + am_s1 c := by
  induction h with
  | nil => simp [am_sz]
  | cons a t ih => simp only [List.cons_append, am_sz, ih]; omega
theorem am_sz_set (h : List am_C) (k : Nat) (c c0 : am_C) (hk : h[k]? = some c0) (e : am_s1 c = am_s1 c0) : am_sz (h.set k c) = am_sz h := by
  induction h generalizing k with
  | nil => rfl
  | cons a t ih =>
    cases k with
    | zero =>
      rw [List.getElem?_cons_zero] at hk
      cases hk
      simp only [List.set_cons_zero, am_sz, e]
    | succ k =>
      rw [List.getElem?_cons_succ] at hk
      simp only [List.set_cons_succ, am_sz, ih k hk]
theorem am_at.kept {E : am_E} {a : Nat} {c : am_C} {H H1 : Heap} (h : am_at E a c H) (hq : H1[a]? = H[a]?) : am_at E a c H1 := by
  cases c with
  | inl x => exact hq.trans h
  | inr o =>
    obtain ⟨r, h1, h2, h3⟩ := h
    exact ⟨r, h1, h2, h3.kept hq⟩
theorem am_H.put {E : am_E} {h : List am_C} {H H1 : Heap} {k : Nat} {c c0 : am_C} (hH : am_H E h H) (hk : h[k]? = some c0) (hz : H1.size = H.size) (he : am_at E (E.2.1 + k) c H1) (oq : ∀ q : Nat, q ≠ E.2.1 + k → H1[q]? = H[q]?) : am_H E (h.set k c) H1 := by
  have hl := (List.getElem?_eq_some_iff.mp hk).1
  refine ⟨by rw [hz, hH.1, List.length_set], fun j c' hj => ?_⟩
  by_cases hjk : j = k
  · subst hjk
    rw [List.getElem?_set_self hl] at hj
    cases hj
    exact he
  · rw [List.getElem?_set_ne (Ne.symm hjk)] at hj
    exact (hH.2 j c' hj).kept (oq _ (by omega))
theorem am_H.push {E : am_E} {h : List am_C} {H H1 : Heap} {c : am_C} (hH : am_H E h H) (hz : H1.size = H.size + 1) (he : am_at E H.size c H1) (oq : ∀ q : Nat, q < H.size → H1[q]? = H[q]?) : am_H E (h ++ [c]) H1 := by
  have e0 := hH.1
  refine ⟨by rw [hz, e0, List.length_append]; simp; omega, fun j c' hj => ?_⟩
  by_cases hjl : j < h.length
  · rw [List.getElem?_append_left hjl] at hj
    exact (hH.2 j c' hj).kept (oq _ (by omega))
  · rw [List.getElem?_append_right (by omega)] at hj
    have hz1 : j - h.length < 1 := (List.getElem?_eq_some_iff.mp hj).1
    have e1 : j = h.length := by omega
    subst e1
    rw [Nat.sub_self] at hj
    cases hj
    rw [← e0]
    exact he
def am_K (E : am_E) (U : State) : Prop := (∀ (c : Nat) (q : vw_C), am_cl[c]? = some q → u_Kn U q.1 q.2.1 q.2.2 (E.2.2.1.1 c) (E.2.2.1.2 c)) ∧ (∀ (t : Nat) (ty : FieldType), am_ty[t]? = some ty → ArrOfT U (E.2.2.2 t) ty ∧ U.vm.findClass ("[" ++ ty.toString) = some (E.2.2.2 t)) ∧
  (∀ q ∈ am_nm, va_Nw (.methodLinkNest q.1 q.2.1 q.2.2.1 q.2.2.2) U) ∧ ∀ q ∈ am_nf, va_Nw (.fieldLinkNest q.1 q.2.1 q.2.2.1 q.2.2.2.1 q.2.2.2.2.1 q.2.2.2.2.2) U
theorem am_K.warm {E : am_E} {s U : State} (hW : s.WarmedH U.vm) (h : am_K E s) : am_K E U := by
  have hvm := hW.alike
  exact ⟨fun c q hq => u_Kn_moved hvm (h.1 c q hq), fun t ty ht => ⟨arrOfT_moved hvm (h.2.1 t ty ht).1, by rw [hvm.findClass]; exact (h.2.1 t ty ht).2⟩, fun q hq => (h.2.2.1 q hq).warmM hW, fun q hq => (h.2.2.2 q hq).warmF hW⟩
theorem am_K.same {E : am_E} {s U : State} (e : s.vm = U.vm) (h : am_K E s) : am_K E U := by
  have hvm : s.vm.Alike U.vm := by rw [e]; exact Vm.Alike.refl _
  exact ⟨fun c q hq => u_Kn_moved hvm (h.1 c q hq), fun t ty ht => ⟨arrOfT_moved hvm (h.2.1 t ty ht).1, by rw [hvm.findClass]; exact (h.2.1 t ty ht).2⟩, fun q hq => (h.2.2.1 q hq).same rfl e, fun q hq => (h.2.2.2 q hq).same rfl e⟩
def am_F (E : am_E) (s : State) (H : Heap) (locs : List Loc) : Prop := (∀ q : Nat, q < E.2.1 → H[q]? = s.heap[q]?) ∧ ∀ q ∈ locs, E.2.1 ≤ q.base
theorem am_F.put {E : am_E} {s : State} {H H1 : Heap} {locs : List Loc} {a i : Nat} (h : am_F E s H locs) (oq : ∀ q : Nat, q ≠ a → H1[q]? = H[q]?) (ha : E.2.1 ≤ a) : am_F E s H1 (locs ++ [⟨a, i⟩]) := by
  refine ⟨fun q hq => (oq q (by omega)).trans (h.1 q hq), fun q hq => ?_⟩
  rcases List.mem_append.mp hq with h1 | h1
  · exact h.2 q h1
  · rw [List.mem_singleton.mp h1]; exact ha
theorem am_F.push {E : am_E} {s : State} {H H1 : Heap} {locs : List Loc} (h : am_F E s H locs) (oq : ∀ q : Nat, q < H.size → H1[q]? = H[q]?) (hB : E.2.1 ≤ H.size) : am_F E s H1 locs := ⟨fun q hq => (oq q (by omega)).trans (h.1 q hq), h.2⟩
/-! the locals: by their places; 'none' is a place of which nothing is known -/
def am_L (E : am_E) (nL : Nat) (L : List (Option Value)) (ls : Array Slot) : Prop := L.length = nL ∧ ls.size = nL ∧ lv_wf ls ∧ ∀ (i : Nat) (v : Value), L[i]? = some (some v) → ls[i]? = some (.val (am_v E v))
def am_pl (E : am_E) (L : List (Option Value)) : List (Nat × Value) := (List.range L.length).filterMap fun i => match L[i]? with
  | some (some v) => some (i, am_v E v)
  | _ => none
theorem am_pl_in {E : am_E} {L : List (Option Value)} {i : Nat} {v : Value} (h : L[i]? = some (some v)) : (i, am_v E v) ∈ am_pl E L := by
  refine List.mem_filterMap.mpr ⟨i, List.mem_range.mpr (List.getElem?_eq_some_iff.mp h).1, ?_⟩
  rw [h]
theorem am_pl_of {E : am_E} {L : List (Option Value)} {q : Nat × Value} (h : q ∈ am_pl E L) : ∃ v, L[q.1]? = some (some v) ∧ q.2 = am_v E v := by
  obtain ⟨i, -, hi⟩ := List.mem_filterMap.mp h
  revert hi
  cases hL : L[i]? with
  | none => intro hi; cases hi
  | some o =>
    cases o with
    | none => intro hi; cases hi
    | some v =>
      intro hi
      cases hi
      exact ⟨v, hL, rfl⟩
theorem am_L.has {E : am_E} {nL : Nat} {L : List (Option Value)} {ls : Array Slot} (h : am_L E nL L ls) : lv_has ls nL (am_pl E L) := by
  refine ⟨h.2.1, h.2.2.1, fun q hq => ?_⟩
  obtain ⟨v, h1, h2⟩ := am_pl_of hq
  rw [h2]
  exact h.2.2.2 q.1 v h1
def am_low (L : List (Option Value)) (i : Nat) : Bool := match i with
  | 0 => true
  | j + 1 => match L[j]? with
    | some (some v) => v.category != 2
    | _ => true
theorem am_low_ne {L : List (Option Value)} {i j : Nat} {v : Value} (h : am_low L i = true) (hj : j + 1 = i) (hv : L[j]? = some (some v)) : ¬ v.category = 2 := by
  subst hj
  simp only [am_low, hv] at h
  simpa using h
theorem am_st1 {E : am_E} {nL : Nat} {L : List (Option Value)} {ls ls' : Array Slot} {i : Nat} {v : Value} (h : am_L E nL L ls) (low : am_low L i = true)
    (h' : lv_has ls' nL ((i, am_v E v) :: (am_pl E L).filter (fun q => !(q.1 == i) && !(q.1 + 1 == i && q.2.category == 2)))) : am_L E nL (L.set i (some v)) ls' := by
  refine ⟨by rw [List.length_set]; exact h.1, h'.1, h'.2.1, fun j w hj => ?_⟩
  by_cases hji : j = i
  · subst hji
    have hl : j < L.length := by
      have := (List.getElem?_eq_some_iff.mp hj).1
      rwa [List.length_set] at this
    rw [List.getElem?_set_self hl] at hj
    cases hj
    exact h'.2.2 _ List.mem_cons_self
  · rw [List.getElem?_set_ne (Ne.symm hji)] at hj
    refine h'.2.2 (j, am_v E w) (List.mem_cons_of_mem _ (List.mem_filter.mpr ⟨am_pl_in hj, ?_⟩))
    simp only [Bool.and_eq_true, Bool.not_eq_true', beq_eq_false_iff_ne, ne_eq, Bool.and_eq_false_iff, am_v_cat]
    refine ⟨hji, ?_⟩
    by_cases hj1 : j + 1 = i
    · exact Or.inr (am_low_ne low hj1 hj)
    · exact Or.inl hj1
theorem am_st2 {E : am_E} {nL : Nat} {L : List (Option Value)} {ls ls' : Array Slot} {i : Nat} {v : Value} (h : am_L E nL L ls) (low : am_low L i = true)
    (h' : lv_has ls' nL ((i, am_v E v) :: (am_pl E L).filter (fun q => !(q.1 == i) && (!(q.1 == i + 1) && !(q.1 + 1 == i && q.2.category == 2))))) : am_L E nL ((L.set i (some v)).set (i + 1) none) ls' := by
  refine ⟨by rw [List.length_set, List.length_set]; exact h.1, h'.1, h'.2.1, fun j w hj => ?_⟩
  by_cases hj2 : j = i + 1
  · subst hj2
    have hl : i + 1 < (L.set i (some v)).length := by
      have := (List.getElem?_eq_some_iff.mp hj).1
      rwa [List.length_set] at this
    rw [List.getElem?_set_self hl] at hj
    cases hj
  · rw [List.getElem?_set_ne (Ne.symm hj2)] at hj
    by_cases hji : j = i
    · subst hji
      have hl : j < L.length := by
        have := (List.getElem?_eq_some_iff.mp hj).1
        rwa [List.length_set] at this
      rw [List.getElem?_set_self hl] at hj
      cases hj
      exact h'.2.2 _ List.mem_cons_self
    · rw [List.getElem?_set_ne (Ne.symm hji)] at hj
      refine h'.2.2 (j, am_v E w) (List.mem_cons_of_mem _ (List.mem_filter.mpr ⟨am_pl_in hj, ?_⟩))
      simp only [Bool.and_eq_true, Bool.not_eq_true', beq_eq_false_iff_ne, ne_eq, Bool.and_eq_false_iff, am_v_cat]
      refine ⟨hji, hj2, ?_⟩
      by_cases hj1 : j + 1 = i
      · exact Or.inr (am_low_ne low hj1 hj)
      · exact Or.inl hj1
def am_kill (L : List (Option Value)) : List Nat → List (Option Value)
  | [] => L
  | k :: ks => am_kill (L.set k none) ks
theorem am_L.kill {E : am_E} {nL : Nat} {ls : Array Slot} (ks : List Nat) : ∀ {L : List (Option Value)}, am_L E nL L ls → am_L E nL (am_kill L ks) ls := by
  induction ks with
  | nil => exact fun h => h
  | cons k ks ih =>
    intro L h
    refine ih ⟨by rw [List.length_set]; exact h.1, h.2.1, h.2.2.1, fun i v hi => ?_⟩
    by_cases hik : i = k
    · subst hik
      have hl : i < L.length := by
        have := (List.getElem?_eq_some_iff.mp hi).1
        rwa [List.length_set] at this
      rw [List.getElem?_set_self hl] at hi
      cases hi
    · rw [List.getElem?_set_ne (Ne.symm hik)] at hi
      exact h.2.2.2 i v hi
/-! the judgement -/
def am_rt (M : am_M) (r : Option Value) (pc : Nat) : Prop := match r with
  | none => M.2.2.2 = none ∧ decode M.2.1 pc = .ok (.return_, 1)
  | some (.int v) => ∃ ty : FieldType, M.2.2.2 = some ty ∧ narrow ty (.int v) = .int v ∧ decode M.2.1 pc = .ok (.ireturn, 1)
  | some (.long _) => M.2.2.2 = some .long ∧ decode M.2.1 pc = .ok (.lreturn, 1)
  | _ => False
def am_ok (sc : am_S) (M : am_M) (d : Nat) (E : am_E) (mc ms : Nat) (r : Option Value) (h' : List am_C) (p : Program) (l : Launch) (e : Env) (R : Room) (s : State) (m : MethodId) (args : Array Value) (below : List Frame) (meth : Method) (c : Code) (Z : State → Prop) : Prop :=
  p.tables.exec = Jvm.exec ∧ c.code = M.2.1 ∧ c.maxLocals = M.2.2.1 ∧ s.vm.findClass M.1.cls = some m.cls ∧ meth.name = M.1.name ∧ (∀ w ∈ am_T, w.before args s = true) ∧ am_K E s ∧
  (va_X E.1 sc.1 sc.2 s s.heap ∧ E.1 < E.2.1 ∧ E.2.1 ≤ s.heap.size) ∧ (d ≤ R.frames ∧ am_k * d ≤ R.locals ∧ mc ≤ R.cells ∧ ms ≤ R.slots) ∧
  ∀ (H : Heap) (locs : List Loc) (pc : Nat) (ls : Array Slot), am_H E h' H → am_F E s H locs → am_rt M r pc → W p l e R s m args below meth c H locs mc ms Z (F0 m pc ls (r.toList.map (am_v E)))
def am_le (h h' : List am_C) : Prop := h.length ≤ h'.length ∧ am_sz h ≤ am_sz h'
theorem am_le.rf (h : List am_C) : am_le h h := ⟨Nat.le_refl _, Nat.le_refl _⟩
theorem am_le.tr {a b c : List am_C} (h1 : am_le a b) (h2 : am_le b c) : am_le a c := ⟨Nat.le_trans h1.1 h2.1, Nat.le_trans h1.2 h2.2⟩
theorem am_le.put {h h' : List am_C} {k : Nat} {c c0 : am_C} (hk : h[k]? = some c0) (e : am_s1 c = am_s1 c0) (hl : am_le (h.set k c) h') : am_le h h' := ⟨by have := hl.1; rwa [List.length_set] at this, by have := hl.2; rwa [am_sz_set _ _ _ _ hk e] at this⟩
theorem am_le.push {h h' : List am_C} {c : am_C} (hl : am_le (h ++ [c]) h') : h.length + 1 ≤ h'.length ∧ am_sz h + am_s1 c ≤ am_sz h' := ⟨by have := hl.1; rw [List.length_append] at this; simpa using this, by have := hl.2; rwa [am_sz_app] at this⟩
theorem am_le.pop {h h' : List am_C} {c : am_C} (hl : am_le (h ++ [c]) h') : am_le h h' := ⟨by have := hl.push.1; omega, by have := hl.push.2; omega⟩
theorem am_le.br {c : Prop} {h h' : List am_C} (kt : c → am_le h h') (kf : ¬ c → am_le h h') : am_le h h' := (Classical.em c).elim kt kf
def AW (sc : am_S) (M : am_M) (d pc : Nat) (L : List (Option Value)) (st : List Value) (h : List am_C) (r : Option Value) (h' : List am_C) : Prop := am_le h h' ∧
  ∀ (E : am_E) (mc ms : Nat) (p : Program) (l : Launch) (e : Env) (R : Room) (s : State) (m : MethodId) (args : Array Value) (below : List Frame) (meth : Method) (c : Code) (Z : State → Prop), am_ok sc M d E mc ms r h' p l e R s m args below meth c Z →
  ∀ (H : Heap) (locs : List Loc) (cells slots : Nat) (ls : Array Slot), am_L E M.2.2.1 L ls → am_H E h H → am_F E s H locs → cells + h'.length ≤ h.length + mc → slots + am_sz h' ≤ am_sz h + ms →
    W p l e R s m args below meth c H locs cells slots Z (F0 m pc ls (st.map (am_v E)))
/-! a call -/
def am_ws (M : am_M) : List Cond := .code M.1 M.2.1 M.2.2.1 M.2.2.2 :: am_T
abbrev am_rm (d mc ms : Nat) : Room := { frames := d, cells := mc, slots := ms, locals := am_k * d }
def am_B (sc : am_S) (E : am_E) (h : List am_C) (U : State) : Prop := am_K E U ∧ (va_X E.1 sc.1 sc.2 U U.heap ∧ E.1 < E.2.1) ∧ am_H E h U.heap
def am_Q (E : am_E) (r : Option Value) (h' : List am_C) : Array Value → State → Outcome → State → Prop := fun _ st oc t => oc = .returned (r.map (am_v E)) ∧ am_H E h' t.heap ∧ ∀ q : Nat, q < E.2.1 → t.heap[q]? = st.heap[q]?
def AM (sc : am_S) (M : am_M) (d : Nat) (as : List Value) (h : List am_C) (r : Option Value) (h' : List am_C) : Prop :=
  am_le h h' ∧ ∀ (l : Launch) (E : am_E), Met l M.1 (am_ws M) (am_rm d (h'.length - h.length) (am_sz h' - am_sz h)) (va_Pc (as.map (am_v E)) (am_B sc E h)) (am_Q E r h') (h'.length - h.length) (am_sz h' - am_sz h) (fun q => E.2.1 ≤ q)
theorem am_blind {sc : am_S} {E : am_E} {as : List Value} {h : List am_C} : FrameBlind (va_Pc as (am_B sc E h)) := by
  intro a U g mk q
  obtain ⟨h1, h2, h3, h4⟩ := q
  exact ⟨h1, h2.same rfl, ⟨va_X.moved (Vm.Alike.refl U.vm) h3.1, h3.2⟩, h4⟩
def am_ent : Nat → List Value → List (Option Value)
  | n, [] => List.replicate n none
  | n, v :: vs => if v.category = 2 then some v :: none :: am_ent (n - 2) vs else some v :: am_ent (n - 1) vs
theorem am_sl_cons (v : Value) (vs : List Value) : lg_sl (v :: vs) = (if v.category = 2 then [.val v, .second] else [.val v]) ++ lg_sl vs := rfl
theorem am_sl_map (E : am_E) (vs : List Value) : (lg_sl (vs.map (am_v E))).length = (lg_sl vs).length := by
  induction vs with
  | nil => rfl
  | cons v vs ih =>
    rw [List.map_cons, am_sl_cons, am_sl_cons, List.length_append, List.length_append, ih, am_v_cat]
    split <;> rfl
theorem am_ent_len : ∀ (vs : List Value) (n : Nat), (lg_sl vs).length ≤ n → (am_ent n vs).length = n
  | [], n, _ => by simp [am_ent]
  | v :: vs, n, h => by
    rw [am_sl_cons, List.length_append] at h
    unfold am_ent
    by_cases hc : v.category = 2
    · rw [if_pos hc] at h ⊢
      have h1 : (2 : Nat) + (lg_sl vs).length ≤ n := h
      rw [List.length_cons, List.length_cons, am_ent_len vs (n - 2) (by omega)]
      omega
    · rw [if_neg hc] at h ⊢
      have h1 : (1 : Nat) + (lg_sl vs).length ≤ n := h
      rw [List.length_cons, am_ent_len vs (n - 1) (by omega)]
      omega
theorem am_ent_in (E : am_E) : ∀ (vs : List Value) (n a i : Nat) (v : Value), (am_ent n vs)[i]? = some (some v) → (a + i, am_v E v) ∈ lv_args a (vs.map (am_v E))
  | [], n, a, i, v, h => by
    have h1 := List.mem_of_getElem? h
    have h2 := List.eq_of_mem_replicate h1
    cases h2
  | w :: vs, n, a, i, v, h => by
    unfold am_ent at h
    rw [List.map_cons]
    unfold lv_args
    rw [am_v_cat]
    by_cases hc : w.category = 2
    · rw [if_pos hc] at h
      rw [if_pos hc]
      match i, h with
      | 0, h =>
        rw [List.getElem?_cons_zero] at h
        cases h
        exact List.mem_cons_self
      | 1, h =>
        rw [List.getElem?_cons_succ, List.getElem?_cons_zero] at h
        cases h
      | i + 2, h =>
        rw [List.getElem?_cons_succ, List.getElem?_cons_succ] at h
        have := am_ent_in E vs (n - 2) (a + 2) i v h
        rw [show a + 2 + i = a + (i + 2) by omega] at this
        exact List.mem_cons_of_mem _ this
    · rw [if_neg hc] at h
      rw [if_neg hc]
      match i, h with
      | 0, h =>
        rw [List.getElem?_cons_zero] at h
        cases h
        exact List.mem_cons_self
      | i + 1, h =>
        rw [List.getElem?_cons_succ] at h
        have := am_ent_in E vs (n - 1) (a + 1) i v h
        rw [show a + 1 + i = a + (i + 1) by omega] at this
        exact List.mem_cons_of_mem _ this
theorem am_entry {E : am_E} {as : List Value} {n : Nat} (hn : (lg_sl as).length ≤ n) : am_L E n (am_ent n as) ((lg_sl (as.map (am_v E)) ++ List.replicate (n - (lg_sl (as.map (am_v E))).length) Slot.unset).toArray) := by
  have h := lv_entry (as.map (am_v E)) (n := n) (by rw [am_sl_map]; exact hn)
  refine ⟨am_ent_len as n hn, h.1, h.2.1, fun i v hi => ?_⟩
  have := am_ent_in E as n 0 i v hi
  rw [Nat.zero_add] at this
  exact h.2.2 _ this
/-- a method's contract out of the walk of its body -/
theorem AM.of {sc : am_S} {M : am_M} {d : Nat} {as : List Value} {h : List am_C} {r : Option Value} {h' : List am_C} (hy : plainName M.1.cls = true) (hn : (lg_sl as).length ≤ M.2.2.1)
    (body : AW sc M d 0 (am_ent M.2.2.1 as) [] h r h') : AM sc M d as h r h' := by
  obtain ⟨⟨h1, h2⟩, body⟩ := body
  refine ⟨⟨h1, h2⟩, fun l E => ?_⟩
  refine Met.ofW (cc := M.2.1) (maxL := M.2.2.1) (ret := M.2.2.2) (ws' := am_T) hy rfl ?_
  intro p e s m args below meth c s₁ B hml hv
  obtain ⟨rfl, hK, hX, hH⟩ := hv
  have hx := B.exec
  have hb := B.bytes
  have hr := B.returns
  have hts := atoms_spec (ws := am_ws M) B.pre
  have hown : s.vm.findClass M.1.cls = some m.cls := findClass_of_methodNamed B.named
  have hlocks := B.notSynchronized
  have hin : meth.name = M.1.name := (name_of_methodNamed B.named B.method).1
  rw [lg_entry_eq]
  have hl := am_entry (E := E) (as := as) hn
  refine body E (h'.length - h.length) (am_sz h' - am_sz h) p l e (headSpec (am_ws M) (am_rm d (h'.length - h.length) (am_sz h' - am_sz h))).room s m _ below meth c _
    ⟨hx, hb, hml, hown, hin, fun w hw => hts w (List.mem_cons_of_mem _ hw), hK, ⟨hX.1, hX.2, by rw [hH.1]; omega⟩, ⟨Nat.le_refl _, Nat.le_refl _, Nat.le_refl _, Nat.le_refl _⟩, ?_⟩
    s.heap [] 0 0 _ hl hH ⟨fun _ _ => rfl, fun _ h => by cases h⟩ (by omega) (by omega)
  intro H locs pc ls hH' hF' hrt
  have hq : ∀ t : State, t.heap = H → s.WarmedH t.vm → am_Q E r h' (as.map (am_v E)).toArray s (.returned (r.map (am_v E))) t := fun t ht _ => ⟨rfl, by rw [ht]; exact hH', fun q hq => by rw [ht]; exact hF'.1 q hq⟩
  match r, hrt, hq with
  | none, hrt, hq => exact W.vret hx hb (by rw [hr]; exact hrt.1) hq hF'.2 hrt.2
  | some (.int v), hrt, hq =>
    obtain ⟨ty, t1, t2, t3⟩ := hrt
    exact W.zret (ty := ty) hx hb (by rw [hr]; exact t1) t2 hq hF'.2 t3
  | some (.long v), hrt, hq => exact W.lret hx hb (by rw [hr]; exact hrt.1) hq hF'.2 hrt.2
/-- behind a call -/
theorem am_go {sc : am_S} {p : Program} {l : Launch} {e : Env} {R : Room} {s : State} {m : MethodId} {args : Array Value} {below : List Frame} {meth : Method} {c : Code} {H : Heap} {locs : List Loc} {cells slots mc1 ms1 pc : Nat} {Z : State → Prop} {E : am_E} {r1 : Option Value} {h1 : List am_C} {ls : Array Slot} {st0 rest : List Value} {a : Array Value}
    (hr : va_Run p l e R s m args below meth c H locs cells slots mc1 ms1 (F0 m pc ls st0) rest (am_Q E r1 h1 a) (fun q => E.2.1 ≤ q)) (hF : am_F E s H locs)
    (kk : ∀ (H1 : Heap) (locs1 : List Loc), am_H E h1 H1 → am_F E s H1 locs1 → W p l e R s m args below meth c H1 locs1 (cells + mc1) (slots + ms1) Z (F0 m (pc + 3) ls ((r1.map (am_v E)).toList ++ rest))) : W p l e R s m args below meth c H locs cells slots Z (F0 m pc ls st0) := by
  intro T hT X
  obtain ⟨v, st₀, t, T', L, h0, X', hL, e1, e2, ⟨hv, hp, hk⟩, st⟩ := hr T hT X
  cases hv
  rw [h0] at hk
  obtain ⟨t2, a1, b1⟩ := kk T'.heap (locs ++ L) (by rw [e1]; exact hp) ⟨fun q hq => by rw [e1, hk q hq]; exact hF.1 q hq, fun q hq => by
      rcases List.mem_append.mp hq with h | h
      · exact hF.2 q h
      · exact hL q h⟩ T' rfl X'
  exact ⟨t2, st t2 a1, b1⟩
end
section
/-! THE AM's ROWS: one an instruction -/
section AMR
variable {sc : am_S} {M : am_M} {d pc : Nat} {L : List (Option Value)} {st : List Value} {h : List am_C} {r : Option Value} {h' : List am_C}
theorem aw_iadd {x y : Int32} (hd : decode M.2.1 pc = .ok (.iadd, 1)) (kk : AW sc M d (pc + 1) L (.int (x + y) :: st) h r h') : AW sc M d pc L (.int y :: .int x :: st) h r h' := by
  refine ⟨kk.1, ?_⟩
  intro E mc ms p l e R s m args below meth c Z ok H locs cells slots ls hl hH hF hc hs
  exact lv_iadd ok.1 ok.2.1 hd (kk.2 E mc ms p l e R s m args below meth c Z ok H locs cells slots ls hl hH hF hc hs)
theorem aw_isub {x y : Int32} (hd : decode M.2.1 pc = .ok (.isub, 1)) (kk : AW sc M d (pc + 1) L (.int (x - y) :: st) h r h') : AW sc M d pc L (.int y :: .int x :: st) h r h' := by
  refine ⟨kk.1, ?_⟩
  intro E mc ms p l e R s m args below meth c Z ok H locs cells slots ls hl hH hF hc hs
  exact lv_isub ok.1 ok.2.1 hd (kk.2 E mc ms p l e R s m args below meth c Z ok H locs cells slots ls hl hH hF hc hs)
theorem aw_imul {x y : Int32} (hd : decode M.2.1 pc = .ok (.imul, 1)) (kk : AW sc M d (pc + 1) L (.int (x * y) :: st) h r h') : AW sc M d pc L (.int y :: .int x :: st) h r h' := by
  refine ⟨kk.1, ?_⟩
  intro E mc ms p l e R s m args below meth c Z ok H locs cells slots ls hl hH hF hc hs
  exact lv_imul ok.1 ok.2.1 hd (kk.2 E mc ms p l e R s m args below meth c Z ok H locs cells slots ls hl hH hF hc hs)
theorem aw_iand {x y : Int32} (hd : decode M.2.1 pc = .ok (.iand, 1)) (kk : AW sc M d (pc + 1) L (.int (x &&& y) :: st) h r h') : AW sc M d pc L (.int y :: .int x :: st) h r h' := by
  refine ⟨kk.1, ?_⟩
  intro E mc ms p l e R s m args below meth c Z ok H locs cells slots ls hl hH hF hc hs
  exact lv_iand ok.1 ok.2.1 hd (kk.2 E mc ms p l e R s m args below meth c Z ok H locs cells slots ls hl hH hF hc hs)
theorem aw_ior {x y : Int32} (hd : decode M.2.1 pc = .ok (.ior, 1)) (kk : AW sc M d (pc + 1) L (.int (x ||| y) :: st) h r h') : AW sc M d pc L (.int y :: .int x :: st) h r h' := by
  refine ⟨kk.1, ?_⟩
  intro E mc ms p l e R s m args below meth c Z ok H locs cells slots ls hl hH hF hc hs
  exact lv_ior ok.1 ok.2.1 hd (kk.2 E mc ms p l e R s m args below meth c Z ok H locs cells slots ls hl hH hF hc hs)
theorem aw_ixor {x y : Int32} (hd : decode M.2.1 pc = .ok (.ixor, 1)) (kk : AW sc M d (pc + 1) L (.int (x ^^^ y) :: st) h r h') : AW sc M d pc L (.int y :: .int x :: st) h r h' := by
  refine ⟨kk.1, ?_⟩
  intro E mc ms p l e R s m args below meth c Z ok H locs cells slots ls hl hH hF hc hs
  exact lv_ixor ok.1 ok.2.1 hd (kk.2 E mc ms p l e R s m args below meth c Z ok H locs cells slots ls hl hH hF hc hs)
theorem aw_ishl {x y : Int32} (hd : decode M.2.1 pc = .ok (.ishl, 1)) (kk : AW sc M d (pc + 1) L (.int (x <<< (y &&& 31)) :: st) h r h') : AW sc M d pc L (.int y :: .int x :: st) h r h' := by
  refine ⟨kk.1, ?_⟩
  intro E mc ms p l e R s m args below meth c Z ok H locs cells slots ls hl hH hF hc hs
  exact lv_ishl ok.1 ok.2.1 hd (kk.2 E mc ms p l e R s m args below meth c Z ok H locs cells slots ls hl hH hF hc hs)
theorem aw_ishr {x y : Int32} (hd : decode M.2.1 pc = .ok (.ishr, 1)) (kk : AW sc M d (pc + 1) L (.int (x >>> (y &&& 31)) :: st) h r h') : AW sc M d pc L (.int y :: .int x :: st) h r h' := by
  refine ⟨kk.1, ?_⟩
  intro E mc ms p l e R s m args below meth c Z ok H locs cells slots ls hl hH hF hc hs
  exact lv_ishr ok.1 ok.2.1 hd (kk.2 E mc ms p l e R s m args below meth c Z ok H locs cells slots ls hl hH hF hc hs)
theorem aw_ladd {x y : Int64} (hd : decode M.2.1 pc = .ok (.ladd, 1)) (kk : AW sc M d (pc + 1) L (.long (x + y) :: st) h r h') : AW sc M d pc L (.long y :: .long x :: st) h r h' := by
  refine ⟨kk.1, ?_⟩
  intro E mc ms p l e R s m args below meth c Z ok H locs cells slots ls hl hH hF hc hs
  exact lv_ladd ok.1 ok.2.1 hd (kk.2 E mc ms p l e R s m args below meth c Z ok H locs cells slots ls hl hH hF hc hs)
theorem aw_lsub {x y : Int64} (hd : decode M.2.1 pc = .ok (.lsub, 1)) (kk : AW sc M d (pc + 1) L (.long (x - y) :: st) h r h') : AW sc M d pc L (.long y :: .long x :: st) h r h' := by
  refine ⟨kk.1, ?_⟩
  intro E mc ms p l e R s m args below meth c Z ok H locs cells slots ls hl hH hF hc hs
  exact lv_lsub ok.1 ok.2.1 hd (kk.2 E mc ms p l e R s m args below meth c Z ok H locs cells slots ls hl hH hF hc hs)
theorem aw_lmul {x y : Int64} (hd : decode M.2.1 pc = .ok (.lmul, 1)) (kk : AW sc M d (pc + 1) L (.long (x * y) :: st) h r h') : AW sc M d pc L (.long y :: .long x :: st) h r h' := by
  refine ⟨kk.1, ?_⟩
  intro E mc ms p l e R s m args below meth c Z ok H locs cells slots ls hl hH hF hc hs
  exact lv_lmul ok.1 ok.2.1 hd (kk.2 E mc ms p l e R s m args below meth c Z ok H locs cells slots ls hl hH hF hc hs)
theorem aw_land {x y : Int64} (hd : decode M.2.1 pc = .ok (.land, 1)) (kk : AW sc M d (pc + 1) L (.long (x &&& y) :: st) h r h') : AW sc M d pc L (.long y :: .long x :: st) h r h' := by
  refine ⟨kk.1, ?_⟩
  intro E mc ms p l e R s m args below meth c Z ok H locs cells slots ls hl hH hF hc hs
  exact lv_land ok.1 ok.2.1 hd (kk.2 E mc ms p l e R s m args below meth c Z ok H locs cells slots ls hl hH hF hc hs)
theorem aw_lor {x y : Int64} (hd : decode M.2.1 pc = .ok (.lor, 1)) (kk : AW sc M d (pc + 1) L (.long (x ||| y) :: st) h r h') : AW sc M d pc L (.long y :: .long x :: st) h r h' := by
  refine ⟨kk.1, ?_⟩
  intro E mc ms p l e R s m args below meth c Z ok H locs cells slots ls hl hH hF hc hs
  exact lv_lor ok.1 ok.2.1 hd (kk.2 E mc ms p l e R s m args below meth c Z ok H locs cells slots ls hl hH hF hc hs)
theorem aw_lxor {x y : Int64} (hd : decode M.2.1 pc = .ok (.lxor, 1)) (kk : AW sc M d (pc + 1) L (.long (x ^^^ y) :: st) h r h') : AW sc M d pc L (.long y :: .long x :: st) h r h' := by
  refine ⟨kk.1, ?_⟩
  intro E mc ms p l e R s m args below meth c Z ok H locs cells slots ls hl hH hF hc hs
  exact lv_lxor ok.1 ok.2.1 hd (kk.2 E mc ms p l e R s m args below meth c Z ok H locs cells slots ls hl hH hF hc hs)
theorem aw_idiv {x y : Int32} (hd : decode M.2.1 pc = .ok (.idiv, 1)) (hne : ¬ y = 0) (kk : AW sc M d (pc + 1) L (.int (x / y) :: st) h r h') : AW sc M d pc L (.int y :: .int x :: st) h r h' := by
  refine ⟨kk.1, ?_⟩
  intro E mc ms p l e R s m args below meth c Z ok H locs cells slots ls hl hH hF hc hs
  exact lv_idiv ok.1 ok.2.1 hd hne (kk.2 E mc ms p l e R s m args below meth c Z ok H locs cells slots ls hl hH hF hc hs)
theorem aw_irem {x y : Int32} (hd : decode M.2.1 pc = .ok (.irem, 1)) (hne : ¬ y = 0) (kk : AW sc M d (pc + 1) L (.int (x - x / y * y) :: st) h r h') : AW sc M d pc L (.int y :: .int x :: st) h r h' := by
  refine ⟨kk.1, ?_⟩
  intro E mc ms p l e R s m args below meth c Z ok H locs cells slots ls hl hH hF hc hs
  exact lv_irem ok.1 ok.2.1 hd hne (kk.2 E mc ms p l e R s m args below meth c Z ok H locs cells slots ls hl hH hF hc hs)
theorem aw_ldiv {x y : Int64} (hd : decode M.2.1 pc = .ok (.ldiv, 1)) (hne : ¬ y = 0) (kk : AW sc M d (pc + 1) L (.long (x / y) :: st) h r h') : AW sc M d pc L (.long y :: .long x :: st) h r h' := by
  refine ⟨kk.1, ?_⟩
  intro E mc ms p l e R s m args below meth c Z ok H locs cells slots ls hl hH hF hc hs
  exact lv_ldiv ok.1 ok.2.1 hd hne (kk.2 E mc ms p l e R s m args below meth c Z ok H locs cells slots ls hl hH hF hc hs)
theorem aw_lrem {x y : Int64} (hd : decode M.2.1 pc = .ok (.lrem, 1)) (hne : ¬ y = 0) (kk : AW sc M d (pc + 1) L (.long (x - x / y * y) :: st) h r h') : AW sc M d pc L (.long y :: .long x :: st) h r h' := by
  refine ⟨kk.1, ?_⟩
  intro E mc ms p l e R s m args below meth c Z ok H locs cells slots ls hl hH hF hc hs
  exact lv_lrem ok.1 ok.2.1 hd hne (kk.2 E mc ms p l e R s m args below meth c Z ok H locs cells slots ls hl hH hF hc hs)
theorem aw_ineg {x : Int32} (hd : decode M.2.1 pc = .ok (.ineg, 1)) (kk : AW sc M d (pc + 1) L (.int (-x) :: st) h r h') : AW sc M d pc L (.int x :: st) h r h' := by
  refine ⟨kk.1, ?_⟩
  intro E mc ms p l e R s m args below meth c Z ok H locs cells slots ls hl hH hF hc hs
  exact lv_ineg ok.1 ok.2.1 hd (kk.2 E mc ms p l e R s m args below meth c Z ok H locs cells slots ls hl hH hF hc hs)
theorem aw_lneg {x : Int64} (hd : decode M.2.1 pc = .ok (.lneg, 1)) (kk : AW sc M d (pc + 1) L (.long (-x) :: st) h r h') : AW sc M d pc L (.long x :: st) h r h' := by
  refine ⟨kk.1, ?_⟩
  intro E mc ms p l e R s m args below meth c Z ok H locs cells slots ls hl hH hF hc hs
  exact lv_lneg ok.1 ok.2.1 hd (kk.2 E mc ms p l e R s m args below meth c Z ok H locs cells slots ls hl hH hF hc hs)
theorem aw_i2l {x : Int32} (hd : decode M.2.1 pc = .ok (.i2l, 1)) (kk : AW sc M d (pc + 1) L (.long x.toInt64 :: st) h r h') : AW sc M d pc L (.int x :: st) h r h' := by
  refine ⟨kk.1, ?_⟩
  intro E mc ms p l e R s m args below meth c Z ok H locs cells slots ls hl hH hF hc hs
  exact lv_i2l ok.1 ok.2.1 hd rfl (kk.2 E mc ms p l e R s m args below meth c Z ok H locs cells slots ls hl hH hF hc hs)
theorem aw_l2i {x : Int64} (hd : decode M.2.1 pc = .ok (.l2i, 1)) (kk : AW sc M d (pc + 1) L (.int x.toInt32 :: st) h r h') : AW sc M d pc L (.long x :: st) h r h' := by
  refine ⟨kk.1, ?_⟩
  intro E mc ms p l e R s m args below meth c Z ok H locs cells slots ls hl hH hF hc hs
  exact lv_l2i ok.1 ok.2.1 hd rfl (kk.2 E mc ms p l e R s m args below meth c Z ok H locs cells slots ls hl hH hF hc hs)
theorem aw_iushr {x y : Int32} (hd : decode M.2.1 pc = .ok (.iushr, 1)) (kk : AW sc M d (pc + 1) L (.int (x.toUInt32 >>> (y.toUInt32 &&& Int32.toUInt32 31)).toInt32 :: st) h r h') : AW sc M d pc L (.int y :: .int x :: st) h r h' := by
  refine ⟨kk.1, ?_⟩
  intro E mc ms p l e R s m args below meth c Z ok H locs cells slots ls hl hH hF hc hs
  exact lv_iushr ok.1 ok.2.1 hd rfl (kk.2 E mc ms p l e R s m args below meth c Z ok H locs cells slots ls hl hH hF hc hs)
theorem aw_lushr {x : Int64} {y : Int32} (hd : decode M.2.1 pc = .ok (.lushr, 1)) (kk : AW sc M d (pc + 1) L (.long (x.toUInt64 >>> (y.toInt64.toUInt64 &&& Int64.toUInt64 63)).toInt64 :: st) h r h') : AW sc M d pc L (.int y :: .long x :: st) h r h' := by
  refine ⟨kk.1, ?_⟩
  intro E mc ms p l e R s m args below meth c Z ok H locs cells slots ls hl hH hF hc hs
  exact lv_lushr ok.1 ok.2.1 hd rfl (kk.2 E mc ms p l e R s m args below meth c Z ok H locs cells slots ls hl hH hF hc hs)
theorem aw_lshl {x : Int64} {y : Int32} (hd : decode M.2.1 pc = .ok (.lshl, 1)) (kk : AW sc M d (pc + 1) L (.long (x <<< (y.toInt64 &&& 63)) :: st) h r h') : AW sc M d pc L (.int y :: .long x :: st) h r h' := by
  refine ⟨kk.1, ?_⟩
  intro E mc ms p l e R s m args below meth c Z ok H locs cells slots ls hl hH hF hc hs
  exact lv_lshl ok.1 ok.2.1 hd rfl (kk.2 E mc ms p l e R s m args below meth c Z ok H locs cells slots ls hl hH hF hc hs)
theorem aw_lshr {x : Int64} {y : Int32} (hd : decode M.2.1 pc = .ok (.lshr, 1)) (kk : AW sc M d (pc + 1) L (.long (x >>> (y.toInt64 &&& 63)) :: st) h r h') : AW sc M d pc L (.int y :: .long x :: st) h r h' := by
  refine ⟨kk.1, ?_⟩
  intro E mc ms p l e R s m args below meth c Z ok H locs cells slots ls hl hH hF hc hs
  exact lv_lshr ok.1 ok.2.1 hd rfl (kk.2 E mc ms p l e R s m args below meth c Z ok H locs cells slots ls hl hH hF hc hs)
theorem aw_iconst {n : Int} (v : Int32) (hd : decode M.2.1 pc = .ok (.iconst n, 1)) (hv : Int32.ofInt n = v) (kk : AW sc M d (pc + 1) L (.int v :: st) h r h') : AW sc M d pc L (st) h r h' := by
  refine ⟨kk.1, ?_⟩
  intro E mc ms p l e R s m args below meth c Z ok H locs cells slots ls hl hH hF hc hs
  exact lv_iconst ok.1 ok.2.1 hd hv (kk.2 E mc ms p l e R s m args below meth c Z ok H locs cells slots ls hl hH hF hc hs)
theorem aw_bipush {n : Int} (v : Int32) (hd : decode M.2.1 pc = .ok (.bipush n, 2)) (hv : (Int8.ofInt n).toInt32 = v) (kk : AW sc M d (pc + 2) L (.int v :: st) h r h') : AW sc M d pc L (st) h r h' := by
  refine ⟨kk.1, ?_⟩
  intro E mc ms p l e R s m args below meth c Z ok H locs cells slots ls hl hH hF hc hs
  exact lv_bipush ok.1 ok.2.1 hd hv (kk.2 E mc ms p l e R s m args below meth c Z ok H locs cells slots ls hl hH hF hc hs)
theorem aw_sipush {n : Int} (v : Int32) (hd : decode M.2.1 pc = .ok (.sipush n, 3)) (hv : (Int16.ofInt n).toInt32 = v) (kk : AW sc M d (pc + 3) L (.int v :: st) h r h') : AW sc M d pc L (st) h r h' := by
  refine ⟨kk.1, ?_⟩
  intro E mc ms p l e R s m args below meth c Z ok H locs cells slots ls hl hH hF hc hs
  exact lv_sipush ok.1 ok.2.1 hd hv (kk.2 E mc ms p l e R s m args below meth c Z ok H locs cells slots ls hl hH hF hc hs)
theorem aw_lconst {n : Fin 2} (v : Int64) (hd : decode M.2.1 pc = .ok (.lconst n, 1)) (hv : Int64.ofNat (n : Nat) = v) (kk : AW sc M d (pc + 1) L (.long v :: st) h r h') : AW sc M d pc L (st) h r h' := by
  refine ⟨kk.1, ?_⟩
  intro E mc ms p l e R s m args below meth c Z ok H locs cells slots ls hl hH hF hc hs
  exact lv_lconst ok.1 ok.2.1 hd hv (kk.2 E mc ms p l e R s m args below meth c Z ok H locs cells slots ls hl hH hF hc hs)
theorem aw_ldc {idx : Nat} (v : Int32) (hd : decode M.2.1 pc = .ok (.ldc idx, 2)) (hw : Cond.constant M.1.cls idx v ∈ am_T) (kk : AW sc M d (pc + 2) L (.int v :: st) h r h') : AW sc M d pc L (st) h r h' := by
  refine ⟨kk.1, ?_⟩
  intro E mc ms p l e R s m args below meth c Z ok H locs cells slots ls hl hH hF hc hs
  exact lv_ldc ok.1 ok.2.1 ok.2.2.2.1 (ok.2.2.2.2.2.1 _ hw) hd (kk.2 E mc ms p l e R s m args below meth c Z ok H locs cells slots ls hl hH hF hc hs)
theorem aw_ldc2 {idx : Nat} (v : Int64) (hd : decode M.2.1 pc = .ok (.ldc2_w idx, 3)) (hw : Cond.constantLong M.1.cls idx v ∈ am_T) (kk : AW sc M d (pc + 3) L (.long v :: st) h r h') : AW sc M d pc L (st) h r h' := by
  refine ⟨kk.1, ?_⟩
  intro E mc ms p l e R s m args below meth c Z ok H locs cells slots ls hl hH hF hc hs
  exact lv_ldc2 ok.1 ok.2.1 ok.2.2.2.1 (ok.2.2.2.2.2.1 _ hw) hd (kk.2 E mc ms p l e R s m args below meth c Z ok H locs cells slots ls hl hH hF hc hs)
theorem aw_iload_n {k : Fin 4} {x : Int32} (i : Nat) (hd : decode M.2.1 pc = .ok (.iload_n k, 1)) (hi : (k : Nat) = i) (hL : L[i]? = some (some (.int x))) (kk : AW sc M d (pc + 1) L (.int x :: st) h r h') : AW sc M d pc L (st) h r h' := by
  refine ⟨kk.1, ?_⟩
  intro E mc ms p l e R s m args below meth c Z ok H locs cells slots ls hl hH hF hc hs
  exact lv_iload_n ok.1 ok.2.1 hd hi (hl.2.2.2 i _ hL) (kk.2 E mc ms p l e R s m args below meth c Z ok H locs cells slots ls hl hH hF hc hs)
theorem aw_iload {i : Nat} {x : Int32} (hd : decode M.2.1 pc = .ok (.iload i, 2)) (hL : L[i]? = some (some (.int x))) (kk : AW sc M d (pc + 2) L (.int x :: st) h r h') : AW sc M d pc L (st) h r h' := by
  refine ⟨kk.1, ?_⟩
  intro E mc ms p l e R s m args below meth c Z ok H locs cells slots ls hl hH hF hc hs
  exact lv_iload ok.1 ok.2.1 hd (hl.2.2.2 i _ hL) (kk.2 E mc ms p l e R s m args below meth c Z ok H locs cells slots ls hl hH hF hc hs)
theorem aw_lload_n {k : Fin 4} {x : Int64} (i : Nat) (hd : decode M.2.1 pc = .ok (.lload_n k, 1)) (hi : (k : Nat) = i) (hL : L[i]? = some (some (.long x))) (kk : AW sc M d (pc + 1) L (.long x :: st) h r h') : AW sc M d pc L (st) h r h' := by
  refine ⟨kk.1, ?_⟩
  intro E mc ms p l e R s m args below meth c Z ok H locs cells slots ls hl hH hF hc hs
  exact lv_lload_n ok.1 ok.2.1 hd hi (hl.2.2.2 i _ hL) (kk.2 E mc ms p l e R s m args below meth c Z ok H locs cells slots ls hl hH hF hc hs)
theorem aw_lload {i : Nat} {x : Int64} (hd : decode M.2.1 pc = .ok (.lload i, 2)) (hL : L[i]? = some (some (.long x))) (kk : AW sc M d (pc + 2) L (.long x :: st) h r h') : AW sc M d pc L (st) h r h' := by
  refine ⟨kk.1, ?_⟩
  intro E mc ms p l e R s m args below meth c Z ok H locs cells slots ls hl hH hF hc hs
  exact lv_lload ok.1 ok.2.1 hd (hl.2.2.2 i _ hL) (kk.2 E mc ms p l e R s m args below meth c Z ok H locs cells slots ls hl hH hF hc hs)
theorem aw_aload_n {k : Fin 4} {x : Nat} (i : Nat) (hd : decode M.2.1 pc = .ok (.aload_n k, 1)) (hi : (k : Nat) = i) (hL : L[i]? = some (some (.ref x))) (kk : AW sc M d (pc + 1) L (.ref x :: st) h r h') : AW sc M d pc L (st) h r h' := by
  refine ⟨kk.1, ?_⟩
  intro E mc ms p l e R s m args below meth c Z ok H locs cells slots ls hl hH hF hc hs
  exact lv_aload_n ok.1 ok.2.1 hd hi (hl.2.2.2 i _ hL) (kk.2 E mc ms p l e R s m args below meth c Z ok H locs cells slots ls hl hH hF hc hs)
theorem aw_aload {i : Nat} {x : Nat} (hd : decode M.2.1 pc = .ok (.aload i, 2)) (hL : L[i]? = some (some (.ref x))) (kk : AW sc M d (pc + 2) L (.ref x :: st) h r h') : AW sc M d pc L (st) h r h' := by
  refine ⟨kk.1, ?_⟩
  intro E mc ms p l e R s m args below meth c Z ok H locs cells slots ls hl hH hF hc hs
  exact lv_aload ok.1 ok.2.1 hd (hl.2.2.2 i _ hL) (kk.2 E mc ms p l e R s m args below meth c Z ok H locs cells slots ls hl hH hF hc hs)
theorem aw_istore_n {k : Fin 4} {x : Int32} (i : Nat) (hd : decode M.2.1 pc = .ok (.istore_n k, 1)) (hi : (k : Nat) = i) (hn : Nat.ble (i + 1) M.2.2.1 = true) (low : am_low L i = true) (kk : AW sc M d (pc + 1) (L.set i (some (.int x))) (st) h r h') : AW sc M d pc L (.int x :: st) h r h' := by
  refine ⟨kk.1, ?_⟩
  intro E mc ms p l e R s m args below meth c Z ok H locs cells slots ls hl hH hF hc hs
  exact lv_istore_n ok.1 ok.2.1 hd hi hl.has (Nat.le_of_ble_eq_true hn) rfl (fun ls' hl' => kk.2 E mc ms p l e R s m args below meth c Z ok H locs cells slots ls' (am_st1 (v := .int x) hl low hl') hH hF hc hs)
theorem aw_istore {i : Nat} {x : Int32} (hd : decode M.2.1 pc = .ok (.istore i, 2)) (hn : Nat.ble (i + 1) M.2.2.1 = true) (low : am_low L i = true) (kk : AW sc M d (pc + 2) (L.set i (some (.int x))) (st) h r h') : AW sc M d pc L (.int x :: st) h r h' := by
  refine ⟨kk.1, ?_⟩
  intro E mc ms p l e R s m args below meth c Z ok H locs cells slots ls hl hH hF hc hs
  exact lv_istore ok.1 ok.2.1 hd hl.has (Nat.le_of_ble_eq_true hn) rfl (fun ls' hl' => kk.2 E mc ms p l e R s m args below meth c Z ok H locs cells slots ls' (am_st1 (v := .int x) hl low hl') hH hF hc hs)
theorem aw_lstore_n {k : Fin 4} {x : Int64} (i : Nat) (hd : decode M.2.1 pc = .ok (.lstore_n k, 1)) (hi : (k : Nat) = i) (hn : Nat.ble (i + 2) M.2.2.1 = true) (low : am_low L i = true) (kk : AW sc M d (pc + 1) ((L.set i (some (.long x))).set (i + 1) none) (st) h r h') : AW sc M d pc L (.long x :: st) h r h' := by
  refine ⟨kk.1, ?_⟩
  intro E mc ms p l e R s m args below meth c Z ok H locs cells slots ls hl hH hF hc hs
  exact lv_lstore_n ok.1 ok.2.1 hd hi hl.has (Nat.le_of_ble_eq_true hn) rfl (fun ls' hl' => kk.2 E mc ms p l e R s m args below meth c Z ok H locs cells slots ls' (am_st2 (v := .long x) hl low hl') hH hF hc hs)
theorem aw_lstore {i : Nat} {x : Int64} (hd : decode M.2.1 pc = .ok (.lstore i, 2)) (hn : Nat.ble (i + 2) M.2.2.1 = true) (low : am_low L i = true) (kk : AW sc M d (pc + 2) ((L.set i (some (.long x))).set (i + 1) none) (st) h r h') : AW sc M d pc L (.long x :: st) h r h' := by
  refine ⟨kk.1, ?_⟩
  intro E mc ms p l e R s m args below meth c Z ok H locs cells slots ls hl hH hF hc hs
  exact lv_lstore ok.1 ok.2.1 hd hl.has (Nat.le_of_ble_eq_true hn) rfl (fun ls' hl' => kk.2 E mc ms p l e R s m args below meth c Z ok H locs cells slots ls' (am_st2 (v := .long x) hl low hl') hH hF hc hs)
theorem aw_astore_n {k : Fin 4} {x : Nat} (i : Nat) (hd : decode M.2.1 pc = .ok (.astore_n k, 1)) (hi : (k : Nat) = i) (hn : Nat.ble (i + 1) M.2.2.1 = true) (low : am_low L i = true) (kk : AW sc M d (pc + 1) (L.set i (some (.ref x))) (st) h r h') : AW sc M d pc L (.ref x :: st) h r h' := by
  refine ⟨kk.1, ?_⟩
  intro E mc ms p l e R s m args below meth c Z ok H locs cells slots ls hl hH hF hc hs
  exact lv_astore_n ok.1 ok.2.1 hd hi hl.has (Nat.le_of_ble_eq_true hn) rfl (fun ls' hl' => kk.2 E mc ms p l e R s m args below meth c Z ok H locs cells slots ls' (am_st1 (v := .ref x) hl low hl') hH hF hc hs)
theorem aw_astore {i : Nat} {x : Nat} (hd : decode M.2.1 pc = .ok (.astore i, 2)) (hn : Nat.ble (i + 1) M.2.2.1 = true) (low : am_low L i = true) (kk : AW sc M d (pc + 2) (L.set i (some (.ref x))) (st) h r h') : AW sc M d pc L (.ref x :: st) h r h' := by
  refine ⟨kk.1, ?_⟩
  intro E mc ms p l e R s m args below meth c Z ok H locs cells slots ls hl hH hF hc hs
  exact lv_astore ok.1 ok.2.1 hd hl.has (Nat.le_of_ble_eq_true hn) rfl (fun ls' hl' => kk.2 E mc ms p l e R s m args below meth c Z ok H locs cells slots ls' (am_st1 (v := .ref x) hl low hl') hH hF hc hs)
theorem aw_iinc {i : Nat} {n : Int} {x : Int32} (v : Int32) (hd : decode M.2.1 pc = .ok (.iinc i n, 3)) (hL : L[i]? = some (some (.int x))) (hv : x + Int32.ofInt n = v) (hn : Nat.ble (i + 1) M.2.2.1 = true) (low : am_low L i = true) (kk : AW sc M d (pc + 3) (L.set i (some (.int v))) st h r h') : AW sc M d pc L st h r h' := by
  refine ⟨kk.1, ?_⟩
  intro E mc ms p l e R s m args below meth c Z ok H locs cells slots ls hl hH hF hc hs
  obtain ⟨k, hk⟩ := List.getElem?_of_mem (am_pl_in (E := E) hL)
  exact lv_iinc ok.1 ok.2.1 hd hl.has hk hv (Nat.le_of_ble_eq_true hn) rfl (fun ls' hl' => kk.2 E mc ms p l e R s m args below meth c Z ok H locs cells slots ls' (am_st1 (v := .int v) hl low hl') hH hF hc hs)
theorem aw_dup {va : Value} (hd : decode M.2.1 pc = .ok (.dup, 1)) (c1 : va.category = 1) (kk : AW sc M d (pc + 1) L (va :: va :: st) h r h') : AW sc M d pc L (va :: st) h r h' := by
  refine ⟨kk.1, ?_⟩
  intro E mc ms p l e R s m args below meth c Z ok H locs cells slots ls hl hH hF hc hs
  exact lv_dup ok.1 ok.2.1 hd ((am_v_cat E va).trans c1) (kk.2 E mc ms p l e R s m args below meth c Z ok H locs cells slots ls hl hH hF hc hs)
theorem aw_pop {va : Value} (hd : decode M.2.1 pc = .ok (.pop, 1)) (c1 : va.category = 1) (kk : AW sc M d (pc + 1) L (st) h r h') : AW sc M d pc L (va :: st) h r h' := by
  refine ⟨kk.1, ?_⟩
  intro E mc ms p l e R s m args below meth c Z ok H locs cells slots ls hl hH hF hc hs
  exact lv_pop ok.1 ok.2.1 hd ((am_v_cat E va).trans c1) (kk.2 E mc ms p l e R s m args below meth c Z ok H locs cells slots ls hl hH hF hc hs)
theorem aw_dup_x1 {va vb : Value} (hd : decode M.2.1 pc = .ok (.dup_x1, 1)) (c1 : va.category = 1) (c2 : vb.category = 1) (kk : AW sc M d (pc + 1) L (va :: vb :: va :: st) h r h') : AW sc M d pc L (va :: vb :: st) h r h' := by
  refine ⟨kk.1, ?_⟩
  intro E mc ms p l e R s m args below meth c Z ok H locs cells slots ls hl hH hF hc hs
  exact lv_dup_x1 ok.1 ok.2.1 hd ((am_v_cat E va).trans c1) ((am_v_cat E vb).trans c2) (kk.2 E mc ms p l e R s m args below meth c Z ok H locs cells slots ls hl hH hF hc hs)
theorem aw_dup_x2 {va vb vd : Value} (hd : decode M.2.1 pc = .ok (.dup_x2, 1)) (c1 : va.category = 1) (c2 : vb.category = 1) (c3 : vd.category = 1) (kk : AW sc M d (pc + 1) L (va :: vb :: vd :: va :: st) h r h') : AW sc M d pc L (va :: vb :: vd :: st) h r h' := by
  refine ⟨kk.1, ?_⟩
  intro E mc ms p l e R s m args below meth c Z ok H locs cells slots ls hl hH hF hc hs
  exact lv_dup_x2 ok.1 ok.2.1 hd ((am_v_cat E va).trans c1) ((am_v_cat E vb).trans c2) ((am_v_cat E vd).trans c3) (kk.2 E mc ms p l e R s m args below meth c Z ok H locs cells slots ls hl hH hF hc hs)
theorem aw_dup2_11 {va vb : Value} (hd : decode M.2.1 pc = .ok (.dup2, 1)) (c1 : va.category = 1) (c2 : vb.category = 1) (kk : AW sc M d (pc + 1) L (va :: vb :: va :: vb :: st) h r h') : AW sc M d pc L (va :: vb :: st) h r h' := by
  refine ⟨kk.1, ?_⟩
  intro E mc ms p l e R s m args below meth c Z ok H locs cells slots ls hl hH hF hc hs
  exact lv_dup2_11 ok.1 ok.2.1 hd ((am_v_cat E va).trans c1) ((am_v_cat E vb).trans c2) (kk.2 E mc ms p l e R s m args below meth c Z ok H locs cells slots ls hl hH hF hc hs)
theorem aw_dup2_2 {va : Value} (hd : decode M.2.1 pc = .ok (.dup2, 1)) (c1 : va.category = 2) (kk : AW sc M d (pc + 1) L (va :: va :: st) h r h') : AW sc M d pc L (va :: st) h r h' := by
  refine ⟨kk.1, ?_⟩
  intro E mc ms p l e R s m args below meth c Z ok H locs cells slots ls hl hH hF hc hs
  exact lv_dup2_2 ok.1 ok.2.1 hd ((am_v_cat E va).trans c1) (kk.2 E mc ms p l e R s m args below meth c Z ok H locs cells slots ls hl hH hF hc hs)
theorem aw_pop2_2 {va : Value} (hd : decode M.2.1 pc = .ok (.pop2, 1)) (c1 : va.category = 2) (kk : AW sc M d (pc + 1) L (st) h r h') : AW sc M d pc L (va :: st) h r h' := by
  refine ⟨kk.1, ?_⟩
  intro E mc ms p l e R s m args below meth c Z ok H locs cells slots ls hl hH hF hc hs
  exact lv_pop2_2 ok.1 ok.2.1 hd ((am_v_cat E va).trans c1) (kk.2 E mc ms p l e R s m args below meth c Z ok H locs cells slots ls hl hH hF hc hs)
theorem aw_dup2_x1_2 {va vb : Value} (hd : decode M.2.1 pc = .ok (.dup2_x1, 1)) (c1 : va.category = 2) (c2 : vb.category = 1) (kk : AW sc M d (pc + 1) L (va :: vb :: va :: st) h r h') : AW sc M d pc L (va :: vb :: st) h r h' := by
  refine ⟨kk.1, ?_⟩
  intro E mc ms p l e R s m args below meth c Z ok H locs cells slots ls hl hH hF hc hs
  exact lv_dup2_x1_2 ok.1 ok.2.1 hd ((am_v_cat E va).trans c1) ((am_v_cat E vb).trans c2) (kk.2 E mc ms p l e R s m args below meth c Z ok H locs cells slots ls hl hH hF hc hs)
theorem aw_dup2_x2_2 {va vb vd : Value} (hd : decode M.2.1 pc = .ok (.dup2_x2, 1)) (c1 : va.category = 2) (c2 : vb.category = 1) (c3 : vd.category = 1) (kk : AW sc M d (pc + 1) L (va :: vb :: vd :: va :: st) h r h') : AW sc M d pc L (va :: vb :: vd :: st) h r h' := by
  refine ⟨kk.1, ?_⟩
  intro E mc ms p l e R s m args below meth c Z ok H locs cells slots ls hl hH hF hc hs
  exact lv_dup2_x2_2 ok.1 ok.2.1 hd ((am_v_cat E va).trans c1) ((am_v_cat E vb).trans c2) ((am_v_cat E vd).trans c3) (kk.2 E mc ms p l e R s m args below meth c Z ok H locs cells slots ls hl hH hF hc hs)
theorem aw_if_eq {x : Int32} {off : Int} (tgt : Nat) (hd : decode M.2.1 pc = .ok (.ifCond .eq off, 3)) (ht : (pc : Int) + off = (tgt : Int)) (kt : x = 0 → AW sc M d tgt L st h r h') (kf : ¬ x = 0 → AW sc M d (pc + 3) L st h r h') : AW sc M d pc L (.int x :: st) h r h' := by
  refine ⟨am_le.br (c := x = 0) (fun q => (kt q).1) (fun q => (kf q).1), ?_⟩
  intro E mc ms p l e R s m args below meth c Z ok H locs cells slots ls hl hH hF hc hs
  exact lv_if_eq ok.1 ok.2.1 hd ht (fun q => (kt q).2 E mc ms p l e R s m args below meth c Z ok H locs cells slots ls hl hH hF hc hs) (fun q => (kf q).2 E mc ms p l e R s m args below meth c Z ok H locs cells slots ls hl hH hF hc hs)
theorem aw_icmp_eq {x y : Int32} {off : Int} (tgt : Nat) (hd : decode M.2.1 pc = .ok (.if_icmp .eq off, 3)) (ht : (pc : Int) + off = (tgt : Int)) (kt : x = y → AW sc M d tgt L st h r h') (kf : ¬ x = y → AW sc M d (pc + 3) L st h r h') : AW sc M d pc L (.int y :: .int x :: st) h r h' := by
  refine ⟨am_le.br (c := x = y) (fun q => (kt q).1) (fun q => (kf q).1), ?_⟩
  intro E mc ms p l e R s m args below meth c Z ok H locs cells slots ls hl hH hF hc hs
  exact lv_icmp_eq ok.1 ok.2.1 hd ht (fun q => (kt q).2 E mc ms p l e R s m args below meth c Z ok H locs cells slots ls hl hH hF hc hs) (fun q => (kf q).2 E mc ms p l e R s m args below meth c Z ok H locs cells slots ls hl hH hF hc hs)
theorem aw_if_ne {x : Int32} {off : Int} (tgt : Nat) (hd : decode M.2.1 pc = .ok (.ifCond .ne off, 3)) (ht : (pc : Int) + off = (tgt : Int)) (kt : ¬ x = 0 → AW sc M d tgt L st h r h') (kf : x = 0 → AW sc M d (pc + 3) L st h r h') : AW sc M d pc L (.int x :: st) h r h' := by
  refine ⟨am_le.br (c := x = 0) (fun q => (kf q).1) (fun q => (kt q).1), ?_⟩
  intro E mc ms p l e R s m args below meth c Z ok H locs cells slots ls hl hH hF hc hs
  exact lv_if_ne ok.1 ok.2.1 hd ht (fun q => (kt q).2 E mc ms p l e R s m args below meth c Z ok H locs cells slots ls hl hH hF hc hs) (fun q => (kf q).2 E mc ms p l e R s m args below meth c Z ok H locs cells slots ls hl hH hF hc hs)
theorem aw_icmp_ne {x y : Int32} {off : Int} (tgt : Nat) (hd : decode M.2.1 pc = .ok (.if_icmp .ne off, 3)) (ht : (pc : Int) + off = (tgt : Int)) (kt : ¬ x = y → AW sc M d tgt L st h r h') (kf : x = y → AW sc M d (pc + 3) L st h r h') : AW sc M d pc L (.int y :: .int x :: st) h r h' := by
  refine ⟨am_le.br (c := x = y) (fun q => (kf q).1) (fun q => (kt q).1), ?_⟩
  intro E mc ms p l e R s m args below meth c Z ok H locs cells slots ls hl hH hF hc hs
  exact lv_icmp_ne ok.1 ok.2.1 hd ht (fun q => (kt q).2 E mc ms p l e R s m args below meth c Z ok H locs cells slots ls hl hH hF hc hs) (fun q => (kf q).2 E mc ms p l e R s m args below meth c Z ok H locs cells slots ls hl hH hF hc hs)
theorem aw_if_lt {x : Int32} {off : Int} (tgt : Nat) (hd : decode M.2.1 pc = .ok (.ifCond .lt off, 3)) (ht : (pc : Int) + off = (tgt : Int)) (kt : x < 0 → AW sc M d tgt L st h r h') (kf : ¬ x < 0 → AW sc M d (pc + 3) L st h r h') : AW sc M d pc L (.int x :: st) h r h' := by
  refine ⟨am_le.br (c := x < 0) (fun q => (kt q).1) (fun q => (kf q).1), ?_⟩
  intro E mc ms p l e R s m args below meth c Z ok H locs cells slots ls hl hH hF hc hs
  exact lv_if_lt ok.1 ok.2.1 hd ht (fun q => (kt q).2 E mc ms p l e R s m args below meth c Z ok H locs cells slots ls hl hH hF hc hs) (fun q => (kf q).2 E mc ms p l e R s m args below meth c Z ok H locs cells slots ls hl hH hF hc hs)
theorem aw_icmp_lt {x y : Int32} {off : Int} (tgt : Nat) (hd : decode M.2.1 pc = .ok (.if_icmp .lt off, 3)) (ht : (pc : Int) + off = (tgt : Int)) (kt : x < y → AW sc M d tgt L st h r h') (kf : ¬ x < y → AW sc M d (pc + 3) L st h r h') : AW sc M d pc L (.int y :: .int x :: st) h r h' := by
  refine ⟨am_le.br (c := x < y) (fun q => (kt q).1) (fun q => (kf q).1), ?_⟩
  intro E mc ms p l e R s m args below meth c Z ok H locs cells slots ls hl hH hF hc hs
  exact lv_icmp_lt ok.1 ok.2.1 hd ht (fun q => (kt q).2 E mc ms p l e R s m args below meth c Z ok H locs cells slots ls hl hH hF hc hs) (fun q => (kf q).2 E mc ms p l e R s m args below meth c Z ok H locs cells slots ls hl hH hF hc hs)
theorem aw_if_ge {x : Int32} {off : Int} (tgt : Nat) (hd : decode M.2.1 pc = .ok (.ifCond .ge off, 3)) (ht : (pc : Int) + off = (tgt : Int)) (kt : 0 ≤ x → AW sc M d tgt L st h r h') (kf : ¬ 0 ≤ x → AW sc M d (pc + 3) L st h r h') : AW sc M d pc L (.int x :: st) h r h' := by
  refine ⟨am_le.br (c := 0 ≤ x) (fun q => (kt q).1) (fun q => (kf q).1), ?_⟩
  intro E mc ms p l e R s m args below meth c Z ok H locs cells slots ls hl hH hF hc hs
  exact lv_if_ge ok.1 ok.2.1 hd ht (fun q => (kt q).2 E mc ms p l e R s m args below meth c Z ok H locs cells slots ls hl hH hF hc hs) (fun q => (kf q).2 E mc ms p l e R s m args below meth c Z ok H locs cells slots ls hl hH hF hc hs)
theorem aw_icmp_ge {x y : Int32} {off : Int} (tgt : Nat) (hd : decode M.2.1 pc = .ok (.if_icmp .ge off, 3)) (ht : (pc : Int) + off = (tgt : Int)) (kt : y ≤ x → AW sc M d tgt L st h r h') (kf : ¬ y ≤ x → AW sc M d (pc + 3) L st h r h') : AW sc M d pc L (.int y :: .int x :: st) h r h' := by
  refine ⟨am_le.br (c := y ≤ x) (fun q => (kt q).1) (fun q => (kf q).1), ?_⟩
  intro E mc ms p l e R s m args below meth c Z ok H locs cells slots ls hl hH hF hc hs
  exact lv_icmp_ge ok.1 ok.2.1 hd ht (fun q => (kt q).2 E mc ms p l e R s m args below meth c Z ok H locs cells slots ls hl hH hF hc hs) (fun q => (kf q).2 E mc ms p l e R s m args below meth c Z ok H locs cells slots ls hl hH hF hc hs)
theorem aw_if_gt {x : Int32} {off : Int} (tgt : Nat) (hd : decode M.2.1 pc = .ok (.ifCond .gt off, 3)) (ht : (pc : Int) + off = (tgt : Int)) (kt : 0 < x → AW sc M d tgt L st h r h') (kf : ¬ 0 < x → AW sc M d (pc + 3) L st h r h') : AW sc M d pc L (.int x :: st) h r h' := by
  refine ⟨am_le.br (c := 0 < x) (fun q => (kt q).1) (fun q => (kf q).1), ?_⟩
  intro E mc ms p l e R s m args below meth c Z ok H locs cells slots ls hl hH hF hc hs
  exact lv_if_gt ok.1 ok.2.1 hd ht (fun q => (kt q).2 E mc ms p l e R s m args below meth c Z ok H locs cells slots ls hl hH hF hc hs) (fun q => (kf q).2 E mc ms p l e R s m args below meth c Z ok H locs cells slots ls hl hH hF hc hs)
theorem aw_icmp_gt {x y : Int32} {off : Int} (tgt : Nat) (hd : decode M.2.1 pc = .ok (.if_icmp .gt off, 3)) (ht : (pc : Int) + off = (tgt : Int)) (kt : y < x → AW sc M d tgt L st h r h') (kf : ¬ y < x → AW sc M d (pc + 3) L st h r h') : AW sc M d pc L (.int y :: .int x :: st) h r h' := by
  refine ⟨am_le.br (c := y < x) (fun q => (kt q).1) (fun q => (kf q).1), ?_⟩
  intro E mc ms p l e R s m args below meth c Z ok H locs cells slots ls hl hH hF hc hs
  exact lv_icmp_gt ok.1 ok.2.1 hd ht (fun q => (kt q).2 E mc ms p l e R s m args below meth c Z ok H locs cells slots ls hl hH hF hc hs) (fun q => (kf q).2 E mc ms p l e R s m args below meth c Z ok H locs cells slots ls hl hH hF hc hs)
theorem aw_if_le {x : Int32} {off : Int} (tgt : Nat) (hd : decode M.2.1 pc = .ok (.ifCond .le off, 3)) (ht : (pc : Int) + off = (tgt : Int)) (kt : x ≤ 0 → AW sc M d tgt L st h r h') (kf : ¬ x ≤ 0 → AW sc M d (pc + 3) L st h r h') : AW sc M d pc L (.int x :: st) h r h' := by
  refine ⟨am_le.br (c := x ≤ 0) (fun q => (kt q).1) (fun q => (kf q).1), ?_⟩
  intro E mc ms p l e R s m args below meth c Z ok H locs cells slots ls hl hH hF hc hs
  exact lv_if_le ok.1 ok.2.1 hd ht (fun q => (kt q).2 E mc ms p l e R s m args below meth c Z ok H locs cells slots ls hl hH hF hc hs) (fun q => (kf q).2 E mc ms p l e R s m args below meth c Z ok H locs cells slots ls hl hH hF hc hs)
theorem aw_icmp_le {x y : Int32} {off : Int} (tgt : Nat) (hd : decode M.2.1 pc = .ok (.if_icmp .le off, 3)) (ht : (pc : Int) + off = (tgt : Int)) (kt : x ≤ y → AW sc M d tgt L st h r h') (kf : ¬ x ≤ y → AW sc M d (pc + 3) L st h r h') : AW sc M d pc L (.int y :: .int x :: st) h r h' := by
  refine ⟨am_le.br (c := x ≤ y) (fun q => (kt q).1) (fun q => (kf q).1), ?_⟩
  intro E mc ms p l e R s m args below meth c Z ok H locs cells slots ls hl hH hF hc hs
  exact lv_icmp_le ok.1 ok.2.1 hd ht (fun q => (kt q).2 E mc ms p l e R s m args below meth c Z ok H locs cells slots ls hl hH hF hc hs) (fun q => (kf q).2 E mc ms p l e R s m args below meth c Z ok H locs cells slots ls hl hH hF hc hs)
theorem aw_lcmp_eq {x y : Int64} {off : Int} (tgt : Nat) (hd0 : decode M.2.1 pc = .ok (.lcmp, 1)) (hd : decode M.2.1 (pc + 1) = .ok (.ifCond .eq off, 3)) (ht : ((pc + 1 : Nat) : Int) + off = (tgt : Int)) (kt : x = y → AW sc M d tgt L st h r h') (kf : ¬ x = y → AW sc M d (pc + 4) L st h r h') : AW sc M d pc L (.long y :: .long x :: st) h r h' := by
  refine ⟨am_le.br (c := x = y) (fun q => (kt q).1) (fun q => (kf q).1), ?_⟩
  intro E mc ms p l e R s m args below meth c Z ok H locs cells slots ls hl hH hF hc hs
  refine W.lcmp ok.1 ok.2.1 hd0 ?_
  exact lv_if_eq ok.1 ok.2.1 hd ht (fun q => (kt ((lg_cmp_eq x y).mp q)).2 E mc ms p l e R s m args below meth c Z ok H locs cells slots ls hl hH hF hc hs) (fun q => (kf (fun z => q ((lg_cmp_eq x y).mpr z))).2 E mc ms p l e R s m args below meth c Z ok H locs cells slots ls hl hH hF hc hs)
theorem aw_lcmp_ne {x y : Int64} {off : Int} (tgt : Nat) (hd0 : decode M.2.1 pc = .ok (.lcmp, 1)) (hd : decode M.2.1 (pc + 1) = .ok (.ifCond .ne off, 3)) (ht : ((pc + 1 : Nat) : Int) + off = (tgt : Int)) (kt : ¬ x = y → AW sc M d tgt L st h r h') (kf : x = y → AW sc M d (pc + 4) L st h r h') : AW sc M d pc L (.long y :: .long x :: st) h r h' := by
  refine ⟨am_le.br (c := x = y) (fun q => (kf q).1) (fun q => (kt q).1), ?_⟩
  intro E mc ms p l e R s m args below meth c Z ok H locs cells slots ls hl hH hF hc hs
  refine W.lcmp ok.1 ok.2.1 hd0 ?_
  exact lv_if_ne ok.1 ok.2.1 hd ht (fun q => (kt (fun z => q ((lg_cmp_eq x y).mpr z))).2 E mc ms p l e R s m args below meth c Z ok H locs cells slots ls hl hH hF hc hs) (fun q => (kf ((lg_cmp_eq x y).mp q)).2 E mc ms p l e R s m args below meth c Z ok H locs cells slots ls hl hH hF hc hs)
theorem aw_lcmp_lt {x y : Int64} {off : Int} (tgt : Nat) (hd0 : decode M.2.1 pc = .ok (.lcmp, 1)) (hd : decode M.2.1 (pc + 1) = .ok (.ifCond .lt off, 3)) (ht : ((pc + 1 : Nat) : Int) + off = (tgt : Int)) (kt : x < y → AW sc M d tgt L st h r h') (kf : ¬ x < y → AW sc M d (pc + 4) L st h r h') : AW sc M d pc L (.long y :: .long x :: st) h r h' := by
  refine ⟨am_le.br (c := x < y) (fun q => (kt q).1) (fun q => (kf q).1), ?_⟩
  intro E mc ms p l e R s m args below meth c Z ok H locs cells slots ls hl hH hF hc hs
  refine W.lcmp ok.1 ok.2.1 hd0 ?_
  exact lv_if_lt ok.1 ok.2.1 hd ht (fun q => (kt ((lg_cmp_lt x y).mp q)).2 E mc ms p l e R s m args below meth c Z ok H locs cells slots ls hl hH hF hc hs) (fun q => (kf (fun z => q ((lg_cmp_lt x y).mpr z))).2 E mc ms p l e R s m args below meth c Z ok H locs cells slots ls hl hH hF hc hs)
theorem aw_lcmp_ge {x y : Int64} {off : Int} (tgt : Nat) (hd0 : decode M.2.1 pc = .ok (.lcmp, 1)) (hd : decode M.2.1 (pc + 1) = .ok (.ifCond .ge off, 3)) (ht : ((pc + 1 : Nat) : Int) + off = (tgt : Int)) (kt : y ≤ x → AW sc M d tgt L st h r h') (kf : ¬ y ≤ x → AW sc M d (pc + 4) L st h r h') : AW sc M d pc L (.long y :: .long x :: st) h r h' := by
  refine ⟨am_le.br (c := y ≤ x) (fun q => (kt q).1) (fun q => (kf q).1), ?_⟩
  intro E mc ms p l e R s m args below meth c Z ok H locs cells slots ls hl hH hF hc hs
  refine W.lcmp ok.1 ok.2.1 hd0 ?_
  exact lv_if_ge ok.1 ok.2.1 hd ht (fun q => (kt ((lg_cmp_ge x y).mp q)).2 E mc ms p l e R s m args below meth c Z ok H locs cells slots ls hl hH hF hc hs) (fun q => (kf (fun z => q ((lg_cmp_ge x y).mpr z))).2 E mc ms p l e R s m args below meth c Z ok H locs cells slots ls hl hH hF hc hs)
theorem aw_lcmp_gt {x y : Int64} {off : Int} (tgt : Nat) (hd0 : decode M.2.1 pc = .ok (.lcmp, 1)) (hd : decode M.2.1 (pc + 1) = .ok (.ifCond .gt off, 3)) (ht : ((pc + 1 : Nat) : Int) + off = (tgt : Int)) (kt : y < x → AW sc M d tgt L st h r h') (kf : ¬ y < x → AW sc M d (pc + 4) L st h r h') : AW sc M d pc L (.long y :: .long x :: st) h r h' := by
  refine ⟨am_le.br (c := y < x) (fun q => (kt q).1) (fun q => (kf q).1), ?_⟩
  intro E mc ms p l e R s m args below meth c Z ok H locs cells slots ls hl hH hF hc hs
  refine W.lcmp ok.1 ok.2.1 hd0 ?_
  exact lv_if_gt ok.1 ok.2.1 hd ht (fun q => (kt ((lg_cmp_gt x y).mp q)).2 E mc ms p l e R s m args below meth c Z ok H locs cells slots ls hl hH hF hc hs) (fun q => (kf (fun z => q ((lg_cmp_gt x y).mpr z))).2 E mc ms p l e R s m args below meth c Z ok H locs cells slots ls hl hH hF hc hs)
theorem aw_lcmp_le {x y : Int64} {off : Int} (tgt : Nat) (hd0 : decode M.2.1 pc = .ok (.lcmp, 1)) (hd : decode M.2.1 (pc + 1) = .ok (.ifCond .le off, 3)) (ht : ((pc + 1 : Nat) : Int) + off = (tgt : Int)) (kt : x ≤ y → AW sc M d tgt L st h r h') (kf : ¬ x ≤ y → AW sc M d (pc + 4) L st h r h') : AW sc M d pc L (.long y :: .long x :: st) h r h' := by
  refine ⟨am_le.br (c := x ≤ y) (fun q => (kt q).1) (fun q => (kf q).1), ?_⟩
  intro E mc ms p l e R s m args below meth c Z ok H locs cells slots ls hl hH hF hc hs
  refine W.lcmp ok.1 ok.2.1 hd0 ?_
  exact lv_if_le ok.1 ok.2.1 hd ht (fun q => (kt ((lg_cmp_le x y).mp q)).2 E mc ms p l e R s m args below meth c Z ok H locs cells slots ls hl hH hF hc hs) (fun q => (kf (fun z => q ((lg_cmp_le x y).mpr z))).2 E mc ms p l e R s m args below meth c Z ok H locs cells slots ls hl hH hF hc hs)
theorem aw_lcmp {x y : Int64} (hd : decode M.2.1 pc = .ok (.lcmp, 1)) (kk : AW sc M d (pc + 1) L (.int (lg_cmp x y) :: st) h r h') : AW sc M d pc L (.long y :: .long x :: st) h r h' := by
  refine ⟨kk.1, ?_⟩
  intro E mc ms p l e R s m args below meth c Z ok H locs cells slots ls hl hH hF hc hs
  exact W.lcmp ok.1 ok.2.1 hd (kk.2 E mc ms p l e R s m args below meth c Z ok H locs cells slots ls hl hH hF hc hs)
theorem aw_goto {off : Int} (tgt : Nat) (hd : decode M.2.1 pc = .ok (.goto off, 3)) (ht : (pc : Int) + off = (tgt : Int)) (kk : AW sc M d tgt L st h r h') : AW sc M d pc L st h r h' := by
  refine ⟨kk.1, ?_⟩
  intro E mc ms p l e R s m args below meth c Z ok H locs cells slots ls hl hH hF hc hs
  exact lv_goto ok.1 ok.2.1 hd ht (kk.2 E mc ms p l e R s m args below meth c Z ok H locs cells slots ls hl hH hF hc hs)
theorem aw_tableIn {dflt lo hi : Int} {offs : Array Int} {len : Nat} {x : Int32} {off : Int} (tgt : Nat) (hd : decode M.2.1 pc = .ok (.tableswitch dflt lo hi offs, len)) (h1 : ¬ x.toInt < lo) (h2 : ¬ hi < x.toInt) (ho : offs[(x.toInt - lo).toNat]? = some off) (ht : (pc : Int) + off = (tgt : Int)) (kk : AW sc M d tgt L st h r h') : AW sc M d pc L (.int x :: st) h r h' := by
  refine ⟨kk.1, ?_⟩
  intro E mc ms p l e R s m args below meth c Z ok H locs cells slots ls hl hH hF hc hs
  exact lv_tableIn ok.1 ok.2.1 hd h1 h2 ho ht (kk.2 E mc ms p l e R s m args below meth c Z ok H locs cells slots ls hl hH hF hc hs)
theorem aw_tableOut {dflt lo hi : Int} {offs : Array Int} {len : Nat} {x : Int32} (tgt : Nat) (hd : decode M.2.1 pc = .ok (.tableswitch dflt lo hi offs, len)) (ho : x.toInt < lo ∨ hi < x.toInt) (ht : (pc : Int) + dflt = (tgt : Int)) (kk : AW sc M d tgt L st h r h') : AW sc M d pc L (.int x :: st) h r h' := by
  refine ⟨kk.1, ?_⟩
  intro E mc ms p l e R s m args below meth c Z ok H locs cells slots ls hl hH hF hc hs
  exact lv_tableOut ok.1 ok.2.1 hd ho ht (kk.2 E mc ms p l e R s m args below meth c Z ok H locs cells slots ls hl hH hF hc hs)
theorem aw_kill (ks : List Nat) (kk : AW sc M d pc (am_kill L ks) st h r h') : AW sc M d pc L st h r h' := by
  refine ⟨kk.1, ?_⟩
  intro E mc ms p l e R s m args below meth c Z ok H locs cells slots ls hl hH hF hc hs
  exact kk.2 E mc ms p l e R s m args below meth c Z ok H locs cells slots ls (hl.kill ks) hH hF hc hs
theorem aw_iret {v : Int32} (ty : FieldType) (hd : decode M.2.1 pc = .ok (.ireturn, 1)) (hty : M.2.2.2 = some ty) (hn : narrow ty (.int v) = .int v) (hr : r = some (.int v)) (hh : h' = h) : AW sc M d pc L [.int v] h r h' := by
  subst hr; subst hh
  refine ⟨am_le.rf _, ?_⟩
  intro E mc ms p l e R s m args below meth c Z ok H locs cells slots ls hl hH hF hc hs
  refine W.widen (by omega) (by omega) (ok.2.2.2.2.2.2.2.2.2 H locs pc ls hH hF ?_)
  exact ⟨ty, hty, hn, hd⟩
theorem aw_lret {v : Int64} (hd : decode M.2.1 pc = .ok (.lreturn, 1)) (hty : M.2.2.2 = some .long) (hr : r = some (.long v)) (hh : h' = h) : AW sc M d pc L [.long v] h r h' := by
  subst hr; subst hh
  refine ⟨am_le.rf _, ?_⟩
  intro E mc ms p l e R s m args below meth c Z ok H locs cells slots ls hl hH hF hc hs
  refine W.widen (by omega) (by omega) (ok.2.2.2.2.2.2.2.2.2 H locs pc ls hH hF ?_)
  exact ⟨hty, hd⟩
theorem aw_vret (hd : decode M.2.1 pc = .ok (.return_, 1)) (hty : M.2.2.2 = none) (hr : r = none) (hh : h' = h) : AW sc M d pc L [] h r h' := by
  subst hr; subst hh
  refine ⟨am_le.rf _, ?_⟩
  intro E mc ms p l e R s m args below meth c Z ok H locs cells slots ls hl hH hF hc hs
  refine W.widen (by omega) (by omega) (ok.2.2.2.2.2.2.2.2.2 H locs pc ls hH hF ?_)
  exact ⟨hty, hd⟩
end AMR
end
section
/-! THE AM's ROWS: fields, arrays, new, calls -/
theorem am_nar (E : am_E) (ty : FieldType) (v : Value) (h : narrow ty v = v) : narrow ty (am_v E v) = am_v E v := by
  cases v with
  | ref k => cases ty <;> rfl
  | _ => exact h
theorem am_fit (E : am_E) (ty : FieldType) (v : Value) (h : fits ty v = true) : fits ty (am_v E v) = true := by
  cases v with
  | ref k => cases ty <;> first | rfl | exact h
  | _ => exact h
def am_fl (own : String) (idx ci k : Nat) : Prop := ∃ (C : String) (T : u_T) (N : Nat), am_cl[ci]? = some (C, T, N) ∧ k < N ∧ (∀ w ∈ u_ws C T N, w ∈ am_T) ∧ Cond.fieldLink own idx C (T k).2.1 (T k).2.2.1 ∈ am_T ∧ (T k).1 = C
def am_fn (own : String) (idx ci k : Nat) : Prop := ∃ (C : String) (T : u_T) (N : Nat) (host : String), am_cl[ci]? = some (C, T, N) ∧ k < N ∧ (∀ w ∈ u_ws C T N, w ∈ am_T) ∧ (own, idx, C, (T k).2.1, (T k).2.2.1, host) ∈ am_nf ∧ (T k).1 = C
/-- what a class's table gives: its types, its names apart -/
def am_tb (ci : Nat) (ty0 : Nat → FieldType) : Prop := ∃ (C : String) (T : u_T) (N : Nat), am_cl[ci]? = some (C, T, N) ∧ (∀ w ∈ u_ws C T N, w ∈ am_T) ∧ (∀ k, k < N → parseFieldDescriptor (T k).2.2.1 = some (ty0 k)) ∧ ∀ a, a < N → ∀ b, b < N → a ≠ b → (T a).2.1 ≠ (T b).2.1
def am_fin (ci k : Nat) (fin : Bool) : Prop := ∃ (C : String) (T : u_T) (N : Nat), am_cl[ci]? = some (C, T, N) ∧ (T k).2.2.2 = fin
theorem am_one {E : am_E} {o ci : Nat} {fs : List Value} {H : Heap} {h : List am_C} (hH : am_H E h H) (ho : h[o]? = some (.inr (ci, fs))) : va_P E.2.2.1 am_cl [(E.2.1 + o, .inr (ci, fs.map (am_v E)))] H := by
  obtain ⟨rr, q1, q2, q3⟩ := hH.2 o _ ho
  intro j q hj
  match j, hj with
  | 0, hj => cases hj; exact ⟨rr, q1, q3⟩
  | j + 1, hj => simp at hj
theorem am_oneA {E : am_E} {o t : Nat} {x : vp_A} {H : Heap} {h : List am_C} (hH : am_H E h H) (ho : h[o]? = some (.inl (t, x))) : va_P E.2.2.1 am_cl [(E.2.1 + o, .inl (E.2.2.2 t, am_g E x))] H := by
  have h0 := hH.2 o _ ho
  intro j q hj
  match j, hj with
  | 0, hj => cases hj; exact h0
  | j + 1, hj => simp at hj
theorem am_KA {E : am_E} {U : State} {t : Nat} {ty : FieldType} (hK : am_K E U) (ht : am_ty[t]? = some ty) : ArrOfT U (E.2.2.2 t) ty := (hK.2.1 t ty ht).1
theorem am_rcv {E : am_E} {s : State} {H : Heap} {h : List am_C} {o ci NN : Nat} {fs : List Value} {T : u_T} {C : String} (hK : am_K E s) (hH : am_H E h H) (ho : h[o]? = some (.inr (ci, fs))) (hci : am_cl[ci]? = some (C, T, NN)) : ∃ cell : Cell, H[E.2.1 + o]? = some cell ∧ cell.vm.isStatics = false ∧ s.vm.findClass C = some cell.cls :=
  va_recv (D := E.2.2.1) (cl := am_cl) (tys := []) (q := (C, T, NN)) (q0 := 0) ⟨hK.1, fun _ _ h => by simp at h⟩ (am_one hH ho) hci rfl
section AMH
variable {sc : am_S} {M : am_M} {d pc : Nat} {L : List (Option Value)} {st : List Value} {h : List am_C} {r : Option Value} {h' : List am_C}
theorem aw_get {idx ci o : Nat} {fs : List Value} {v : Value} (k : Nat) (hd : decode M.2.1 pc = .ok (.getfield idx, 3)) (hf : am_fl M.1.cls idx ci k) (ho : h[o]? = some (.inr (ci, fs))) (hv : fs[k]? = some v) (kk : AW sc M d (pc + 3) L (v :: st) h r h') : AW sc M d pc L (.ref (o + 1) :: st) h r h' := by
  refine ⟨kk.1, ?_⟩
  intro E mc ms p l e R s m args below meth c Z ok H locs cells slots ls hl hH hF hc hs
  obtain ⟨hx, hb, hml, hown, hin, hts, hK, hX, hR, hZ⟩ := id ok
  obtain ⟨C, T, N, f1, f2, f3, f4, f5⟩ := hf
  refine va_get (D := E.2.2.1) (cl := am_cl) (tys := []) (ci := ci) (C := C) (T := T) (N := N) (ref := C) (fs := fs.map (am_v E)) (v := am_v E v) hx hb hts f3 hown ⟨hK.1, fun _ _ h => by simp at h⟩ (am_one hH ho) 0 rfl f1 k f2 (hts _ f4) (fun x h => by rw [f5] at h; exact h) (by rw [List.getElem?_map, hv]; rfl) hd ?_
  exact kk.2 E mc ms p l e R s m args below meth c Z ok H locs cells slots ls hl hH hF hc hs
theorem aw_getN {idx ci o : Nat} {fs : List Value} {v : Value} (k : Nat) (hd : decode M.2.1 pc = .ok (.getfield idx, 3)) (hf : am_fn M.1.cls idx ci k) (ho : h[o]? = some (.inr (ci, fs))) (hv : fs[k]? = some v) (kk : AW sc M d (pc + 3) L (v :: st) h r h') : AW sc M d pc L (.ref (o + 1) :: st) h r h' := by
  refine ⟨kk.1, ?_⟩
  intro E mc ms p l e R s m args below meth c Z ok H locs cells slots ls hl hH hF hc hs
  obtain ⟨hx, hb, hml, hown, hin, hts, hK, hX, hR, hZ⟩ := id ok
  obtain ⟨C, T, N, host, f1, f2, f3, f4, f5⟩ := hf
  refine va_getN (D := E.2.2.1) (cl := am_cl) (tys := []) (ci := ci) (C := C) (T := T) (N := N) (ref := C) (host := host) (fs := fs.map (am_v E)) (v := am_v E v) hx hb hts f3 hown ⟨hK.1, fun _ _ h => by simp at h⟩ (am_one hH ho) 0 rfl f1 k f2 ((hK.2.2.2 _ f4).use rfl) (fun x h => by rw [f5] at h; exact h) (by rw [List.getElem?_map, hv]; rfl) hd ?_
  exact kk.2 E mc ms p l e R s m args below meth c Z ok H locs cells slots ls hl hH hF hc hs
theorem aw_put {idx ci o : Nat} {fs : List Value} {v : Value} (k : Nat) {ty0 : Nat → FieldType} (hd : decode M.2.1 pc = .ok (.putfield idx, 3)) (hf : am_fl M.1.cls idx ci k) (hT : am_tb ci ty0) (hfin : am_fin ci k false) (hn : narrow (ty0 k) v = v) (hfit : fits (ty0 k) v = true) (ho : h[o]? = some (.inr (ci, fs))) (kk : AW sc M d (pc + 3) L st (h.set o (.inr (ci, fs.set k v))) r h') : AW sc M d pc L (v :: .ref (o + 1) :: st) h r h' := by
  refine ⟨kk.1.put ho (by simp [am_s1]), ?_⟩
  intro E mc ms p l e R s m args below meth c Z ok H locs cells slots ls hl hH hF hc hs
  obtain ⟨hx, hb, hml, hown, hin, hts, hK, hX, hR, hZ⟩ := id ok
  obtain ⟨C, T, N, f1, f2, f3, f4, f5⟩ := hf
  obtain ⟨C1, T1, N1, g1, -, hty, hnm⟩ := hT
  cases f1.symm.trans g1
  obtain ⟨C2, T2, N2, g2, hfi⟩ := hfin
  cases f1.symm.trans g2
  obtain ⟨rr, q1, q2, cell, w1, w2, w3, w4⟩ := hH.2 o _ ho
  cases f1.symm.trans q1
  have hap := va_apart (own := M.1.cls) (D := E.2.2.1) (cl := am_cl) (tys := []) hts f3 ty0 hty hnm ⟨hK.1, fun _ _ h => by simp at h⟩ f1
  obtain ⟨hS, hfc, kC, hkC, hkind⟩ := hK.1 ci _ f1
  obtain ⟨cf, kf, fi, f, hi', hsl⟩ := hS k f2
  have hlay := hts _ (f3 _ (u_in_lay f2))
  unfold u_lay at hlay
  rw [if_neg (by rw [hfi]; decide)] at hlay
  have hst := (u_facts hfc hkC (u_lays hts f3 f2) hi').1
  have hi2 : s.fieldFound? C (T k).2.1 (T k).2.2.1 = some (cf, kf, fi, f) := by rw [f5] at hi'; exact hi'
  have hlen : k < fs.length := by
    have e0 : fs.length = N := q2
    omega
  have h6 := u_store hfc hkC hkind hlay hi' (hty k f2) (am_nar E _ _ hn) (am_fit E _ _ hfit)
  refine W.putK hx hb (f := f) ⟨hown, hts _ f4, ⟨_, _, _, hi2⟩, hst⟩ (by rw [w2]; exact h6) w1 w3 (by rw [hsl]; exact k2_hasslot (w4 k f2)) rfl rfl hd fun H' e1 e2 e3 => ?_
  rw [hsl] at e1
  have hat : am_at E (E.2.1 + o) (.inr (ci, fs.set k v)) H' := ⟨_, f1, by rw [List.length_set]; exact q2, t_OB.to (V := updV (vp_V (fs.map (am_v E))) k (am_v E v)) ⟨_, e1, w2, w3, t_set w4 hap f2 _⟩ (fun j _ => by rw [vp_updV_set (by rw [List.length_map]; exact hlen), List.map_set])⟩
  exact kk.2 E mc ms p l e R s m args below meth c Z ok H' _ cells slots ls hl (hH.put ho e2 hat e3) (hF.put e3 (Nat.le_add_right _ _)) (by rw [List.length_set]; exact hc) (by rw [am_sz_set _ _ _ _ ho (by simp [am_s1])]; exact hs)
theorem aw_putF {idx ci o : Nat} {fs : List Value} {v : Value} (k : Nat) {ty0 : Nat → FieldType} (hd : decode M.2.1 pc = .ok (.putfield idx, 3)) (hf : am_fl M.1.cls idx ci k) (hT : am_tb ci ty0) (hfin : am_fin ci k true) (hi : M.1.name = "<init>") (how : ∀ (C : String) (T : u_T) (N : Nat), am_cl[ci]? = some (C, T, N) → C = M.1.cls) (hn : narrow (ty0 k) v = v) (hfit : fits (ty0 k) v = true) (ho : h[o]? = some (.inr (ci, fs))) (kk : AW sc M d (pc + 3) L st (h.set o (.inr (ci, fs.set k v))) r h') : AW sc M d pc L (v :: .ref (o + 1) :: st) h r h' := by
  refine ⟨kk.1.put ho (by simp [am_s1]), ?_⟩
  intro E mc ms p l e R s m args below meth c Z ok H locs cells slots ls hl hH hF hc hs
  obtain ⟨hx, hb, hml, hown, hin, hts, hK, hX, hR, hZ⟩ := id ok
  obtain ⟨C, T, N, f1, f2, f3, f4, f5⟩ := hf
  obtain ⟨C1, T1, N1, g1, -, hty, hnm⟩ := hT
  cases f1.symm.trans g1
  obtain ⟨C2, T2, N2, g2, hfi⟩ := hfin
  cases f1.symm.trans g2
  obtain ⟨rr, q1, q2, cell, w1, w2, w3, w4⟩ := hH.2 o _ ho
  cases f1.symm.trans q1
  have hap := va_apart (own := M.1.cls) (D := E.2.2.1) (cl := am_cl) (tys := []) hts f3 ty0 hty hnm ⟨hK.1, fun _ _ h => by simp at h⟩ f1
  obtain ⟨hS, hfc, kC, hkC, hkind⟩ := hK.1 ci _ f1
  obtain ⟨cf, kf, fi, f, hi', hsl⟩ := hS k f2
  have hlay := hts _ (f3 _ (u_in_lay f2))
  unfold u_lay at hlay
  rw [if_pos hfi] at hlay
  have hst := (u_facts hfc hkC (u_lays hts f3 f2) hi').1
  have hi2 : s.fieldFound? C (T k).2.1 (T k).2.2.1 = some (cf, kf, fi, f) := by rw [f5] at hi'; exact hi'
  have hlen : k < fs.length := by
    have e0 : fs.length = N := q2
    omega
  have hcf : m.cls = cf := by
    obtain ⟨_, _, c', _, _, _, -, -, hf', -, -, -, hown2, -⟩ := Cond.laysFinal_spec hlay
    have e1 : c' = cf := by have := hi'.symm.trans hf'; simp at this; exact this.1.symm
    rw [f5, how C T N f1] at hown2
    rw [← e1]; exact Option.some.inj (hown.symm.trans hown2)
  have h6 := u_fits hfc hkC hkind (Or.inr hlay) hi' (hty k f2) (am_nar E _ _ hn) (am_fit E _ _ hfit)
  refine W.putFinK hx hb hown (hts _ f4) hi2 hst hcf (hin.trans hi) (by rw [w2]; exact h6) w1 w3 (by rw [hsl]; exact k2_hasslot (w4 k f2)) rfl rfl hd fun H' e1 e2 e3 => ?_
  rw [hsl] at e1
  have hat : am_at E (E.2.1 + o) (.inr (ci, fs.set k v)) H' := ⟨_, f1, by rw [List.length_set]; exact q2, t_OB.to (V := updV (vp_V (fs.map (am_v E))) k (am_v E v)) ⟨_, e1, w2, w3, t_set w4 hap f2 _⟩ (fun j _ => by rw [vp_updV_set (by rw [List.length_map]; exact hlen), List.map_set])⟩
  exact kk.2 E mc ms p l e R s m args below meth c Z ok H' _ cells slots ls hl (hH.put ho e2 hat e3) (hF.put e3 (Nat.le_add_right _ _)) (by rw [List.length_set]; exact hc) (by rw [am_sz_set _ _ _ _ ho (by simp [am_s1])]; exact hs)
theorem aw_putN {idx ci o : Nat} {fs : List Value} {v : Value} (k : Nat) {ty0 : Nat → FieldType} (hd : decode M.2.1 pc = .ok (.putfield idx, 3)) (hf : am_fn M.1.cls idx ci k) (hT : am_tb ci ty0) (hfin : am_fin ci k false) (hn : narrow (ty0 k) v = v) (hfit : fits (ty0 k) v = true) (ho : h[o]? = some (.inr (ci, fs))) (kk : AW sc M d (pc + 3) L st (h.set o (.inr (ci, fs.set k v))) r h') : AW sc M d pc L (v :: .ref (o + 1) :: st) h r h' := by
  refine ⟨kk.1.put ho (by simp [am_s1]), ?_⟩
  intro E mc ms p l e R s m args below meth c Z ok H locs cells slots ls hl hH hF hc hs
  obtain ⟨hx, hb, hml, hown, hin, hts, hK, hX, hR, hZ⟩ := id ok
  obtain ⟨C, T, N, host, f1, f2, f3, f4, f5⟩ := hf
  obtain ⟨C1, T1, N1, g1, -, hty, hnm⟩ := hT
  cases f1.symm.trans g1
  obtain ⟨C2, T2, N2, g2, hfi⟩ := hfin
  cases f1.symm.trans g2
  obtain ⟨rr, q1, q2, cell, w1, w2, w3, w4⟩ := hH.2 o _ ho
  cases f1.symm.trans q1
  have hap := va_apart (own := M.1.cls) (D := E.2.2.1) (cl := am_cl) (tys := []) hts f3 ty0 hty hnm ⟨hK.1, fun _ _ h => by simp at h⟩ f1
  obtain ⟨hS, hfc, kC, hkC, hkind⟩ := hK.1 ci _ f1
  obtain ⟨cf, kf, fi, f, hi', hsl⟩ := hS k f2
  have hlay := hts _ (f3 _ (u_in_lay f2))
  unfold u_lay at hlay
  rw [if_neg (by rw [hfi]; decide)] at hlay
  have hst := (u_facts hfc hkC (u_lays hts f3 f2) hi').1
  have hi2 : s.fieldFound? C (T k).2.1 (T k).2.2.1 = some (cf, kf, fi, f) := by rw [f5] at hi'; exact hi'
  have hlen : k < fs.length := by
    have e0 : fs.length = N := q2
    omega
  have h6 := u_store hfc hkC hkind hlay hi' (hty k f2) (am_nar E _ _ hn) (am_fit E _ _ hfit)
  refine va_WputK hx hb (f := f) (host := host) hown ((hK.2.2.2 _ f4).use rfl) hi2 hst (by rw [w2]; exact h6) w1 w3 (by rw [hsl]; exact k2_hasslot (w4 k f2)) rfl rfl hd fun H' e1 e2 e3 => ?_
  rw [hsl] at e1
  have hat : am_at E (E.2.1 + o) (.inr (ci, fs.set k v)) H' := ⟨_, f1, by rw [List.length_set]; exact q2, t_OB.to (V := updV (vp_V (fs.map (am_v E))) k (am_v E v)) ⟨_, e1, w2, w3, t_set w4 hap f2 _⟩ (fun j _ => by rw [vp_updV_set (by rw [List.length_map]; exact hlen), List.map_set])⟩
  exact kk.2 E mc ms p l e R s m args below meth c Z ok H' _ cells slots ls hl (hH.put ho e2 hat e3) (hF.put e3 (Nat.le_add_right _ _)) (by rw [List.length_set]; exact hc) (by rw [am_sz_set _ _ _ _ ho (by simp [am_s1])]; exact hs)
theorem aw_iald {o n t : Nat} {f : Nat → Int32} {i : Int32} (hd : decode M.2.1 pc = .ok (.iaload, 1)) (ht : am_ty[t]? = some .int) (ho : h[o]? = some (.inl (t, n, .inl f))) (hi : vp_in i n) (kk : AW sc M d (pc + 1) L (.int (f i.toNatClampNeg) :: st) h r h') : AW sc M d pc L (.int i :: .ref (o + 1) :: st) h r h' := by
  refine ⟨kk.1, ?_⟩
  intro E mc ms p l e R s m args below meth c Z ok H locs cells slots ls hl hH hF hc hs
  obtain ⟨hx, hb, hml, hown, hin, hts, hK, hX, hR, hZ⟩ := id ok
  refine va_iald (D := E.2.2.1) (cl := am_cl) (tys := [(E.2.2.2 t, .int)]) hx hb ⟨hK.1, fun k q hk => ?_⟩ (am_oneA hH ho) 0 0 rfl rfl hi hd ?_
  · match k, hk with
    | 0, hk => cases hk; exact ⟨am_KA hK ht, (hK.2.1 t _ ht).2⟩
    | k + 1, hk => simp at hk
  · exact kk.2 E mc ms p l e R s m args below meth c Z ok H locs cells slots ls hl hH hF hc hs
theorem aw_zald {o n t : Nat} {f : Nat → Int32} {i : Int32} (hd : decode M.2.1 pc = .ok (.baload, 1)) (ht : am_ty[t]? = some .boolean) (ho : h[o]? = some (.inl (t, n, .inl f))) (hi : vp_in i n) (kk : AW sc M d (pc + 1) L (.int (f i.toNatClampNeg) :: st) h r h') : AW sc M d pc L (.int i :: .ref (o + 1) :: st) h r h' := by
  refine ⟨kk.1, ?_⟩
  intro E mc ms p l e R s m args below meth c Z ok H locs cells slots ls hl hH hF hc hs
  obtain ⟨hx, hb, hml, hown, hin, hts, hK, hX, hR, hZ⟩ := id ok
  refine va_zald (D := E.2.2.1) (cl := am_cl) (tys := [(E.2.2.2 t, .boolean)]) hx hb ⟨hK.1, fun k q hk => ?_⟩ (am_oneA hH ho) 0 0 rfl rfl hi hd ?_
  · match k, hk with
    | 0, hk => cases hk; exact ⟨am_KA hK ht, (hK.2.1 t _ ht).2⟩
    | k + 1, hk => simp at hk
  · exact kk.2 E mc ms p l e R s m args below meth c Z ok H locs cells slots ls hl hH hF hc hs
theorem aw_lald {o n t : Nat} {f : Nat → Int64} {i : Int32} (hd : decode M.2.1 pc = .ok (.laload, 1)) (ht : am_ty[t]? = some .long) (ho : h[o]? = some (.inl (t, n, .inr (.inl f)))) (hi : vp_in i n) (kk : AW sc M d (pc + 1) L (.long (f i.toNatClampNeg) :: st) h r h') : AW sc M d pc L (.int i :: .ref (o + 1) :: st) h r h' := by
  refine ⟨kk.1, ?_⟩
  intro E mc ms p l e R s m args below meth c Z ok H locs cells slots ls hl hH hF hc hs
  obtain ⟨hx, hb, hml, hown, hin, hts, hK, hX, hR, hZ⟩ := id ok
  refine va_lald (D := E.2.2.1) (cl := am_cl) (tys := [(E.2.2.2 t, .long)]) hx hb ⟨hK.1, fun k q hk => ?_⟩ (am_oneA hH ho) 0 0 rfl rfl hi hd ?_
  · match k, hk with
    | 0, hk => cases hk; exact ⟨am_KA hK ht, (hK.2.1 t _ ht).2⟩
    | k + 1, hk => simp at hk
  · exact kk.2 E mc ms p l e R s m args below meth c Z ok H locs cells slots ls hl hH hF hc hs
theorem aw_aald {o n t : Nat} {f : Nat → Option Nat} {i : Int32} {ty : FieldType} (hd : decode M.2.1 pc = .ok (.aaload, 1)) (ht : am_ty[t]? = some ty) (href : ty.isReference = true) (ho : h[o]? = some (.inl (t, n, .inr (.inr (.inr (.inr f)))))) (hi : vp_in i n) (kk : AW sc M d (pc + 1) L (va_rf (f i.toNatClampNeg) :: st) h r h') : AW sc M d pc L (.int i :: .ref (o + 1) :: st) h r h' := by
  refine ⟨kk.1, ?_⟩
  intro E mc ms p l e R s m args below meth c Z ok H locs cells slots ls hl hH hF hc hs
  obtain ⟨hx, hb, hml, hown, hin, hts, hK, hX, hR, hZ⟩ := id ok
  have hcell : H[E.2.1 + o]? = some (vp_cell (E.2.2.2 t) (n, .inr (.inr (.inr (.inr (fun j => (f j).map (am_a E))))))) := hH.2 o _ ho
  have hlt : i.toNatClampNeg < n := Nat.not_le.mp fun q => hi (Or.inr q)
  refine W.aald (v := am_v E (va_rf (f i.toNatClampNeg))) (ty := ty) hx hb hcell (am_KA hK ht n _) href (fun q => by cases q) (by show ¬ (i < 0 ∨ (arrV _ _ _).slots.size ≤ _); rw [arrV_size]; exact hi) (by show (arrV _ _ _).slots[_]? = _; rw [arrV_read _ _ hlt, am_v_rf]) rfl rfl hd ?_
  exact kk.2 E mc ms p l e R s m args below meth c Z ok H locs cells slots ls hl hH hF hc hs
theorem aw_iast {o n t : Nat} {f : Nat → Int32} {i : Int32} {x : Int32} (hd : decode M.2.1 pc = .ok (.iastore, 1)) (ht : am_ty[t]? = some .int) (ho : h[o]? = some (.inl (t, n, .inl f))) (hi : vp_in i n) (kk : AW sc M d (pc + 1) L st (h.set o (.inl (t, n, .inl (upd f i.toNatClampNeg x)))) r h') : AW sc M d pc L (.int x :: .int i :: .ref (o + 1) :: st) h r h' := by
  refine ⟨am_le.put (c := .inl (t, n, .inl (upd f i.toNatClampNeg x))) ho rfl kk.1, ?_⟩
  intro E mc ms p l e R s m args below meth c Z ok H locs cells slots ls hl hH hF hc hs
  obtain ⟨hx, hb, hml, hown, hin, hts, hK, hX, hR, hZ⟩ := id ok
  have hcell : H[E.2.1 + o]? = some (vp_cell (E.2.2.2 t) (n, .inl f)) := hH.2 o _ ho
  refine W.iast hx hb hcell (am_KA hK ht n _) (fun q => by cases q) (by show ¬ (i < 0 ∨ (arrV _ _ _).slots.size ≤ _); rw [arrV_size]; exact hi) rfl rfl hd fun H1 e1 e2 e3 => ?_
  have hat : am_at E (E.2.1 + o) (.inl (t, n, .inl (upd f i.toNatClampNeg x))) H1 := by
    show H1[E.2.1 + o]? = some (vp_cell (E.2.2.2 t) (n, .inl (upd f i.toNatClampNeg x)))
    rw [e1, vp_cell_i, vp_cell_i, arrV_store]
    congr 2
    funext q
    by_cases hq : q = i.toNatClampNeg
    · subst hq
      simp [updV, upd]
    · simp [updV, upd, hq]
  exact kk.2 E mc ms p l e R s m args below meth c Z ok H1 _ cells slots ls hl (hH.put ho e2 hat e3) (hF.put e3 (Nat.le_add_right _ _)) (by rw [List.length_set]; exact hc) (by rw [am_sz_set _ _ (.inl (t, n, .inl (upd f i.toNatClampNeg x))) _ ho rfl]; exact hs)
theorem aw_last {o n t : Nat} {f : Nat → Int64} {i : Int32} {x : Int64} (hd : decode M.2.1 pc = .ok (.lastore, 1)) (ht : am_ty[t]? = some .long) (ho : h[o]? = some (.inl (t, n, .inr (.inl f)))) (hi : vp_in i n) (kk : AW sc M d (pc + 1) L st (h.set o (.inl (t, n, .inr (.inl (vp_updL f i.toNatClampNeg x))))) r h') : AW sc M d pc L (.long x :: .int i :: .ref (o + 1) :: st) h r h' := by
  refine ⟨am_le.put (c := .inl (t, n, .inr (.inl (vp_updL f i.toNatClampNeg x)))) ho rfl kk.1, ?_⟩
  intro E mc ms p l e R s m args below meth c Z ok H locs cells slots ls hl hH hF hc hs
  obtain ⟨hx, hb, hml, hown, hin, hts, hK, hX, hR, hZ⟩ := id ok
  have hcell : H[E.2.1 + o]? = some (vp_cell (E.2.2.2 t) (n, .inr (.inl f))) := hH.2 o _ ho
  refine W.last hx hb hcell (am_KA hK ht n _) (fun q => by cases q) (by show ¬ (i < 0 ∨ (arrV _ _ _).slots.size ≤ _); rw [arrV_size]; exact hi) rfl rfl hd fun H1 e1 e2 e3 => ?_
  have hat : am_at E (E.2.1 + o) (.inl (t, n, .inr (.inl (vp_updL f i.toNatClampNeg x)))) H1 := by
    show H1[E.2.1 + o]? = some (vp_cell (E.2.2.2 t) (n, .inr (.inl (vp_updL f i.toNatClampNeg x))))
    rw [e1, vp_cell_l, vp_cell_l, arrV_store]
    congr 2
    funext q
    by_cases hq : q = i.toNatClampNeg
    · subst hq
      simp [updV, vp_updL]
    · simp [updV, vp_updL, hq]
  exact kk.2 E mc ms p l e R s m args below meth c Z ok H1 _ cells slots ls hl (hH.put ho e2 hat e3) (hF.put e3 (Nat.le_add_right _ _)) (by rw [List.length_set]; exact hc) (by rw [am_sz_set _ _ (.inl (t, n, .inr (.inl (vp_updL f i.toNatClampNeg x)))) _ ho rfl]; exact hs)
theorem aw_zast {o n t : Nat} {f : Nat → Int32} {i : Int32} {x : Int32} (hd : decode M.2.1 pc = .ok (.bastore, 1)) (ht : am_ty[t]? = some .boolean) (ho : h[o]? = some (.inl (t, n, .inl f))) (hi : vp_in i n) (hnx : narrow .boolean (.int x) = .int x) (kk : AW sc M d (pc + 1) L st (h.set o (.inl (t, n, .inl (upd f i.toNatClampNeg x)))) r h') : AW sc M d pc L (.int x :: .int i :: .ref (o + 1) :: st) h r h' := by
  refine ⟨am_le.put (c := .inl (t, n, .inl (upd f i.toNatClampNeg x))) ho rfl kk.1, ?_⟩
  intro E mc ms p l e R s m args below meth c Z ok H locs cells slots ls hl hH hF hc hs
  obtain ⟨hx, hb, hml, hown, hin, hts, hK, hX, hR, hZ⟩ := id ok
  have hcell : H[E.2.1 + o]? = some (vp_cell (E.2.2.2 t) (n, .inl f)) := hH.2 o _ ho
  refine W.zast hx hb hcell (am_KA hK ht n _) (fun q => by cases q) (by show ¬ (i < 0 ∨ (arrV _ _ _).slots.size ≤ _); rw [arrV_size]; exact hi) rfl rfl hd fun H1 e1 e2 e3 => ?_
  rw [hnx] at e1
  have hat : am_at E (E.2.1 + o) (.inl (t, n, .inl (upd f i.toNatClampNeg x))) H1 := by
    show H1[E.2.1 + o]? = some (vp_cell (E.2.2.2 t) (n, .inl (upd f i.toNatClampNeg x)))
    rw [e1, vp_cell_i, vp_cell_i, arrV_store]
    congr 2
    funext q
    by_cases hq : q = i.toNatClampNeg
    · subst hq
      simp [updV, upd]
    · simp [updV, upd, hq]
  exact kk.2 E mc ms p l e R s m args below meth c Z ok H1 _ cells slots ls hl (hH.put ho e2 hat e3) (hF.put e3 (Nat.le_add_right _ _)) (by rw [List.length_set]; exact hc) (by rw [am_sz_set _ _ (.inl (t, n, .inl (upd f i.toNatClampNeg x))) _ ho rfl]; exact hs)
theorem aw_alen {o t : Nat} {x : vp_A} {ty : FieldType} (v : Int32) (hd : decode M.2.1 pc = .ok (.arraylength, 1)) (ht : am_ty[t]? = some ty) (ho : h[o]? = some (.inl (t, x))) (hv : Int32.ofNat x.1 = v) (kk : AW sc M d (pc + 1) L (.int v :: st) h r h') : AW sc M d pc L (.ref (o + 1) :: st) h r h' := by
  refine ⟨kk.1, ?_⟩
  intro E mc ms p l e R s m args below meth c Z ok H locs cells slots ls hl hH hF hc hs
  obtain ⟨hx, hb, hml, hown, hin, hts, hK, hX, hR, hZ⟩ := id ok
  have hcell : H[E.2.1 + o]? = some (vp_cell (E.2.2.2 t) (am_g E x)) := hH.2 o _ ho
  have hcv : ∃ z : Nat → Value, vp_cell (E.2.2.2 t) (am_g E x) = arrV (E.2.2.2 t) x.1 z := by
    obtain ⟨n, y⟩ := x
    rcases y with f | f | f | f | f <;> first | exact ⟨_, vp_cell_i _ _ _⟩ | exact ⟨_, vp_cell_l _ _ _⟩ | exact ⟨_, vp_cell_f _ _ _⟩ | exact ⟨_, vp_cell_d _ _ _⟩ | exact ⟨_, vp_cell_q _ _ _⟩
  obtain ⟨z, hz⟩ := hcv
  rw [hz] at hcell
  refine W.alen (n := v) hx hb hcell (am_KA hK ht x.1 z) (by rw [arrV_size]; exact hv) rfl rfl hd ?_
  exact kk.2 E mc ms p l e R s m args below meth c Z ok H locs cells slots ls hl hH hF hc hs
theorem aw_sld {i : Int32} (hd : decode M.2.1 pc = .ok (.iaload, 1)) (hi : vp_in i sc.1) (kk : AW sc M d (pc + 1) L (.int (sc.2 i.toNatClampNeg) :: st) h r h') : AW sc M d pc L (.int i :: .ref 0 :: st) h r h' := by
  refine ⟨kk.1, ?_⟩
  intro E mc ms p l e R s m args below meth c Z ok H locs cells slots ls hl hH hF hc hs
  obtain ⟨hx, hb, hml, hown, hin, hts, hK, hX, hR, hZ⟩ := id ok
  obtain ⟨scr, k1, k2, k3, k4, k5⟩ := hX.1.kept (hF.1 _ hX.2.1)
  have hlt : i.toNatClampNeg < sc.1 := Nat.not_le.mp fun q => hi (Or.inr q)
  exact W.iald (v := .int (sc.2 i.toNatClampNeg)) hx hb k1 k2 k3 (by rw [k4]; exact hi) (k5 _ hlt) rfl rfl hd (kk.2 E mc ms p l e R s m args below meth c Z ok H locs cells slots ls hl hH hF hc hs)
theorem aw_slen (hd : decode M.2.1 pc = .ok (.arraylength, 1)) (kk : AW sc M d (pc + 1) L (.int (Int32.ofNat sc.1) :: st) h r h') : AW sc M d pc L (.ref 0 :: st) h r h' := by
  refine ⟨kk.1, ?_⟩
  intro E mc ms p l e R s m args below meth c Z ok H locs cells slots ls hl hH hF hc hs
  obtain ⟨hx, hb, hml, hown, hin, hts, hK, hX, hR, hZ⟩ := id ok
  obtain ⟨scr, k1, k2, k3, k4, k5⟩ := hX.1.kept (hF.1 _ hX.2.1)
  exact W.alen (n := Int32.ofNat sc.1) hx hb k1 k2 (by rw [k4]) rfl rfl hd (kk.2 E mc ms p l e R s m args below meth c Z ok H locs cells slots ls hl hH hF hc hs)
def am_fc (own : String) (idx ci : Nat) (fs : List Value) : Prop := ∃ (C : String) (T : u_T) (N : Nat) (ty0 : Nat → FieldType), am_cl[ci]? = some (C, T, N) ∧ (∀ w ∈ u_ws C T N, w ∈ am_T) ∧ (∀ k, k < N → parseFieldDescriptor (T k).2.2.1 = some (ty0 k)) ∧ Cond.classLink own idx C ∈ am_T ∧ Cond.instantiable C N ∈ am_T ∧ Cond.initialized C ∈ am_T ∧ fs = (List.range N).map (fun j => defaultValue (ty0 j))
theorem am_defs (E : am_E) (N : Nat) (ty0 : Nat → FieldType) : ((List.range N).map (fun j => defaultValue (ty0 j))).map (am_v E) = (List.range N).map (fun j => defaultValue (ty0 j)) := by
  rw [List.map_map]
  exact List.map_congr_left (fun j _ => am_v_def E (ty0 j))
theorem aw_new {idx ci : Nat} {fs : List Value} (n : Nat) (hd : decode M.2.1 pc = .ok (.new idx, 3)) (hf : am_fc M.1.cls idx ci fs) (hlen : h.length = n) (kk : AW sc M d (pc + 3) L (.ref (n + 1) :: st) (h ++ [.inr (ci, fs)]) r h') : AW sc M d pc L st h r h' := by
  subst hlen
  obtain ⟨h1, h2⟩ := kk.1.push
  simp only [am_s1] at h2
  refine ⟨kk.1.pop, ?_⟩
  intro E mc ms p l e R s m args below meth c Z ok H locs cells slots ls hl hH hF hc hs
  obtain ⟨hx, hb, hml, hown, hin, hts, hK, hX, hR, hZ⟩ := id ok
  obtain ⟨C, T, N, ty0, f1, f3, hty, f4, f5, f6, f7⟩ := hf
  have hfl : fs.length = N := by rw [f7, List.length_map, List.length_range]
  have hKn := hK.1 ci _ f1
  refine W.newcK hx hb hown (hts _ f4) (hts _ f5) (hts _ f6) rfl hd (by omega) (by omega) hKn.2.1 hH.1 fun H1 kC hkC e1 z1 o1 => ?_
  have z2 : H1.size = H.size + 1 := by rw [z1, hH.1]
  have hat : am_at E H.size (.inr (ci, fs)) H1 := by
    refine ⟨_, f1, hfl, ?_⟩
    rw [hH.1]
    refine (u_born ty0 hts f3 hKn hkC e1 hty).to (fun j hj => ?_)
    rw [f7, am_defs]
    simp [vp_V, hj]
  exact kk.2 E mc ms p l e R s m args below meth c Z ok H1 locs (cells + 1) (slots + N) ls hl (hH.push z2 hat (fun q hq => o1 q (by rw [← hH.1]; exact hq))) (hF.push (fun q hq => o1 q (by rw [← hH.1]; exact hq)) (by rw [hH.1]; omega)) (by rw [List.length_append]; simp; omega) (by rw [am_sz_app]; simp only [am_s1]; omega)
theorem aw_newi {t N : Nat} {i : Int32} (n : Nat) (hd : decode M.2.1 pc = .ok (.newarray .int, 2)) (hw : Cond.arrayClass .int ∈ am_T) (ht : am_ty[t]? = some .int) (hi : ¬ i < 0) (hN : i.toNatClampNeg = N) (hb0 : N * 8 ≤ 536870912) (hlen : h.length = n) (kk : AW sc M d (pc + 2) L (.ref (n + 1) :: st) (h ++ [.inl (t, N, .inl (fun _ => 0))]) r h') : AW sc M d pc L (.int i :: st) h r h' := by
  subst hlen
  obtain ⟨h1, h2⟩ := kk.1.push
  simp only [am_s1] at h2
  refine ⟨kk.1.pop, ?_⟩
  intro E mc ms p l e R s m args below meth c Z ok H locs cells slots ls hl hH hF hc hs
  obtain ⟨hx, hb, hml, hown, hin, hts, hK, hX, hR, hZ⟩ := id ok
  refine va_newaK (atype := .int) hx hb (hts _ hw) rfl hd rfl hi hN (by show N * _ ≤ _; exact Nat.le_trans (Nat.mul_le_mul_left N (by decide)) hb0) (by omega) (by omega) hH.1 fun H1 cA e1 z1 o1 hAr hfc => ?_
  have z2 : H1.size = H.size + 1 := by rw [z1, hH.1]
  have hcA : cA = E.2.2.2 t := Option.some.inj (hfc.symm.trans (hK.2.1 t _ ht).2)
  subst hcA
  have hat : am_at E H.size (.inl (t, N, .inl (fun _ => 0))) H1 := by
    show H1[H.size]? = some (vp_cell (E.2.2.2 t) (N, .inl (fun _ => 0)))
    rw [hH.1]
    exact e1
  exact kk.2 E mc ms p l e R s m args below meth c Z ok H1 locs (cells + 1) (slots + N) ls hl (hH.push z2 hat (fun q hq => o1 q (by rw [← hH.1]; exact hq))) (hF.push (fun q hq => o1 q (by rw [← hH.1]; exact hq)) (by rw [hH.1]; omega)) (by rw [List.length_append]; simp; omega) (by rw [am_sz_app]; simp only [am_s1]; omega)
theorem aw_newl {t N : Nat} {i : Int32} (n : Nat) (hd : decode M.2.1 pc = .ok (.newarray .long, 2)) (hw : Cond.arrayClass .long ∈ am_T) (ht : am_ty[t]? = some .long) (hi : ¬ i < 0) (hN : i.toNatClampNeg = N) (hb0 : N * 8 ≤ 536870912) (hlen : h.length = n) (kk : AW sc M d (pc + 2) L (.ref (n + 1) :: st) (h ++ [.inl (t, N, .inr (.inl (fun _ => 0)))]) r h') : AW sc M d pc L (.int i :: st) h r h' := by
  subst hlen
  obtain ⟨h1, h2⟩ := kk.1.push
  simp only [am_s1] at h2
  refine ⟨kk.1.pop, ?_⟩
  intro E mc ms p l e R s m args below meth c Z ok H locs cells slots ls hl hH hF hc hs
  obtain ⟨hx, hb, hml, hown, hin, hts, hK, hX, hR, hZ⟩ := id ok
  refine va_newaK (atype := .long) hx hb (hts _ hw) rfl hd rfl hi hN (by show N * _ ≤ _; exact Nat.le_trans (Nat.mul_le_mul_left N (by decide)) hb0) (by omega) (by omega) hH.1 fun H1 cA e1 z1 o1 hAr hfc => ?_
  have z2 : H1.size = H.size + 1 := by rw [z1, hH.1]
  have hcA : cA = E.2.2.2 t := Option.some.inj (hfc.symm.trans (hK.2.1 t _ ht).2)
  subst hcA
  have hat : am_at E H.size (.inl (t, N, .inr (.inl (fun _ => 0)))) H1 := by
    show H1[H.size]? = some (vp_cell (E.2.2.2 t) (N, .inr (.inl (fun _ => 0))))
    rw [hH.1]
    exact e1
  exact kk.2 E mc ms p l e R s m args below meth c Z ok H1 locs (cells + 1) (slots + N) ls hl (hH.push z2 hat (fun q hq => o1 q (by rw [← hH.1]; exact hq))) (hF.push (fun q hq => o1 q (by rw [← hH.1]; exact hq)) (by rw [hH.1]; omega)) (by rw [List.length_append]; simp; omega) (by rw [am_sz_app]; simp only [am_s1]; omega)
theorem aw_newz {t N : Nat} {i : Int32} (n : Nat) (hd : decode M.2.1 pc = .ok (.newarray .boolean, 2)) (hw : Cond.arrayClass .boolean ∈ am_T) (ht : am_ty[t]? = some .boolean) (hi : ¬ i < 0) (hN : i.toNatClampNeg = N) (hb0 : N * 8 ≤ 536870912) (hlen : h.length = n) (kk : AW sc M d (pc + 2) L (.ref (n + 1) :: st) (h ++ [.inl (t, N, .inl (fun _ => 0))]) r h') : AW sc M d pc L (.int i :: st) h r h' := by
  subst hlen
  obtain ⟨h1, h2⟩ := kk.1.push
  simp only [am_s1] at h2
  refine ⟨kk.1.pop, ?_⟩
  intro E mc ms p l e R s m args below meth c Z ok H locs cells slots ls hl hH hF hc hs
  obtain ⟨hx, hb, hml, hown, hin, hts, hK, hX, hR, hZ⟩ := id ok
  refine va_newaK (atype := .boolean) hx hb (hts _ hw) rfl hd rfl hi hN (by show N * _ ≤ _; exact Nat.le_trans (Nat.mul_le_mul_left N (by decide)) hb0) (by omega) (by omega) hH.1 fun H1 cA e1 z1 o1 hAr hfc => ?_
  have z2 : H1.size = H.size + 1 := by rw [z1, hH.1]
  have hcA : cA = E.2.2.2 t := Option.some.inj (hfc.symm.trans (hK.2.1 t _ ht).2)
  subst hcA
  have hat : am_at E H.size (.inl (t, N, .inl (fun _ => 0))) H1 := by
    show H1[H.size]? = some (vp_cell (E.2.2.2 t) (N, .inl (fun _ => 0)))
    rw [hH.1]
    exact e1
  exact kk.2 E mc ms p l e R s m args below meth c Z ok H1 locs (cells + 1) (slots + N) ls hl (hH.push z2 hat (fun q hq => o1 q (by rw [← hH.1]; exact hq))) (hF.push (fun q hq => o1 q (by rw [← hH.1]; exact hq)) (by rw [hH.1]; omega)) (by rw [List.length_append]; simp; omega) (by rw [am_sz_app]; simp only [am_s1]; omega)
theorem aw_obj {idx : Nat} {o : Nat} (hd : decode M.2.1 pc = .ok (.invokespecial idx, 3)) (hw : Cond.methodLink M.1.cls idx objectInit ∈ am_T) (hw2 : Cond.instanceMethod objectInit ∈ am_T) (hw3 : Cond.code objectInit ⟨#[0xb1]⟩ 1 none ∈ am_T) (hd1 : 1 ≤ d) (hst : (st.map fun v => v.category).sum ≤ 8) (kk : AW sc M d (pc + 3) L st h r h') : AW sc M d pc L (.ref o :: st) h r h' := by
  refine ⟨kk.1, ?_⟩
  intro E mc ms p l e R s m args below meth c Z ok H locs cells slots ls hl hH hF hc hs
  obtain ⟨hx, hb, hml, hown, hin, hts, hK, hX, hR, hZ⟩ := id ok
  have hk : am_k ≤ am_k * d := Nat.le_mul_of_pos_right am_k hd1
  have hk0 : 20 ≤ am_k := by decide
  refine W.objInit hx hb hown (hts _ hw) (hts _ hw2) (hts _ hw3) rfl (by rw [hml]; exact hl.2.1) rfl hd (by omega) ?_ ?_
  · have h8 := lv_room (m := m) (pc := pc) (ls := ls) (rest := (Value.ref o :: st).map (am_v E)) (st := st.map (am_v E)) (by rw [am_cats]; exact hst)
    exact Nat.le_trans (Nat.add_le_add_right h8 12) (by omega)
  · exact kk.2 E mc ms p l e R s m args below meth c Z ok H locs cells slots ls hl hH hF hc hs
end AMH
/-! calls: what a call site rests on -/
def am_cB (own : String) (idx : Nat) (M1 : am_M) (n : Nat) : Prop := Cond.code M1.1 M1.2.1 M1.2.2.1 M1.2.2.2 ∈ am_T ∧ Cond.initialized M1.1.cls ∈ am_T ∧ (M1.1.cls ≠ "java/lang/invoke/MethodHandle" ∧ M1.1.cls ≠ "java/lang/invoke/VarHandle" ∧ (parseMethodDescriptor M1.1.desc).map (fun d => d.parameters.length) = some n) ∧ 8 + (M1.2.2.1 + 11) ≤ am_k
def am_cL (own : String) (idx : Nat) (M1 : am_M) : Prop := Cond.methodLink own idx M1.1 ∈ am_T
def am_cN (own : String) (idx : Nat) (M1 : am_M) : Prop := ∃ host : String, (own, idx, M1.1, host) ∈ am_nm
theorem am_goods (M1 : am_M) (hc : Cond.code M1.1 M1.2.1 M1.2.2.1 M1.2.2.2 ∈ am_T) : GoodIn am_T (am_ws M1) := by
  intro w hw
  rcases List.mem_cons.mp hw with rfl | hw
  · exact ⟨hc, am_good _ hc⟩
  · exact ⟨hw, am_good _ hw⟩
theorem am_len {M1 : am_M} {n : Nat} (h : (parseMethodDescriptor M1.1.desc).map (fun d => d.parameters.length) = some n) : ∀ sig, parseMethodDescriptor M1.1.desc = some sig → n = sig.parameters.length := by
  intro sig hs
  rw [hs] at h
  exact (Option.some.inj h).symm
theorem am_room {R : Room} {d d1 mL : Nat} (hd : d1 + 1 ≤ d) (h1 : d ≤ R.frames) (h2 : am_k * d ≤ R.locals) (hk : 8 + (mL + 11) ≤ am_k) : d1 + 1 ≤ R.frames ∧ 8 + (mL + 11) + am_k * d1 ≤ R.locals := by
  have h3 := Nat.mul_le_mul_left am_k hd
  rw [Nat.mul_succ] at h3
  omega
section AMCALL
variable {sc : am_S} {M M1 : am_M} {d d1 pc n : Nat} {L : List (Option Value)} {st As : List Value} {h h1 : List am_C} {r r1 : Option Value} {h' : List am_C}
theorem aw_callV {o ci : Nat} {fs : List Value} {T : u_T} {NN : Nat} {idx : Nat} {st0 : List Value} (hd : decode M.2.1 pc = .ok (.invokevirtual idx, 3)) (hB : am_cB M.1.cls idx M1 n) (hlk : am_cL M.1.cls idx M1) (hv : Cond.instanceMethod M1.1 ∈ am_T ∧ Cond.selects M1.1.cls M1.1 M1.1 ∈ am_T) (hci : am_cl[ci]? = some (M1.1.cls, T, NN)) (ho : h[o]? = some (.inr (ci, fs))) (hd1 : d1 + 1 ≤ d) (hA : As.length = n) (hst : st0 = As.reverse ++ .ref (o + 1) :: st) (hcat : (st.map fun v => v.category).sum ≤ 8) (hM : AM sc M1 d1 (.ref (o + 1) :: As) h r1 h1) (kk : AW sc M d (pc + 3) L (r1.toList ++ st) h1 r h') : AW sc M d pc L st0 h r h' := by
  obtain ⟨hh1, hh2⟩ := kk.1
  refine ⟨hM.1.tr kk.1, ?_⟩
  intro E mc ms p l e R s m args below meth c Z ok H locs cells slots ls hl hH hF hc hs
  obtain ⟨hx, hb, hml, hown, hin, hts, hK, hX, hR, hZ⟩ := id ok
  obtain ⟨c1, c2, c3, c4⟩ := hB
  obtain ⟨⟨g1, g2⟩, hMet⟩ := hM
  have hroom := am_room hd1 hR.1 hR.2.1 c4
  have hrl : ((st.map (am_v E)).map fun v => v.category).sum ≤ 8 := by rw [am_cats]; exact hcat
  refine am_go (sc := sc) (E := E) (r1 := r1) (h1 := h1) (va_runV (As := As.map (am_v E)) (rest := st.map (am_v E)) (bytes := M1.2.1) (maxL := M1.2.2.1) (ret := M1.2.2.2) (b := E.2.1 + o) (C := M1.1.cls) (n := n) (Ts := am_T) (own := M.1.cls) ⟨hx, hb, hml, hown, hts⟩ (hMet l E) ⟨⟨rfl, rfl, hroom.1, hroom.2, pay_in hts (am_goods M1 c1), List.mem_cons_self, hts _ c1, hts _ c2, ⟨c3.1, c3.2.1⟩, am_len c3.2.2, hts _ hlk⟩, hts _ hv.1, hts _ hv.2⟩ ⟨am_blind, am_rcv hK hH ho hci, fun U hU hW => ⟨rfl, hK.warm hW, ⟨va_X.moved hW.alike (by rw [hU]; exact hX.1.kept (hF.1 _ hX.2.1)), hX.2.1⟩, by rw [hU]; exact hH⟩⟩ rfl (by rw [List.length_map]; exact hA) hl.2.1 (by rw [hst, List.map_append, List.map_reverse]; rfl) (lv_room hrl) hd ⟨by omega, by omega⟩) hF (fun H1 locs1 hH1 hF1 => ?_)
  · have e3 : (r1.map (am_v E)).toList ++ st.map (am_v E) = (r1.toList ++ st).map (am_v E) := by cases r1 <;> rfl
    rw [e3]
    exact kk.2 E mc ms p l e R s m args below meth c Z ok H1 locs1 _ _ ls hl hH1 hF1 (by omega) (by omega)
theorem aw_callS {idx : Nat} {st0 : List Value} (hd : decode M.2.1 pc = .ok (.invokestatic idx, 3)) (hB : am_cB M.1.cls idx M1 n) (hlk : am_cL M.1.cls idx M1) (hv : Cond.static M1.1 ∈ am_T) (hd1 : d1 + 1 ≤ d) (hA : As.length = n) (hst : st0 = As.reverse ++ st) (hcat : (st.map fun v => v.category).sum ≤ 8) (hM : AM sc M1 d1 As h r1 h1) (kk : AW sc M d (pc + 3) L (r1.toList ++ st) h1 r h') : AW sc M d pc L st0 h r h' := by
  obtain ⟨hh1, hh2⟩ := kk.1
  refine ⟨hM.1.tr kk.1, ?_⟩
  intro E mc ms p l e R s m args below meth c Z ok H locs cells slots ls hl hH hF hc hs
  obtain ⟨hx, hb, hml, hown, hin, hts, hK, hX, hR, hZ⟩ := id ok
  obtain ⟨c1, c2, c3, c4⟩ := hB
  obtain ⟨⟨g1, g2⟩, hMet⟩ := hM
  have hroom := am_room hd1 hR.1 hR.2.1 c4
  have hrl : ((st.map (am_v E)).map fun v => v.category).sum ≤ 8 := by rw [am_cats]; exact hcat
  refine am_go (sc := sc) (E := E) (r1 := r1) (h1 := h1) (va_runS (As := As.map (am_v E)) (rest := st.map (am_v E)) (bytes := M1.2.1) (maxL := M1.2.2.1) (ret := M1.2.2.2) (n := n) (Ts := am_T) (own := M.1.cls) ⟨hx, hb, hml, hown, hts⟩ (hMet l E) ⟨⟨rfl, rfl, hroom.1, hroom.2, pay_in hts (am_goods M1 c1), List.mem_cons_self, hts _ c1, hts _ c2, ⟨c3.1, c3.2.1⟩, am_len c3.2.2, hts _ hlk⟩, hts _ hv⟩ ⟨am_blind, fun U hU hW => ⟨rfl, hK.warm hW, ⟨va_X.moved hW.alike (by rw [hU]; exact hX.1.kept (hF.1 _ hX.2.1)), hX.2.1⟩, by rw [hU]; exact hH⟩⟩ rfl (by rw [List.length_map]; exact hA) hl.2.1 (by rw [hst, List.map_append, List.map_reverse]) (lv_room hrl) hd ⟨by omega, by omega⟩) hF (fun H1 locs1 hH1 hF1 => ?_)
  · have e3 : (r1.map (am_v E)).toList ++ st.map (am_v E) = (r1.toList ++ st).map (am_v E) := by cases r1 <;> rfl
    rw [e3]
    exact kk.2 E mc ms p l e R s m args below meth c Z ok H1 locs1 _ _ ls hl hH1 hF1 (by omega) (by omega)
theorem aw_callI {o : Nat} {idx : Nat} {st0 : List Value} (hd : decode M.2.1 pc = .ok (.invokespecial idx, 3)) (hB : am_cB M.1.cls idx M1 n) (hlk : am_cL M.1.cls idx M1) (hv : M1.1.name = "<init>" ∧ Cond.instanceMethod M1.1 ∈ am_T) (hret : M1.2.2.2 = none) (hd1 : d1 + 1 ≤ d) (hA : As.length = n) (hst : st0 = As.reverse ++ .ref (o + 1) :: st) (hcat : (st.map fun v => v.category).sum ≤ 8) (hM : AM sc M1 d1 (.ref (o + 1) :: As) h r1 h1) (kk : AW sc M d (pc + 3) L (r1.toList ++ st) h1 r h') : AW sc M d pc L st0 h r h' := by
  obtain ⟨hh1, hh2⟩ := kk.1
  refine ⟨hM.1.tr kk.1, ?_⟩
  intro E mc ms p l e R s m args below meth c Z ok H locs cells slots ls hl hH hF hc hs
  obtain ⟨hx, hb, hml, hown, hin, hts, hK, hX, hR, hZ⟩ := id ok
  obtain ⟨c1, c2, c3, c4⟩ := hB
  obtain ⟨⟨g1, g2⟩, hMet⟩ := hM
  have hroom := am_room hd1 hR.1 hR.2.1 c4
  have hrl : ((st.map (am_v E)).map fun v => v.category).sum ≤ 8 := by rw [am_cats]; exact hcat
  have hretc : Cond.code M1.1 M1.2.1 M1.2.2.1 none ∈ am_ws M1 := by rw [← hret]; exact List.mem_cons_self
  have c1' : Cond.code M1.1 M1.2.1 M1.2.2.1 none ∈ am_T := by rw [← hret]; exact c1
  refine am_go (sc := sc) (E := E) (r1 := r1) (h1 := h1) (va_runI (As := As.map (am_v E)) (rest := st.map (am_v E)) (bytes := M1.2.1) (maxL := M1.2.2.1) (b := E.2.1 + o) (n := n) (Ts := am_T) (own := M.1.cls) ⟨hx, hb, hml, hown, hts⟩ (hMet l E) ⟨⟨rfl, rfl, hroom.1, hroom.2, pay_in hts (am_goods M1 c1), hretc, hts _ c1', hts _ c2, ⟨c3.1, c3.2.1⟩, am_len c3.2.2, hts _ hlk⟩, hv.1, hts _ hv.2⟩ ⟨am_blind, fun U hU hW => ⟨rfl, hK.warm hW, ⟨va_X.moved hW.alike (by rw [hU]; exact hX.1.kept (hF.1 _ hX.2.1)), hX.2.1⟩, by rw [hU]; exact hH⟩⟩ rfl (by rw [List.length_map]; exact hA) hl.2.1 (by rw [hst, List.map_append, List.map_reverse]; rfl) (lv_room hrl) hd ⟨by omega, by omega⟩) hF (fun H1 locs1 hH1 hF1 => ?_)
  · have e3 : (r1.map (am_v E)).toList ++ st.map (am_v E) = (r1.toList ++ st).map (am_v E) := by cases r1 <;> rfl
    rw [e3]
    exact kk.2 E mc ms p l e R s m args below meth c Z ok H1 locs1 _ _ ls hl hH1 hF1 (by omega) (by omega)
theorem aw_callVN {o ci : Nat} {fs : List Value} {T : u_T} {NN : Nat} {idx : Nat} {st0 : List Value} (hd : decode M.2.1 pc = .ok (.invokevirtual idx, 3)) (hB : am_cB M.1.cls idx M1 n) (hlk : am_cN M.1.cls idx M1) (hv : Cond.instanceMethod M1.1 ∈ am_T ∧ Cond.selects M1.1.cls M1.1 M1.1 ∈ am_T) (hci : am_cl[ci]? = some (M1.1.cls, T, NN)) (ho : h[o]? = some (.inr (ci, fs))) (hd1 : d1 + 1 ≤ d) (hA : As.length = n) (hst : st0 = As.reverse ++ .ref (o + 1) :: st) (hcat : (st.map fun v => v.category).sum ≤ 8) (hM : AM sc M1 d1 (.ref (o + 1) :: As) h r1 h1) (kk : AW sc M d (pc + 3) L (r1.toList ++ st) h1 r h') : AW sc M d pc L st0 h r h' := by
  obtain ⟨hh1, hh2⟩ := kk.1
  refine ⟨hM.1.tr kk.1, ?_⟩
  intro E mc ms p l e R s m args below meth c Z ok H locs cells slots ls hl hH hF hc hs
  obtain ⟨hx, hb, hml, hown, hin, hts, hK, hX, hR, hZ⟩ := id ok
  obtain ⟨c1, c2, c3, c4⟩ := hB
  obtain ⟨host, hlk⟩ := hlk
  obtain ⟨⟨g1, g2⟩, hMet⟩ := hM
  have hroom := am_room hd1 hR.1 hR.2.1 c4
  have hrl : ((st.map (am_v E)).map fun v => v.category).sum ≤ 8 := by rw [am_cats]; exact hcat
  refine am_go (sc := sc) (E := E) (r1 := r1) (h1 := h1) (va_runVN (As := As.map (am_v E)) (rest := st.map (am_v E)) (bytes := M1.2.1) (maxL := M1.2.2.1) (ret := M1.2.2.2) (b := E.2.1 + o) (C := M1.1.cls) (n := n) (Ts := am_T) (own := M.1.cls) ⟨hx, hb, hml, hown, hts⟩ (hMet l E) ⟨⟨⟨rfl, rfl, hroom.1, hroom.2, pay_in hts (am_goods M1 c1), List.mem_cons_self⟩, hts _ c1, hts _ c2, ⟨c3.1, c3.2.1⟩, am_len c3.2.2, (hK.2.2.1 _ hlk).use rfl⟩, hts _ hv.1, hts _ hv.2⟩ ⟨am_blind, am_rcv hK hH ho hci, fun U hU hW => ⟨rfl, hK.warm hW, ⟨va_X.moved hW.alike (by rw [hU]; exact hX.1.kept (hF.1 _ hX.2.1)), hX.2.1⟩, by rw [hU]; exact hH⟩⟩ rfl (by rw [List.length_map]; exact hA) hl.2.1 (by rw [hst, List.map_append, List.map_reverse]; rfl) (lv_room hrl) hd ⟨by omega, by omega⟩) hF (fun H1 locs1 hH1 hF1 => ?_)
  · have e3 : (r1.map (am_v E)).toList ++ st.map (am_v E) = (r1.toList ++ st).map (am_v E) := by cases r1 <;> rfl
    rw [e3]
    exact kk.2 E mc ms p l e R s m args below meth c Z ok H1 locs1 _ _ ls hl hH1 hF1 (by omega) (by omega)
theorem aw_callSN {idx : Nat} {st0 : List Value} (hd : decode M.2.1 pc = .ok (.invokestatic idx, 3)) (hB : am_cB M.1.cls idx M1 n) (hlk : am_cN M.1.cls idx M1) (hv : Cond.static M1.1 ∈ am_T) (hd1 : d1 + 1 ≤ d) (hA : As.length = n) (hst : st0 = As.reverse ++ st) (hcat : (st.map fun v => v.category).sum ≤ 8) (hM : AM sc M1 d1 As h r1 h1) (kk : AW sc M d (pc + 3) L (r1.toList ++ st) h1 r h') : AW sc M d pc L st0 h r h' := by
  obtain ⟨hh1, hh2⟩ := kk.1
  refine ⟨hM.1.tr kk.1, ?_⟩
  intro E mc ms p l e R s m args below meth c Z ok H locs cells slots ls hl hH hF hc hs
  obtain ⟨hx, hb, hml, hown, hin, hts, hK, hX, hR, hZ⟩ := id ok
  obtain ⟨c1, c2, c3, c4⟩ := hB
  obtain ⟨host, hlk⟩ := hlk
  obtain ⟨⟨g1, g2⟩, hMet⟩ := hM
  have hroom := am_room hd1 hR.1 hR.2.1 c4
  have hrl : ((st.map (am_v E)).map fun v => v.category).sum ≤ 8 := by rw [am_cats]; exact hcat
  refine am_go (sc := sc) (E := E) (r1 := r1) (h1 := h1) (va_runSN (As := As.map (am_v E)) (rest := st.map (am_v E)) (bytes := M1.2.1) (maxL := M1.2.2.1) (ret := M1.2.2.2) (n := n) (Ts := am_T) (own := M.1.cls) ⟨hx, hb, hml, hown, hts⟩ (hMet l E) ⟨⟨⟨rfl, rfl, hroom.1, hroom.2, pay_in hts (am_goods M1 c1), List.mem_cons_self⟩, hts _ c1, hts _ c2, ⟨c3.1, c3.2.1⟩, am_len c3.2.2, (hK.2.2.1 _ hlk).use rfl⟩, hts _ hv, trivial⟩ ⟨am_blind, fun U hU hW => ⟨rfl, hK.warm hW, ⟨va_X.moved hW.alike (by rw [hU]; exact hX.1.kept (hF.1 _ hX.2.1)), hX.2.1⟩, by rw [hU]; exact hH⟩⟩ rfl (by rw [List.length_map]; exact hA) hl.2.1 (by rw [hst, List.map_append, List.map_reverse]) (lv_room hrl) hd ⟨by omega, by omega⟩) hF (fun H1 locs1 hH1 hF1 => ?_)
  · have e3 : (r1.map (am_v E)).toList ++ st.map (am_v E) = (r1.toList ++ st).map (am_v E) := by cases r1 <;> rfl
    rw [e3]
    exact kk.2 E mc ms p l e R s m args below meth c Z ok H1 locs1 _ _ ls hl hH1 hF1 (by omega) (by omega)
theorem aw_callIN {o : Nat} {idx : Nat} {st0 : List Value} (hd : decode M.2.1 pc = .ok (.invokespecial idx, 3)) (hB : am_cB M.1.cls idx M1 n) (hlk : am_cN M.1.cls idx M1) (hv : M1.1.name = "<init>" ∧ Cond.instanceMethod M1.1 ∈ am_T) (hret : M1.2.2.2 = none) (hd1 : d1 + 1 ≤ d) (hA : As.length = n) (hst : st0 = As.reverse ++ .ref (o + 1) :: st) (hcat : (st.map fun v => v.category).sum ≤ 8) (hM : AM sc M1 d1 (.ref (o + 1) :: As) h r1 h1) (kk : AW sc M d (pc + 3) L (r1.toList ++ st) h1 r h') : AW sc M d pc L st0 h r h' := by
  obtain ⟨hh1, hh2⟩ := kk.1
  refine ⟨hM.1.tr kk.1, ?_⟩
  intro E mc ms p l e R s m args below meth c Z ok H locs cells slots ls hl hH hF hc hs
  obtain ⟨hx, hb, hml, hown, hin, hts, hK, hX, hR, hZ⟩ := id ok
  obtain ⟨c1, c2, c3, c4⟩ := hB
  obtain ⟨host, hlk⟩ := hlk
  obtain ⟨⟨g1, g2⟩, hMet⟩ := hM
  have hroom := am_room hd1 hR.1 hR.2.1 c4
  have hrl : ((st.map (am_v E)).map fun v => v.category).sum ≤ 8 := by rw [am_cats]; exact hcat
  have hretc : Cond.code M1.1 M1.2.1 M1.2.2.1 none ∈ am_ws M1 := by rw [← hret]; exact List.mem_cons_self
  have c1' : Cond.code M1.1 M1.2.1 M1.2.2.1 none ∈ am_T := by rw [← hret]; exact c1
  refine am_go (sc := sc) (E := E) (r1 := r1) (h1 := h1) (va_runIN (As := As.map (am_v E)) (rest := st.map (am_v E)) (bytes := M1.2.1) (maxL := M1.2.2.1) (b := E.2.1 + o) (n := n) (Ts := am_T) (own := M.1.cls) ⟨hx, hb, hml, hown, hts⟩ (hMet l E) ⟨⟨⟨rfl, rfl, hroom.1, hroom.2, pay_in hts (am_goods M1 c1), hretc⟩, hts _ c1', hts _ c2, ⟨c3.1, c3.2.1⟩, am_len c3.2.2, (hK.2.2.1 _ hlk).use rfl⟩, hv.1, hts _ hv.2⟩ ⟨am_blind, fun U hU hW => ⟨rfl, hK.warm hW, ⟨va_X.moved hW.alike (by rw [hU]; exact hX.1.kept (hF.1 _ hX.2.1)), hX.2.1⟩, by rw [hU]; exact hH⟩⟩ rfl (by rw [List.length_map]; exact hA) hl.2.1 (by rw [hst, List.map_append, List.map_reverse]; rfl) (lv_room hrl) hd ⟨by omega, by omega⟩) hF (fun H1 locs1 hH1 hF1 => ?_)
  · have e3 : (r1.map (am_v E)).toList ++ st.map (am_v E) = (r1.toList ++ st).map (am_v E) := by cases r1 <;> rfl
    rw [e3]
    exact kk.2 E mc ms p l e R s m args below meth c Z ok H1 locs1 _ _ ls hl hH1 hF1 (by omega) (by omega)
def am_lk (own : String) (idx : Nat) (M1 : am_M) : Prop := am_cL own idx M1 ∨ am_cN own idx M1
def am_sV (own : String) (idx : Nat) (M1 : am_M) (n ci : Nat) : Prop := am_cB own idx M1 n ∧ am_lk own idx M1 ∧ (Cond.instanceMethod M1.1 ∈ am_T ∧ Cond.selects M1.1.cls M1.1 M1.1 ∈ am_T) ∧ ∃ (T : u_T) (NN : Nat), am_cl[ci]? = some (M1.1.cls, T, NN)
def am_sS (own : String) (idx : Nat) (M1 : am_M) (n : Nat) : Prop := am_cB own idx M1 n ∧ am_lk own idx M1 ∧ Cond.static M1.1 ∈ am_T
def am_sI (own : String) (idx : Nat) (M1 : am_M) (n : Nat) : Prop := am_cB own idx M1 n ∧ am_lk own idx M1 ∧ (M1.1.name = "<init>" ∧ Cond.instanceMethod M1.1 ∈ am_T) ∧ M1.2.2.2 = none
theorem aw_V0 {v : Value} {o ci idx : Nat} {fs : List Value} (hd : decode M.2.1 pc = .ok (.invokevirtual idx, 3)) (hs : am_sV M.1.cls idx M1 0 ci) (ho : h[o]? = some (.inr (ci, fs))) (hd1 : d1 + 1 ≤ d) (hcat : (st.map fun v => v.category).sum ≤ 8) (hM : AM sc M1 d1 (.ref (o + 1) :: []) h (some v) h1) (kk : AW sc M d (pc + 3) L (v :: st) h1 r h') : AW sc M d pc L (.ref (o + 1) :: st) h r h' := by
  obtain ⟨hB, hlk, hv, T, NN, hci⟩ := hs
  rcases hlk with hlk | hlk
  · exact aw_callV (As := []) hd hB hlk hv hci ho hd1 rfl rfl hcat hM kk
  · exact aw_callVN (As := []) hd hB hlk hv hci ho hd1 rfl rfl hcat hM kk
theorem aw_S0 {v : Value} {idx : Nat} (hd : decode M.2.1 pc = .ok (.invokestatic idx, 3)) (hs : am_sS M.1.cls idx M1 0) (hd1 : d1 + 1 ≤ d) (hcat : (st.map fun v => v.category).sum ≤ 8) (hM : AM sc M1 d1 [] h (some v) h1) (kk : AW sc M d (pc + 3) L (v :: st) h1 r h') : AW sc M d pc L (st) h r h' := by
  obtain ⟨hB, hlk, hv⟩ := hs
  rcases hlk with hlk | hlk
  · exact aw_callS (As := []) hd hB hlk hv hd1 rfl rfl hcat hM kk
  · exact aw_callSN (As := []) hd hB hlk hv hd1 rfl rfl hcat hM kk
theorem aw_V0v {o ci idx : Nat} {fs : List Value} (hd : decode M.2.1 pc = .ok (.invokevirtual idx, 3)) (hs : am_sV M.1.cls idx M1 0 ci) (ho : h[o]? = some (.inr (ci, fs))) (hd1 : d1 + 1 ≤ d) (hcat : (st.map fun v => v.category).sum ≤ 8) (hM : AM sc M1 d1 (.ref (o + 1) :: []) h none h1) (kk : AW sc M d (pc + 3) L (st) h1 r h') : AW sc M d pc L (.ref (o + 1) :: st) h r h' := by
  obtain ⟨hB, hlk, hv, T, NN, hci⟩ := hs
  rcases hlk with hlk | hlk
  · exact aw_callV (As := []) hd hB hlk hv hci ho hd1 rfl rfl hcat hM kk
  · exact aw_callVN (As := []) hd hB hlk hv hci ho hd1 rfl rfl hcat hM kk
theorem aw_S0v {idx : Nat} (hd : decode M.2.1 pc = .ok (.invokestatic idx, 3)) (hs : am_sS M.1.cls idx M1 0) (hd1 : d1 + 1 ≤ d) (hcat : (st.map fun v => v.category).sum ≤ 8) (hM : AM sc M1 d1 [] h none h1) (kk : AW sc M d (pc + 3) L (st) h1 r h') : AW sc M d pc L (st) h r h' := by
  obtain ⟨hB, hlk, hv⟩ := hs
  rcases hlk with hlk | hlk
  · exact aw_callS (As := []) hd hB hlk hv hd1 rfl rfl hcat hM kk
  · exact aw_callSN (As := []) hd hB hlk hv hd1 rfl rfl hcat hM kk
theorem aw_I0 {o idx : Nat} (hd : decode M.2.1 pc = .ok (.invokespecial idx, 3)) (hs : am_sI M.1.cls idx M1 0) (hd1 : d1 + 1 ≤ d) (hcat : (st.map fun v => v.category).sum ≤ 8) (hM : AM sc M1 d1 (.ref (o + 1) :: []) h none h1) (kk : AW sc M d (pc + 3) L st h1 r h') : AW sc M d pc L (.ref (o + 1) :: st) h r h' := by
  obtain ⟨hB, hlk, hv, hret⟩ := hs
  rcases hlk with hlk | hlk
  · exact aw_callI (As := []) hd hB hlk hv hret hd1 rfl rfl hcat hM kk
  · exact aw_callIN (As := []) hd hB hlk hv hret hd1 rfl rfl hcat hM kk
theorem aw_V1 {a0 : Value} {v : Value} {o ci idx : Nat} {fs : List Value} (hd : decode M.2.1 pc = .ok (.invokevirtual idx, 3)) (hs : am_sV M.1.cls idx M1 1 ci) (ho : h[o]? = some (.inr (ci, fs))) (hd1 : d1 + 1 ≤ d) (hcat : (st.map fun v => v.category).sum ≤ 8) (hM : AM sc M1 d1 (.ref (o + 1) :: [a0]) h (some v) h1) (kk : AW sc M d (pc + 3) L (v :: st) h1 r h') : AW sc M d pc L (a0 :: .ref (o + 1) :: st) h r h' := by
  obtain ⟨hB, hlk, hv, T, NN, hci⟩ := hs
  rcases hlk with hlk | hlk
  · exact aw_callV (As := [a0]) hd hB hlk hv hci ho hd1 rfl rfl hcat hM kk
  · exact aw_callVN (As := [a0]) hd hB hlk hv hci ho hd1 rfl rfl hcat hM kk
theorem aw_S1 {a0 : Value} {v : Value} {idx : Nat} (hd : decode M.2.1 pc = .ok (.invokestatic idx, 3)) (hs : am_sS M.1.cls idx M1 1) (hd1 : d1 + 1 ≤ d) (hcat : (st.map fun v => v.category).sum ≤ 8) (hM : AM sc M1 d1 [a0] h (some v) h1) (kk : AW sc M d (pc + 3) L (v :: st) h1 r h') : AW sc M d pc L (a0 :: st) h r h' := by
  obtain ⟨hB, hlk, hv⟩ := hs
  rcases hlk with hlk | hlk
  · exact aw_callS (As := [a0]) hd hB hlk hv hd1 rfl rfl hcat hM kk
  · exact aw_callSN (As := [a0]) hd hB hlk hv hd1 rfl rfl hcat hM kk
theorem aw_V1v {a0 : Value} {o ci idx : Nat} {fs : List Value} (hd : decode M.2.1 pc = .ok (.invokevirtual idx, 3)) (hs : am_sV M.1.cls idx M1 1 ci) (ho : h[o]? = some (.inr (ci, fs))) (hd1 : d1 + 1 ≤ d) (hcat : (st.map fun v => v.category).sum ≤ 8) (hM : AM sc M1 d1 (.ref (o + 1) :: [a0]) h none h1) (kk : AW sc M d (pc + 3) L (st) h1 r h') : AW sc M d pc L (a0 :: .ref (o + 1) :: st) h r h' := by
  obtain ⟨hB, hlk, hv, T, NN, hci⟩ := hs
  rcases hlk with hlk | hlk
  · exact aw_callV (As := [a0]) hd hB hlk hv hci ho hd1 rfl rfl hcat hM kk
  · exact aw_callVN (As := [a0]) hd hB hlk hv hci ho hd1 rfl rfl hcat hM kk
theorem aw_S1v {a0 : Value} {idx : Nat} (hd : decode M.2.1 pc = .ok (.invokestatic idx, 3)) (hs : am_sS M.1.cls idx M1 1) (hd1 : d1 + 1 ≤ d) (hcat : (st.map fun v => v.category).sum ≤ 8) (hM : AM sc M1 d1 [a0] h none h1) (kk : AW sc M d (pc + 3) L (st) h1 r h') : AW sc M d pc L (a0 :: st) h r h' := by
  obtain ⟨hB, hlk, hv⟩ := hs
  rcases hlk with hlk | hlk
  · exact aw_callS (As := [a0]) hd hB hlk hv hd1 rfl rfl hcat hM kk
  · exact aw_callSN (As := [a0]) hd hB hlk hv hd1 rfl rfl hcat hM kk
theorem aw_I1 {a0 : Value} {o idx : Nat} (hd : decode M.2.1 pc = .ok (.invokespecial idx, 3)) (hs : am_sI M.1.cls idx M1 1) (hd1 : d1 + 1 ≤ d) (hcat : (st.map fun v => v.category).sum ≤ 8) (hM : AM sc M1 d1 (.ref (o + 1) :: [a0]) h none h1) (kk : AW sc M d (pc + 3) L st h1 r h') : AW sc M d pc L (a0 :: .ref (o + 1) :: st) h r h' := by
  obtain ⟨hB, hlk, hv, hret⟩ := hs
  rcases hlk with hlk | hlk
  · exact aw_callI (As := [a0]) hd hB hlk hv hret hd1 rfl rfl hcat hM kk
  · exact aw_callIN (As := [a0]) hd hB hlk hv hret hd1 rfl rfl hcat hM kk
theorem aw_V2 {a0 a1 : Value} {v : Value} {o ci idx : Nat} {fs : List Value} (hd : decode M.2.1 pc = .ok (.invokevirtual idx, 3)) (hs : am_sV M.1.cls idx M1 2 ci) (ho : h[o]? = some (.inr (ci, fs))) (hd1 : d1 + 1 ≤ d) (hcat : (st.map fun v => v.category).sum ≤ 8) (hM : AM sc M1 d1 (.ref (o + 1) :: [a0, a1]) h (some v) h1) (kk : AW sc M d (pc + 3) L (v :: st) h1 r h') : AW sc M d pc L (a1 :: a0 :: .ref (o + 1) :: st) h r h' := by
  obtain ⟨hB, hlk, hv, T, NN, hci⟩ := hs
  rcases hlk with hlk | hlk
  · exact aw_callV (As := [a0, a1]) hd hB hlk hv hci ho hd1 rfl rfl hcat hM kk
  · exact aw_callVN (As := [a0, a1]) hd hB hlk hv hci ho hd1 rfl rfl hcat hM kk
theorem aw_S2 {a0 a1 : Value} {v : Value} {idx : Nat} (hd : decode M.2.1 pc = .ok (.invokestatic idx, 3)) (hs : am_sS M.1.cls idx M1 2) (hd1 : d1 + 1 ≤ d) (hcat : (st.map fun v => v.category).sum ≤ 8) (hM : AM sc M1 d1 [a0, a1] h (some v) h1) (kk : AW sc M d (pc + 3) L (v :: st) h1 r h') : AW sc M d pc L (a1 :: a0 :: st) h r h' := by
  obtain ⟨hB, hlk, hv⟩ := hs
  rcases hlk with hlk | hlk
  · exact aw_callS (As := [a0, a1]) hd hB hlk hv hd1 rfl rfl hcat hM kk
  · exact aw_callSN (As := [a0, a1]) hd hB hlk hv hd1 rfl rfl hcat hM kk
theorem aw_V2v {a0 a1 : Value} {o ci idx : Nat} {fs : List Value} (hd : decode M.2.1 pc = .ok (.invokevirtual idx, 3)) (hs : am_sV M.1.cls idx M1 2 ci) (ho : h[o]? = some (.inr (ci, fs))) (hd1 : d1 + 1 ≤ d) (hcat : (st.map fun v => v.category).sum ≤ 8) (hM : AM sc M1 d1 (.ref (o + 1) :: [a0, a1]) h none h1) (kk : AW sc M d (pc + 3) L (st) h1 r h') : AW sc M d pc L (a1 :: a0 :: .ref (o + 1) :: st) h r h' := by
  obtain ⟨hB, hlk, hv, T, NN, hci⟩ := hs
  rcases hlk with hlk | hlk
  · exact aw_callV (As := [a0, a1]) hd hB hlk hv hci ho hd1 rfl rfl hcat hM kk
  · exact aw_callVN (As := [a0, a1]) hd hB hlk hv hci ho hd1 rfl rfl hcat hM kk
theorem aw_S2v {a0 a1 : Value} {idx : Nat} (hd : decode M.2.1 pc = .ok (.invokestatic idx, 3)) (hs : am_sS M.1.cls idx M1 2) (hd1 : d1 + 1 ≤ d) (hcat : (st.map fun v => v.category).sum ≤ 8) (hM : AM sc M1 d1 [a0, a1] h none h1) (kk : AW sc M d (pc + 3) L (st) h1 r h') : AW sc M d pc L (a1 :: a0 :: st) h r h' := by
  obtain ⟨hB, hlk, hv⟩ := hs
  rcases hlk with hlk | hlk
  · exact aw_callS (As := [a0, a1]) hd hB hlk hv hd1 rfl rfl hcat hM kk
  · exact aw_callSN (As := [a0, a1]) hd hB hlk hv hd1 rfl rfl hcat hM kk
theorem aw_I2 {a0 a1 : Value} {o idx : Nat} (hd : decode M.2.1 pc = .ok (.invokespecial idx, 3)) (hs : am_sI M.1.cls idx M1 2) (hd1 : d1 + 1 ≤ d) (hcat : (st.map fun v => v.category).sum ≤ 8) (hM : AM sc M1 d1 (.ref (o + 1) :: [a0, a1]) h none h1) (kk : AW sc M d (pc + 3) L st h1 r h') : AW sc M d pc L (a1 :: a0 :: .ref (o + 1) :: st) h r h' := by
  obtain ⟨hB, hlk, hv, hret⟩ := hs
  rcases hlk with hlk | hlk
  · exact aw_callI (As := [a0, a1]) hd hB hlk hv hret hd1 rfl rfl hcat hM kk
  · exact aw_callIN (As := [a0, a1]) hd hB hlk hv hret hd1 rfl rfl hcat hM kk
theorem aw_V3 {a0 a1 a2 : Value} {v : Value} {o ci idx : Nat} {fs : List Value} (hd : decode M.2.1 pc = .ok (.invokevirtual idx, 3)) (hs : am_sV M.1.cls idx M1 3 ci) (ho : h[o]? = some (.inr (ci, fs))) (hd1 : d1 + 1 ≤ d) (hcat : (st.map fun v => v.category).sum ≤ 8) (hM : AM sc M1 d1 (.ref (o + 1) :: [a0, a1, a2]) h (some v) h1) (kk : AW sc M d (pc + 3) L (v :: st) h1 r h') : AW sc M d pc L (a2 :: a1 :: a0 :: .ref (o + 1) :: st) h r h' := by
  obtain ⟨hB, hlk, hv, T, NN, hci⟩ := hs
  rcases hlk with hlk | hlk
  · exact aw_callV (As := [a0, a1, a2]) hd hB hlk hv hci ho hd1 rfl rfl hcat hM kk
  · exact aw_callVN (As := [a0, a1, a2]) hd hB hlk hv hci ho hd1 rfl rfl hcat hM kk
theorem aw_S3 {a0 a1 a2 : Value} {v : Value} {idx : Nat} (hd : decode M.2.1 pc = .ok (.invokestatic idx, 3)) (hs : am_sS M.1.cls idx M1 3) (hd1 : d1 + 1 ≤ d) (hcat : (st.map fun v => v.category).sum ≤ 8) (hM : AM sc M1 d1 [a0, a1, a2] h (some v) h1) (kk : AW sc M d (pc + 3) L (v :: st) h1 r h') : AW sc M d pc L (a2 :: a1 :: a0 :: st) h r h' := by
  obtain ⟨hB, hlk, hv⟩ := hs
  rcases hlk with hlk | hlk
  · exact aw_callS (As := [a0, a1, a2]) hd hB hlk hv hd1 rfl rfl hcat hM kk
  · exact aw_callSN (As := [a0, a1, a2]) hd hB hlk hv hd1 rfl rfl hcat hM kk
theorem aw_V3v {a0 a1 a2 : Value} {o ci idx : Nat} {fs : List Value} (hd : decode M.2.1 pc = .ok (.invokevirtual idx, 3)) (hs : am_sV M.1.cls idx M1 3 ci) (ho : h[o]? = some (.inr (ci, fs))) (hd1 : d1 + 1 ≤ d) (hcat : (st.map fun v => v.category).sum ≤ 8) (hM : AM sc M1 d1 (.ref (o + 1) :: [a0, a1, a2]) h none h1) (kk : AW sc M d (pc + 3) L (st) h1 r h') : AW sc M d pc L (a2 :: a1 :: a0 :: .ref (o + 1) :: st) h r h' := by
  obtain ⟨hB, hlk, hv, T, NN, hci⟩ := hs
  rcases hlk with hlk | hlk
  · exact aw_callV (As := [a0, a1, a2]) hd hB hlk hv hci ho hd1 rfl rfl hcat hM kk
  · exact aw_callVN (As := [a0, a1, a2]) hd hB hlk hv hci ho hd1 rfl rfl hcat hM kk
theorem aw_S3v {a0 a1 a2 : Value} {idx : Nat} (hd : decode M.2.1 pc = .ok (.invokestatic idx, 3)) (hs : am_sS M.1.cls idx M1 3) (hd1 : d1 + 1 ≤ d) (hcat : (st.map fun v => v.category).sum ≤ 8) (hM : AM sc M1 d1 [a0, a1, a2] h none h1) (kk : AW sc M d (pc + 3) L (st) h1 r h') : AW sc M d pc L (a2 :: a1 :: a0 :: st) h r h' := by
  obtain ⟨hB, hlk, hv⟩ := hs
  rcases hlk with hlk | hlk
  · exact aw_callS (As := [a0, a1, a2]) hd hB hlk hv hd1 rfl rfl hcat hM kk
  · exact aw_callSN (As := [a0, a1, a2]) hd hB hlk hv hd1 rfl rfl hcat hM kk
theorem aw_I3 {a0 a1 a2 : Value} {o idx : Nat} (hd : decode M.2.1 pc = .ok (.invokespecial idx, 3)) (hs : am_sI M.1.cls idx M1 3) (hd1 : d1 + 1 ≤ d) (hcat : (st.map fun v => v.category).sum ≤ 8) (hM : AM sc M1 d1 (.ref (o + 1) :: [a0, a1, a2]) h none h1) (kk : AW sc M d (pc + 3) L st h1 r h') : AW sc M d pc L (a2 :: a1 :: a0 :: .ref (o + 1) :: st) h r h' := by
  obtain ⟨hB, hlk, hv, hret⟩ := hs
  rcases hlk with hlk | hlk
  · exact aw_callI (As := [a0, a1, a2]) hd hB hlk hv hret hd1 rfl rfl hcat hM kk
  · exact aw_callIN (As := [a0, a1, a2]) hd hB hlk hv hret hd1 rfl rfl hcat hM kk
theorem aw_V4 {a0 a1 a2 a3 : Value} {v : Value} {o ci idx : Nat} {fs : List Value} (hd : decode M.2.1 pc = .ok (.invokevirtual idx, 3)) (hs : am_sV M.1.cls idx M1 4 ci) (ho : h[o]? = some (.inr (ci, fs))) (hd1 : d1 + 1 ≤ d) (hcat : (st.map fun v => v.category).sum ≤ 8) (hM : AM sc M1 d1 (.ref (o + 1) :: [a0, a1, a2, a3]) h (some v) h1) (kk : AW sc M d (pc + 3) L (v :: st) h1 r h') : AW sc M d pc L (a3 :: a2 :: a1 :: a0 :: .ref (o + 1) :: st) h r h' := by
  obtain ⟨hB, hlk, hv, T, NN, hci⟩ := hs
  rcases hlk with hlk | hlk
  · exact aw_callV (As := [a0, a1, a2, a3]) hd hB hlk hv hci ho hd1 rfl rfl hcat hM kk
  · exact aw_callVN (As := [a0, a1, a2, a3]) hd hB hlk hv hci ho hd1 rfl rfl hcat hM kk
theorem aw_S4 {a0 a1 a2 a3 : Value} {v : Value} {idx : Nat} (hd : decode M.2.1 pc = .ok (.invokestatic idx, 3)) (hs : am_sS M.1.cls idx M1 4) (hd1 : d1 + 1 ≤ d) (hcat : (st.map fun v => v.category).sum ≤ 8) (hM : AM sc M1 d1 [a0, a1, a2, a3] h (some v) h1) (kk : AW sc M d (pc + 3) L (v :: st) h1 r h') : AW sc M d pc L (a3 :: a2 :: a1 :: a0 :: st) h r h' := by
  obtain ⟨hB, hlk, hv⟩ := hs
  rcases hlk with hlk | hlk
  · exact aw_callS (As := [a0, a1, a2, a3]) hd hB hlk hv hd1 rfl rfl hcat hM kk
  · exact aw_callSN (As := [a0, a1, a2, a3]) hd hB hlk hv hd1 rfl rfl hcat hM kk
theorem aw_V4v {a0 a1 a2 a3 : Value} {o ci idx : Nat} {fs : List Value} (hd : decode M.2.1 pc = .ok (.invokevirtual idx, 3)) (hs : am_sV M.1.cls idx M1 4 ci) (ho : h[o]? = some (.inr (ci, fs))) (hd1 : d1 + 1 ≤ d) (hcat : (st.map fun v => v.category).sum ≤ 8) (hM : AM sc M1 d1 (.ref (o + 1) :: [a0, a1, a2, a3]) h none h1) (kk : AW sc M d (pc + 3) L (st) h1 r h') : AW sc M d pc L (a3 :: a2 :: a1 :: a0 :: .ref (o + 1) :: st) h r h' := by
  obtain ⟨hB, hlk, hv, T, NN, hci⟩ := hs
  rcases hlk with hlk | hlk
  · exact aw_callV (As := [a0, a1, a2, a3]) hd hB hlk hv hci ho hd1 rfl rfl hcat hM kk
  · exact aw_callVN (As := [a0, a1, a2, a3]) hd hB hlk hv hci ho hd1 rfl rfl hcat hM kk
theorem aw_S4v {a0 a1 a2 a3 : Value} {idx : Nat} (hd : decode M.2.1 pc = .ok (.invokestatic idx, 3)) (hs : am_sS M.1.cls idx M1 4) (hd1 : d1 + 1 ≤ d) (hcat : (st.map fun v => v.category).sum ≤ 8) (hM : AM sc M1 d1 [a0, a1, a2, a3] h none h1) (kk : AW sc M d (pc + 3) L (st) h1 r h') : AW sc M d pc L (a3 :: a2 :: a1 :: a0 :: st) h r h' := by
  obtain ⟨hB, hlk, hv⟩ := hs
  rcases hlk with hlk | hlk
  · exact aw_callS (As := [a0, a1, a2, a3]) hd hB hlk hv hd1 rfl rfl hcat hM kk
  · exact aw_callSN (As := [a0, a1, a2, a3]) hd hB hlk hv hd1 rfl rfl hcat hM kk
theorem aw_I4 {a0 a1 a2 a3 : Value} {o idx : Nat} (hd : decode M.2.1 pc = .ok (.invokespecial idx, 3)) (hs : am_sI M.1.cls idx M1 4) (hd1 : d1 + 1 ≤ d) (hcat : (st.map fun v => v.category).sum ≤ 8) (hM : AM sc M1 d1 (.ref (o + 1) :: [a0, a1, a2, a3]) h none h1) (kk : AW sc M d (pc + 3) L st h1 r h') : AW sc M d pc L (a3 :: a2 :: a1 :: a0 :: .ref (o + 1) :: st) h r h' := by
  obtain ⟨hB, hlk, hv, hret⟩ := hs
  rcases hlk with hlk | hlk
  · exact aw_callI (As := [a0, a1, a2, a3]) hd hB hlk hv hret hd1 rfl rfl hcat hM kk
  · exact aw_callIN (As := [a0, a1, a2, a3]) hd hB hlk hv hret hd1 rfl rfl hcat hM kk
theorem aw_V5 {a0 a1 a2 a3 a4 : Value} {v : Value} {o ci idx : Nat} {fs : List Value} (hd : decode M.2.1 pc = .ok (.invokevirtual idx, 3)) (hs : am_sV M.1.cls idx M1 5 ci) (ho : h[o]? = some (.inr (ci, fs))) (hd1 : d1 + 1 ≤ d) (hcat : (st.map fun v => v.category).sum ≤ 8) (hM : AM sc M1 d1 (.ref (o + 1) :: [a0, a1, a2, a3, a4]) h (some v) h1) (kk : AW sc M d (pc + 3) L (v :: st) h1 r h') : AW sc M d pc L (a4 :: a3 :: a2 :: a1 :: a0 :: .ref (o + 1) :: st) h r h' := by
  obtain ⟨hB, hlk, hv, T, NN, hci⟩ := hs
  rcases hlk with hlk | hlk
  · exact aw_callV (As := [a0, a1, a2, a3, a4]) hd hB hlk hv hci ho hd1 rfl rfl hcat hM kk
  · exact aw_callVN (As := [a0, a1, a2, a3, a4]) hd hB hlk hv hci ho hd1 rfl rfl hcat hM kk
theorem aw_S5 {a0 a1 a2 a3 a4 : Value} {v : Value} {idx : Nat} (hd : decode M.2.1 pc = .ok (.invokestatic idx, 3)) (hs : am_sS M.1.cls idx M1 5) (hd1 : d1 + 1 ≤ d) (hcat : (st.map fun v => v.category).sum ≤ 8) (hM : AM sc M1 d1 [a0, a1, a2, a3, a4] h (some v) h1) (kk : AW sc M d (pc + 3) L (v :: st) h1 r h') : AW sc M d pc L (a4 :: a3 :: a2 :: a1 :: a0 :: st) h r h' := by
  obtain ⟨hB, hlk, hv⟩ := hs
  rcases hlk with hlk | hlk
  · exact aw_callS (As := [a0, a1, a2, a3, a4]) hd hB hlk hv hd1 rfl rfl hcat hM kk
  · exact aw_callSN (As := [a0, a1, a2, a3, a4]) hd hB hlk hv hd1 rfl rfl hcat hM kk
theorem aw_V5v {a0 a1 a2 a3 a4 : Value} {o ci idx : Nat} {fs : List Value} (hd : decode M.2.1 pc = .ok (.invokevirtual idx, 3)) (hs : am_sV M.1.cls idx M1 5 ci) (ho : h[o]? = some (.inr (ci, fs))) (hd1 : d1 + 1 ≤ d) (hcat : (st.map fun v => v.category).sum ≤ 8) (hM : AM sc M1 d1 (.ref (o + 1) :: [a0, a1, a2, a3, a4]) h none h1) (kk : AW sc M d (pc + 3) L (st) h1 r h') : AW sc M d pc L (a4 :: a3 :: a2 :: a1 :: a0 :: .ref (o + 1) :: st) h r h' := by
  obtain ⟨hB, hlk, hv, T, NN, hci⟩ := hs
  rcases hlk with hlk | hlk
  · exact aw_callV (As := [a0, a1, a2, a3, a4]) hd hB hlk hv hci ho hd1 rfl rfl hcat hM kk
  · exact aw_callVN (As := [a0, a1, a2, a3, a4]) hd hB hlk hv hci ho hd1 rfl rfl hcat hM kk
theorem aw_S5v {a0 a1 a2 a3 a4 : Value} {idx : Nat} (hd : decode M.2.1 pc = .ok (.invokestatic idx, 3)) (hs : am_sS M.1.cls idx M1 5) (hd1 : d1 + 1 ≤ d) (hcat : (st.map fun v => v.category).sum ≤ 8) (hM : AM sc M1 d1 [a0, a1, a2, a3, a4] h none h1) (kk : AW sc M d (pc + 3) L (st) h1 r h') : AW sc M d pc L (a4 :: a3 :: a2 :: a1 :: a0 :: st) h r h' := by
  obtain ⟨hB, hlk, hv⟩ := hs
  rcases hlk with hlk | hlk
  · exact aw_callS (As := [a0, a1, a2, a3, a4]) hd hB hlk hv hd1 rfl rfl hcat hM kk
  · exact aw_callSN (As := [a0, a1, a2, a3, a4]) hd hB hlk hv hd1 rfl rfl hcat hM kk
theorem aw_I5 {a0 a1 a2 a3 a4 : Value} {o idx : Nat} (hd : decode M.2.1 pc = .ok (.invokespecial idx, 3)) (hs : am_sI M.1.cls idx M1 5) (hd1 : d1 + 1 ≤ d) (hcat : (st.map fun v => v.category).sum ≤ 8) (hM : AM sc M1 d1 (.ref (o + 1) :: [a0, a1, a2, a3, a4]) h none h1) (kk : AW sc M d (pc + 3) L st h1 r h') : AW sc M d pc L (a4 :: a3 :: a2 :: a1 :: a0 :: .ref (o + 1) :: st) h r h' := by
  obtain ⟨hB, hlk, hv, hret⟩ := hs
  rcases hlk with hlk | hlk
  · exact aw_callI (As := [a0, a1, a2, a3, a4]) hd hB hlk hv hret hd1 rfl rfl hcat hM kk
  · exact aw_callIN (As := [a0, a1, a2, a3, a4]) hd hB hlk hv hret hd1 rfl rfl hcat hM kk
end AMCALL
end
section
theorem iw_W : ∀ w ∈ u_ws "WorksBudget$Works" F_W 15, w ∈ am_T := List.forall_mem_cons.mpr ⟨(am_in1 (i := 76) rfl rfl), List.forall_mem_cons.mpr ⟨(am_in1 (i := 78) rfl rfl), List.forall_mem_cons.mpr ⟨(am_in1 (i := 80) rfl rfl), List.forall_mem_cons.mpr ⟨(am_in1 (i := 82) rfl rfl), List.forall_mem_cons.mpr ⟨(am_in1 (i := 84) rfl rfl), List.forall_mem_cons.mpr ⟨(am_in1 (i := 86) rfl rfl), List.forall_mem_cons.mpr ⟨(am_in1 (i := 88) rfl rfl), List.forall_mem_cons.mpr ⟨(am_in1 (i := 90) rfl rfl), List.forall_mem_cons.mpr ⟨(am_in1 (i := 92) rfl rfl), List.forall_mem_cons.mpr ⟨(am_in1 (i := 94) rfl rfl), List.forall_mem_cons.mpr ⟨(am_in1 (i := 96) rfl rfl), List.forall_mem_cons.mpr ⟨(am_in1 (i := 98) rfl rfl), List.forall_mem_cons.mpr ⟨(am_in1 (i := 100) rfl rfl), List.forall_mem_cons.mpr ⟨(am_in1 (i := 102) rfl rfl), List.forall_mem_cons.mpr ⟨(am_in1 (i := 104) rfl rfl), fun _ h => absurd h List.not_mem_nil⟩⟩⟩⟩⟩⟩⟩⟩⟩⟩⟩⟩⟩⟩⟩
theorem tb_W : am_tb 0 t_W := ⟨_, F_W, 15, rfl, iw_W, by decide +kernel, by decide +kernel⟩
theorem iw_S : ∀ w ∈ u_ws "WorksBudget$Search" F_S 20, w ∈ am_T := List.forall_mem_cons.mpr ⟨(am_in1 (i := 136) rfl rfl), List.forall_mem_cons.mpr ⟨(am_in1 (i := 138) rfl rfl), List.forall_mem_cons.mpr ⟨(am_in1 (i := 140) rfl rfl), List.forall_mem_cons.mpr ⟨(am_in1 (i := 142) rfl rfl), List.forall_mem_cons.mpr ⟨(am_in1 (i := 144) rfl rfl), List.forall_mem_cons.mpr ⟨(am_in1 (i := 146) rfl rfl), List.forall_mem_cons.mpr ⟨(am_in1 (i := 148) rfl rfl), List.forall_mem_cons.mpr ⟨(am_in1 (i := 150) rfl rfl), List.forall_mem_cons.mpr ⟨(am_in1 (i := 152) rfl rfl), List.forall_mem_cons.mpr ⟨(am_in1 (i := 154) rfl rfl), List.forall_mem_cons.mpr ⟨(am_in1 (i := 156) rfl rfl), List.forall_mem_cons.mpr ⟨(am_in1 (i := 158) rfl rfl), List.forall_mem_cons.mpr ⟨(am_in1 (i := 160) rfl rfl), List.forall_mem_cons.mpr ⟨(am_in1 (i := 162) rfl rfl), List.forall_mem_cons.mpr ⟨(am_in1 (i := 164) rfl rfl), List.forall_mem_cons.mpr ⟨(am_in1 (i := 166) rfl rfl), List.forall_mem_cons.mpr ⟨(am_in1 (i := 168) rfl rfl), List.forall_mem_cons.mpr ⟨(am_in1 (i := 170) rfl rfl), List.forall_mem_cons.mpr ⟨(am_in1 (i := 172) rfl rfl), List.forall_mem_cons.mpr ⟨(am_in1 (i := 174) rfl rfl), fun _ h => absurd h List.not_mem_nil⟩⟩⟩⟩⟩⟩⟩⟩⟩⟩⟩⟩⟩⟩⟩⟩⟩⟩⟩⟩
theorem tb_S : am_tb 1 t_S := ⟨_, F_S, 20, rfl, iw_S, by decide +kernel, by decide +kernel⟩
theorem iw_N : ∀ w ∈ u_ws "WorksBudget$Bounds" F_N 1, w ∈ am_T := List.forall_mem_cons.mpr ⟨(am_in1 (i := 184) rfl rfl), fun _ h => absurd h List.not_mem_nil⟩
theorem tb_N : am_tb 2 t_N := ⟨_, F_N, 1, rfl, iw_N, by decide +kernel, by decide +kernel⟩
theorem iw_P : ∀ w ∈ u_ws "WorksBudget$Policies" F_P 2, w ∈ am_T := List.forall_mem_cons.mpr ⟨(am_in1 (i := 195) rfl rfl), List.forall_mem_cons.mpr ⟨(am_in1 (i := 197) rfl rfl), fun _ h => absurd h List.not_mem_nil⟩⟩
theorem tb_P : am_tb 3 t_P := ⟨_, F_P, 2, rfl, iw_P, by decide +kernel, by decide +kernel⟩
theorem iw_B : ∀ w ∈ u_ws "WorksBudget" F_B 11, w ∈ am_T := List.forall_mem_cons.mpr ⟨(am_in1 (i := 211) rfl rfl), List.forall_mem_cons.mpr ⟨(am_in1 (i := 213) rfl rfl), List.forall_mem_cons.mpr ⟨(am_in1 (i := 215) rfl rfl), List.forall_mem_cons.mpr ⟨(am_in1 (i := 217) rfl rfl), List.forall_mem_cons.mpr ⟨(am_in1 (i := 219) rfl rfl), List.forall_mem_cons.mpr ⟨(am_in1 (i := 221) rfl rfl), List.forall_mem_cons.mpr ⟨(am_in1 (i := 223) rfl rfl), List.forall_mem_cons.mpr ⟨(am_in1 (i := 225) rfl rfl), List.forall_mem_cons.mpr ⟨(am_in1 (i := 227) rfl rfl), List.forall_mem_cons.mpr ⟨(am_in1 (i := 229) rfl rfl), List.forall_mem_cons.mpr ⟨(am_in1 (i := 231) rfl rfl), fun _ h => absurd h List.not_mem_nil⟩⟩⟩⟩⟩⟩⟩⟩⟩⟩⟩
theorem tb_B : am_tb 4 t_B := ⟨_, F_B, 11, rfl, iw_B, by decide +kernel, by decide +kernel⟩
theorem iw_M : ∀ w ∈ u_ws "WorksBudgetModel" F_M 23, w ∈ am_T := List.forall_mem_cons.mpr ⟨(am_in3 (i := 151) rfl rfl), List.forall_mem_cons.mpr ⟨(am_in3 (i := 153) rfl rfl), List.forall_mem_cons.mpr ⟨(am_in3 (i := 155) rfl rfl), List.forall_mem_cons.mpr ⟨(am_in3 (i := 157) rfl rfl), List.forall_mem_cons.mpr ⟨(am_in3 (i := 159) rfl rfl), List.forall_mem_cons.mpr ⟨(am_in3 (i := 161) rfl rfl), List.forall_mem_cons.mpr ⟨(am_in3 (i := 163) rfl rfl), List.forall_mem_cons.mpr ⟨(am_in3 (i := 165) rfl rfl), List.forall_mem_cons.mpr ⟨(am_in3 (i := 167) rfl rfl), List.forall_mem_cons.mpr ⟨(am_in3 (i := 169) rfl rfl), List.forall_mem_cons.mpr ⟨(am_in3 (i := 171) rfl rfl), List.forall_mem_cons.mpr ⟨(am_in3 (i := 173) rfl rfl), List.forall_mem_cons.mpr ⟨(am_in3 (i := 175) rfl rfl), List.forall_mem_cons.mpr ⟨(am_in3 (i := 177) rfl rfl), List.forall_mem_cons.mpr ⟨(am_in3 (i := 179) rfl rfl), List.forall_mem_cons.mpr ⟨(am_in3 (i := 181) rfl rfl), List.forall_mem_cons.mpr ⟨(am_in3 (i := 183) rfl rfl), List.forall_mem_cons.mpr ⟨(am_in3 (i := 185) rfl rfl), List.forall_mem_cons.mpr ⟨(am_in3 (i := 187) rfl rfl), List.forall_mem_cons.mpr ⟨(am_in3 (i := 189) rfl rfl), List.forall_mem_cons.mpr ⟨(am_in3 (i := 191) rfl rfl), List.forall_mem_cons.mpr ⟨(am_in3 (i := 193) rfl rfl), List.forall_mem_cons.mpr ⟨(am_in3 (i := 195) rfl rfl), fun _ h => absurd h List.not_mem_nil⟩⟩⟩⟩⟩⟩⟩⟩⟩⟩⟩⟩⟩⟩⟩⟩⟩⟩⟩⟩⟩⟩⟩
theorem tb_M : am_tb 5 t_M := ⟨_, F_M, 23, rfl, iw_M, by decide +kernel, by decide +kernel⟩
def m_B_init : am_M := (⟨"WorksBudget", "<init>", "(I)V"⟩, prog_1_method_1_code, 2, none)
def m_JM_min_III : am_M := (⟨"java/lang/Math", "min", "(II)I"⟩, prog_10_method_69_code, 2, some .int)
def m_JM_max_III : am_M := (⟨"java/lang/Math", "max", "(II)I"⟩, prog_10_method_65_code, 2, some .int)
def m_W_init : am_M := (⟨"WorksBudget$Works", "<init>", "(I)V"⟩, prog_5_method_1_code, 2, none)
def m_S_init : am_M := (⟨"WorksBudget$Search", "<init>", "(LWorksBudget$Works;)V"⟩, prog_4_method_1_code, 2, none)
def m_N_init : am_M := (⟨"WorksBudget$Bounds", "<init>", "(LWorksBudget$Works;)V"⟩, prog_2_method_1_code, 2, none)
def m_P_init : am_M := (⟨"WorksBudget$Policies", "<init>", "(LWorksBudget$Works;)V"⟩, prog_3_method_1_code, 2, none)
def m_B_thing : am_M := (⟨"WorksBudget", "thing", "(I)I"⟩, prog_1_method_2_code, 2, some .int)
def m_B_forget : am_M := (⟨"WorksBudget", "forget", "()V"⟩, prog_1_method_27_code, 1, none)
def m_W_addThing : am_M := (⟨"WorksBudget$Works", "addThing", "(I)I"⟩, prog_5_method_6_code, 2, some .int)
def m_B_choice : am_M := (⟨"WorksBudget", "choice", "(IIJJ)I"⟩, prog_1_method_3_code, 7, some .int)
def m_W_isThing : am_M := (⟨"WorksBudget$Works", "isThing", "(I)Z"⟩, prog_5_method_3_code, 2, some .boolean)
def m_W_isYear : am_M := (⟨"WorksBudget$Works", "isYear", "(I)Z"⟩, prog_5_method_2_code, 2, some .boolean)
def m_B_isWithin : am_M := (⟨"WorksBudget", "isWithin", "(JJ)Z"⟩, prog_1_method_32_code, 4, some .boolean)
def m_W_addChoice : am_M := (⟨"WorksBudget$Works", "addChoice", "(IIJJ)I"⟩, prog_5_method_7_code, 7, some .int)
def m_B_must : am_M := (⟨"WorksBudget", "must", "(I)Z"⟩, prog_1_method_4_code, 2, some .boolean)
def m_W_isChoice : am_M := (⟨"WorksBudget$Works", "isChoice", "(I)Z"⟩, prog_5_method_4_code, 2, some .boolean)
def m_B_isIn : am_M := (⟨"WorksBudget", "isIn", "(II)Z"⟩, prog_1_method_35_code, 2, some .boolean)
def m_B_budget : am_M := (⟨"WorksBudget", "budget", "(IJ)Z"⟩, prog_1_method_5_code, 4, some .boolean)
def m_B_join : am_M := (⟨"WorksBudget", "join", "(IIJ)Z"⟩, prog_1_method_6_code, 5, some .boolean)
def m_W_canJoin : am_M := (⟨"WorksBudget$Works", "canJoin", "(II)Z"⟩, prog_5_method_8_code, 3, some .boolean)
def m_W_addJoin : am_M := (⟨"WorksBudget$Works", "addJoin", "(IIJ)V"⟩, prog_5_method_9_code, 5, none)
def m_B_district : am_M := (⟨"WorksBudget", "district", "(II)Z"⟩, prog_1_method_7_code, 3, some .boolean)
def m_B_isDistrict : am_M := (⟨"WorksBudget", "isDistrict", "(I)Z"⟩, prog_1_method_33_code, 1, some .boolean)
def m_B_fair : am_M := (⟨"WorksBudget", "fair", "(J)Z"⟩, prog_1_method_8_code, 3, some .boolean)
def m_B_run : am_M := (⟨"WorksBudget", "run", "(J)I"⟩, prog_1_method_9_code, 4, some .int)
def m_B_isNodes : am_M := (⟨"WorksBudget", "isNodes", "(J)Z"⟩, prog_1_method_34_code, 2, some .boolean)
def m_S_bestPlan : am_M := (⟨"WorksBudget$Search", "bestPlan", "(J)I"⟩, prog_4_method_2_code, 3, some .int)
def m_S_prepare : am_M := (⟨"WorksBudget$Search", "prepare", "(JI)V"⟩, prog_4_method_6_code, 5, none)
def m_W_usedDistricts : am_M := (⟨"WorksBudget$Works", "usedDistricts", "()I"⟩, prog_5_method_19_code, 3, some .int)
def m_S_prepareRests : am_M := (⟨"WorksBudget$Search", "prepareRests", "()V"⟩, prog_4_method_7_code, 4, none)
def m_W_savesWith : am_M := (⟨"WorksBudget$Works", "savesWith", "(II)J"⟩, prog_5_method_10_code, 7, some .long)
def m_S_lookFrom : am_M := (⟨"WorksBudget$Search", "lookFrom", "(IJ)V"⟩, prog_4_method_8_code, 4, none)
def m_S_isHopeless : am_M := (⟨"WorksBudget$Search", "isHopeless", "(I)Z"⟩, prog_4_method_13_code, 4, some .boolean)
def m_S_countOfChanges : am_M := (⟨"WorksBudget$Search", "countOfChanges", "(I)I"⟩, prog_4_method_14_code, 2, some .int)
def m_JI_bitCount : am_M := (⟨"java/lang/Integer", "bitCount", "(I)I"⟩, prog_8_method_49_code, 1, some .int)
def m_S_weigh : am_M := (⟨"WorksBudget$Search", "weigh", "()V"⟩, prog_4_method_15_code, 2, none)
def m_S_isFair : am_M := (⟨"WorksBudget$Search", "isFair", "()Z"⟩, prog_4_method_17_code, 3, some .boolean)
def m_S_isBetter : am_M := (⟨"WorksBudget$Search", "isBetter", "(I)Z"⟩, prog_4_method_16_code, 2, some .boolean)
def m_S_lookWith : am_M := (⟨"WorksBudget$Search", "lookWith", "(IJ)V"⟩, prog_4_method_9_code, 4, none)
def m_S_pick : am_M := (⟨"WorksBudget$Search", "pick", "(II)V"⟩, prog_4_method_11_code, 6, none)
def m_W_districtOfChoice : am_M := (⟨"WorksBudget$Works", "districtOfChoice", "(I)I"⟩, prog_5_method_17_code, 2, some .int)
def m_S_isOverspent : am_M := (⟨"WorksBudget$Search", "isOverspent", "(I)Z"⟩, prog_4_method_12_code, 3, some .boolean)
def m_S_lookWithout : am_M := (⟨"WorksBudget$Search", "lookWithout", "(IJ)V"⟩, prog_4_method_10_code, 4, none)
def m_W_countOfSets : am_M := (⟨"WorksBudget$Works", "countOfSets", "()I"⟩, prog_5_method_5_code, 1, some .int)
def m_B_chosen : am_M := (⟨"WorksBudget", "chosen", "(I)Z"⟩, prog_1_method_10_code, 2, some .boolean)
def m_B_planOrNothing : am_M := (⟨"WorksBudget", "planOrNothing", "()I"⟩, prog_1_method_28_code, 1, some .int)
def m_B_worth : am_M := (⟨"WorksBudget", "worth", "()J"⟩, prog_1_method_11_code, 1, some .long)
def m_W_worthOfPlan : am_M := (⟨"WorksBudget$Works", "worthOfPlan", "(I)J"⟩, prog_5_method_16_code, 5, some .long)
def m_B_bound : am_M := (⟨"WorksBudget", "bound", "(I)J"⟩, prog_1_method_12_code, 2, some .long)
def m_N_byThings : am_M := (⟨"WorksBudget$Bounds", "byThings", "()J"⟩, prog_2_method_2_code, 4, some .long)
def m_W_mostWorth : am_M := (⟨"WorksBudget$Works", "mostWorth", "(I)J"⟩, prog_5_method_23_code, 2, some .long)
def m_W_mostWorthBy : am_M := (⟨"WorksBudget$Works", "mostWorthBy", "(II)J"⟩, prog_5_method_22_code, 6, some .long)
def m_JM_max_JJJ : am_M := (⟨"java/lang/Math", "max", "(JJ)J"⟩, prog_10_method_66_code, 4, some .long)
def m_N_byPrices : am_M := (⟨"WorksBudget$Bounds", "byPrices", "(J)J"⟩, prog_2_method_3_code, 10, some .long)
def m_N_byPrice : am_M := (⟨"WorksBudget$Bounds", "byPrice", "(JJJ)J"⟩, prog_2_method_4_code, 10, some .long)
def m_N_mostPartsOf : am_M := (⟨"WorksBudget$Bounds", "mostPartsOf", "(IJJ)J"⟩, prog_2_method_5_code, 11, some .long)
def m_W_savesOfAllJoins : am_M := (⟨"WorksBudget$Works", "savesOfAllJoins", "(I)J"⟩, prog_5_method_11_code, 2, some .long)
def m_JM_min_JJJ : am_M := (⟨"java/lang/Math", "min", "(JJ)J"⟩, prog_10_method_70_code, 4, some .long)
def m_B_clash : am_M := (⟨"WorksBudget", "clash", "(I)I"⟩, prog_1_method_13_code, 2, some .int)
def m_S_someHolds : am_M := (⟨"WorksBudget$Search", "someHolds", "(I)Z"⟩, prog_4_method_5_code, 2, some .boolean)
def m_B_clashingMusts : am_M := (⟨"WorksBudget", "clashingMusts", "()I"⟩, prog_1_method_30_code, 4, some .int)
def m_B_memberOf : am_M := (⟨"WorksBudget", "memberOf", "(II)I"⟩, prog_1_method_36_code, 4, some .int)
def m_B_proved : am_M := (⟨"WorksBudget", "proved", "()Z"⟩, prog_1_method_14_code, 1, some .boolean)
def m_B_price : am_M := (⟨"WorksBudget", "price", "(II)J"⟩, prog_1_method_15_code, 3, some .long)
def m_B_gainOfBest : am_M := (⟨"WorksBudget", "gainOfBest", "(I)J"⟩, prog_1_method_29_code, 3, some .long)
def m_S_bestPlanWithMore : am_M := (⟨"WorksBudget$Search", "bestPlanWithMore", "(IJ)I"⟩, prog_4_method_3_code, 4, some .int)
def m_B_old : am_M := (⟨"WorksBudget", "old", "(IZ)Z"⟩, prog_1_method_16_code, 3, some .boolean)
def m_B_changes : am_M := (⟨"WorksBudget", "changes", "(J)I"⟩, prog_1_method_17_code, 3, some .int)
def m_S_nearestPlan : am_M := (⟨"WorksBudget$Search", "nearestPlan", "(JI)I"⟩, prog_4_method_4_code, 4, some .int)
def m_B_changed : am_M := (⟨"WorksBudget", "changed", "(I)I"⟩, prog_1_method_18_code, 2, some .int)
def m_B_backlog : am_M := (⟨"WorksBudget", "backlog", "(I)J"⟩, prog_1_method_19_code, 5, some .long)
def m_W_isDoneBy : am_M := (⟨"WorksBudget$Works", "isDoneBy", "(III)Z"⟩, prog_5_method_21_code, 5, some .boolean)
def m_B_rank : am_M := (⟨"WorksBudget", "rank", "(I)I"⟩, prog_1_method_20_code, 3, some .int)
def m_B_countOfThingsBefore : am_M := (⟨"WorksBudget", "countOfThingsBefore", "(I)I"⟩, prog_1_method_31_code, 4, some .int)
def m_W_ranksBefore : am_M := (⟨"WorksBudget$Works", "ranksBefore", "(II)Z"⟩, prog_5_method_24_code, 7, some .boolean)
def m_B_share : am_M := (⟨"WorksBudget", "share", "(II)J"⟩, prog_1_method_21_code, 9, some .long)
def m_W_worthOfDistrict : am_M := (⟨"WorksBudget$Works", "worthOfDistrict", "(II)J"⟩, prog_5_method_18_code, 6, some .long)
def m_B_greatestDivisor : am_M := (⟨"WorksBudget", "greatestDivisor", "(JJ)J"⟩, prog_1_method_37_code, 11, some .long)
def m_B_policy : am_M := (⟨"WorksBudget", "policy", "(I)I"⟩, prog_1_method_22_code, 2, some .int)
def m_P_planBy : am_M := (⟨"WorksBudget$Policies", "planBy", "(I)I"⟩, prog_3_method_2_code, 5, some .int)
def m_P_isPossible : am_M := (⟨"WorksBudget$Policies", "isPossible", "(I)Z"⟩, prog_3_method_3_code, 2, some .boolean)
def m_W_isPlan : am_M := (⟨"WorksBudget$Works", "isPlan", "(I)Z"⟩, prog_5_method_15_code, 4, some .boolean)
def m_W_isWithinAllBudgets : am_M := (⟨"WorksBudget$Works", "isWithinAllBudgets", "(I)Z"⟩, prog_5_method_14_code, 3, some .boolean)
def m_W_isWithinBudget : am_M := (⟨"WorksBudget$Works", "isWithinBudget", "(II)Z"⟩, prog_5_method_13_code, 3, some .boolean)
def m_W_spentIn : am_M := (⟨"WorksBudget$Works", "spentIn", "(II)J"⟩, prog_5_method_12_code, 7, some .long)
def m_P_putInOrder : am_M := (⟨"WorksBudget$Policies", "putInOrder", "(I)V"⟩, prog_3_method_4_code, 5, none)
def m_P_goesBefore : am_M := (⟨"WorksBudget$Policies", "goesBefore", "(III)Z"⟩, prog_3_method_5_code, 6, some .boolean)
def m_P_leadByWorthByCost : am_M := (⟨"WorksBudget$Policies", "leadByWorthByCost", "(II)J"⟩, prog_3_method_6_code, 7, some .long)
def m_JL_compare : am_M := (⟨"java/lang/Long", "compare", "(JJ)I"⟩, prog_9_method_42_code, 4, some .int)
def m_B_compare : am_M := (⟨"WorksBudget", "compare", "(II)J"⟩, prog_1_method_23_code, 5, some .long)
def m_B_list : am_M := (⟨"WorksBudget", "list", "(II)I"⟩, prog_1_method_24_code, 7, some .int)
def m_W_partOf : am_M := (⟨"WorksBudget$Works", "partOf", "(III)I"⟩, prog_5_method_20_code, 6, some .int)
def m_B_earlier : am_M := (⟨"WorksBudget", "earlier", "(I)I"⟩, prog_1_method_25_code, 4, some .int)
def m_B_holds : am_M := (⟨"WorksBudget", "holds", "(I)Z"⟩, prog_1_method_26_code, 2, some .boolean)
def m_L_cell : am_M := (⟨"WorksBudgetLaw", "cell", "([II)I"⟩, method_2_code, 2, some .int)
def m_M_init : am_M := (⟨"WorksBudgetModel", "<init>", "(I)V"⟩, prog_7_method_1_code, 2, none)
def m_M_thing : am_M := (⟨"WorksBudgetModel", "thing", "(I)I"⟩, prog_7_method_5_code, 2, some .int)
def m_M_in : am_M := (⟨"WorksBudgetModel", "in", "(JJJ)Z"⟩, prog_7_method_3_code, 6, some .boolean)
def m_M_tell : am_M := (⟨"WorksBudgetModel", "tell", "()V"⟩, prog_7_method_2_code, 1, none)
def m_M_choice : am_M := (⟨"WorksBudgetModel", "choice", "(IIJJ)I"⟩, prog_7_method_6_code, 8, some .int)
def m_M_must : am_M := (⟨"WorksBudgetModel", "must", "(I)Z"⟩, prog_7_method_9_code, 2, some .boolean)
def m_M_isChoice : am_M := (⟨"WorksBudgetModel", "isChoice", "(I)Z"⟩, prog_7_method_7_code, 2, some .boolean)
def m_M_has : am_M := (⟨"WorksBudgetModel", "has", "(II)Z"⟩, prog_7_method_4_code, 2, some .boolean)
def m_M_budget : am_M := (⟨"WorksBudgetModel", "budget", "(IJ)Z"⟩, prog_7_method_10_code, 4, some .boolean)
def m_M_isYear : am_M := (⟨"WorksBudgetModel", "isYear", "(I)Z"⟩, prog_7_method_8_code, 2, some .boolean)
def m_M_join : am_M := (⟨"WorksBudgetModel", "join", "(IIJ)Z"⟩, prog_7_method_11_code, 6, some .boolean)
def m_M_district : am_M := (⟨"WorksBudgetModel", "district", "(II)Z"⟩, prog_7_method_12_code, 3, some .boolean)
def m_M_fair : am_M := (⟨"WorksBudgetModel", "fair", "(J)Z"⟩, prog_7_method_13_code, 3, some .boolean)
def m_M_run : am_M := (⟨"WorksBudgetModel", "run", "(J)I"⟩, prog_7_method_24_code, 4, some .int)
def m_M_best : am_M := (⟨"WorksBudgetModel", "best", "(J)I"⟩, prog_7_method_23_code, 6, some .int)
def m_M_setAt : am_M := (⟨"WorksBudgetModel", "setAt", "(I)I"⟩, prog_7_method_14_code, 4, some .int)
def m_M_holdsWith : am_M := (⟨"WorksBudgetModel", "holdsWith", "(II)Z"⟩, prog_7_method_19_code, 3, some .boolean)
def m_M_isPlan : am_M := (⟨"WorksBudgetModel", "isPlan", "(I)Z"⟩, prog_7_method_15_code, 5, some .boolean)
def m_M_isFair : am_M := (⟨"WorksBudgetModel", "isFair", "(I)Z"⟩, prog_7_method_18_code, 8, some .boolean)
def m_M_fits : am_M := (⟨"WorksBudgetModel", "fits", "(I)Z"⟩, prog_7_method_17_code, 4, some .boolean)
def m_M_spentIn : am_M := (⟨"WorksBudgetModel", "spentIn", "(II)J"⟩, prog_7_method_16_code, 6, some .long)
def m_M_isBetter : am_M := (⟨"WorksBudgetModel", "isBetter", "(II)Z"⟩, prog_7_method_22_code, 7, some .boolean)
def m_M_worthOf : am_M := (⟨"WorksBudgetModel", "worthOf", "(I)J"⟩, prog_7_method_20_code, 5, some .long)
def m_M_yearsOf : am_M := (⟨"WorksBudgetModel", "yearsOf", "(I)I"⟩, prog_7_method_21_code, 4, some .int)
def m_M_chosen : am_M := (⟨"WorksBudgetModel", "chosen", "(I)Z"⟩, prog_7_method_25_code, 2, some .boolean)
def m_M_worth : am_M := (⟨"WorksBudgetModel", "worth", "()J"⟩, prog_7_method_26_code, 1, some .long)
def m_M_bound : am_M := (⟨"WorksBudgetModel", "bound", "(I)J"⟩, prog_7_method_30_code, 7, some .long)
def m_M_mostWorth : am_M := (⟨"WorksBudgetModel", "mostWorth", "(II)J"⟩, prog_7_method_27_code, 6, some .long)
def m_M_byPrice : am_M := (⟨"WorksBudgetModel", "byPrice", "(JJ)J"⟩, prog_7_method_29_code, 13, some .long)
def m_M_savedBy : am_M := (⟨"WorksBudgetModel", "savedBy", "(I)J"⟩, prog_7_method_28_code, 5, some .long)
def m_M_clash : am_M := (⟨"WorksBudgetModel", "clash", "(I)I"⟩, prog_7_method_32_code, 5, some .int)
def m_M_someHolds : am_M := (⟨"WorksBudgetModel", "someHolds", "(I)Z"⟩, prog_7_method_31_code, 4, some .boolean)
def m_M_proved : am_M := (⟨"WorksBudgetModel", "proved", "()Z"⟩, prog_7_method_33_code, 1, some .boolean)
def m_M_price : am_M := (⟨"WorksBudgetModel", "price", "(II)J"⟩, prog_7_method_34_code, 7, some .long)
def m_M_old : am_M := (⟨"WorksBudgetModel", "old", "(IZ)Z"⟩, prog_7_method_35_code, 3, some .boolean)
def m_M_changes : am_M := (⟨"WorksBudgetModel", "changes", "(J)I"⟩, prog_7_method_37_code, 7, some .int)
def m_M_differ : am_M := (⟨"WorksBudgetModel", "differ", "(I)I"⟩, prog_7_method_36_code, 4, some .int)
def m_M_changed : am_M := (⟨"WorksBudgetModel", "changed", "(I)I"⟩, prog_7_method_38_code, 4, some .int)
def m_M_backlog : am_M := (⟨"WorksBudgetModel", "backlog", "(I)J"⟩, prog_7_method_39_code, 7, some .long)
def m_M_rank : am_M := (⟨"WorksBudgetModel", "rank", "(I)I"⟩, prog_7_method_40_code, 9, some .int)
def m_M_share : am_M := (⟨"WorksBudgetModel", "share", "(II)J"⟩, prog_7_method_41_code, 13, some .long)
def m_M_policy : am_M := (⟨"WorksBudgetModel", "policy", "(I)I"⟩, prog_7_method_44_code, 2, some .int)
def m_M_planBy : am_M := (⟨"WorksBudgetModel", "planBy", "(I)I"⟩, prog_7_method_43_code, 5, some .int)
def m_M_comesBefore : am_M := (⟨"WorksBudgetModel", "comesBefore", "(III)Z"⟩, prog_7_method_42_code, 8, some .boolean)
def m_M_compare : am_M := (⟨"WorksBudgetModel", "compare", "(II)J"⟩, prog_7_method_45_code, 5, some .long)
def m_M_list : am_M := (⟨"WorksBudgetModel", "list", "(II)I"⟩, prog_7_method_46_code, 6, some .int)
def m_M_earlier : am_M := (⟨"WorksBudgetModel", "earlier", "(I)I"⟩, prog_7_method_47_code, 4, some .int)
def m_M_holds : am_M := (⟨"WorksBudgetModel", "holds", "(I)Z"⟩, prog_7_method_48_code, 2, some .boolean)
def m_L_law : am_M := (⟨"WorksBudgetLaw", "law", "([I)Z"⟩, code, 4, some .boolean)
theorem fl_W_48 : am_fl "WorksBudget$Works" 48 0 0 := ⟨_, F_W, 15, rfl, by decide, iw_W, (am_in1 (i := 33) rfl rfl), rfl⟩
theorem fl_N_23 : am_fl "WorksBudget$Bounds" 23 0 0 := ⟨_, F_W, 15, rfl, by decide, iw_W, (am_in1 (i := 34) rfl rfl), rfl⟩
theorem fl_B_209 : am_fl "WorksBudget" 209 0 0 := ⟨_, F_W, 15, rfl, by decide, iw_W, (am_in1 (i := 35) rfl rfl), rfl⟩
theorem fl_W_9 : am_fl "WorksBudget$Works" 9 0 1 := ⟨_, F_W, 15, rfl, by decide, iw_W, (am_in1 (i := 36) rfl rfl), rfl⟩
theorem fl_N_26 : am_fl "WorksBudget$Bounds" 26 0 1 := ⟨_, F_W, 15, rfl, by decide, iw_W, (am_in1 (i := 37) rfl rfl), rfl⟩
theorem fl_B_96 : am_fl "WorksBudget" 96 0 1 := ⟨_, F_W, 15, rfl, by decide, iw_W, (am_in1 (i := 38) rfl rfl), rfl⟩
theorem fl_S_88 : am_fl "WorksBudget$Search" 88 0 1 := ⟨_, F_W, 15, rfl, by decide, iw_W, (am_in1 (i := 39) rfl rfl), rfl⟩
theorem fl_N_13 : am_fl "WorksBudget$Bounds" 13 0 2 := ⟨_, F_W, 15, rfl, by decide, iw_W, (am_in1 (i := 40) rfl rfl), rfl⟩
theorem fl_B_54 : am_fl "WorksBudget" 54 0 2 := ⟨_, F_W, 15, rfl, by decide, iw_W, (am_in1 (i := 41) rfl rfl), rfl⟩
theorem fl_W_52 : am_fl "WorksBudget$Works" 52 0 2 := ⟨_, F_W, 15, rfl, by decide, iw_W, (am_in1 (i := 42) rfl rfl), rfl⟩
theorem fl_W_15 : am_fl "WorksBudget$Works" 15 0 3 := ⟨_, F_W, 15, rfl, by decide, iw_W, (am_in1 (i := 43) rfl rfl), rfl⟩
theorem fl_W_19 : am_fl "WorksBudget$Works" 19 0 4 := ⟨_, F_W, 15, rfl, by decide, iw_W, (am_in1 (i := 44) rfl rfl), rfl⟩
theorem fl_B_113 : am_fl "WorksBudget" 113 0 4 := ⟨_, F_W, 15, rfl, by decide, iw_W, (am_in1 (i := 45) rfl rfl), rfl⟩
theorem fl_P_33 : am_fl "WorksBudget$Policies" 33 0 5 := ⟨_, F_W, 15, rfl, by decide, iw_W, (am_in1 (i := 46) rfl rfl), rfl⟩
theorem fl_B_71 : am_fl "WorksBudget" 71 0 5 := ⟨_, F_W, 15, rfl, by decide, iw_W, (am_in1 (i := 47) rfl rfl), rfl⟩
theorem fl_N_34 : am_fl "WorksBudget$Bounds" 34 0 5 := ⟨_, F_W, 15, rfl, by decide, iw_W, (am_in1 (i := 48) rfl rfl), rfl⟩
theorem fl_W_55 : am_fl "WorksBudget$Works" 55 0 5 := ⟨_, F_W, 15, rfl, by decide, iw_W, (am_in1 (i := 49) rfl rfl), rfl⟩
theorem fl_S_94 : am_fl "WorksBudget$Search" 94 0 5 := ⟨_, F_W, 15, rfl, by decide, iw_W, (am_in1 (i := 50) rfl rfl), rfl⟩
theorem fl_W_22 : am_fl "WorksBudget$Works" 22 0 6 := ⟨_, F_W, 15, rfl, by decide, iw_W, (am_in1 (i := 51) rfl rfl), rfl⟩
theorem fl_N_53 : am_fl "WorksBudget$Bounds" 53 0 6 := ⟨_, F_W, 15, rfl, by decide, iw_W, (am_in1 (i := 52) rfl rfl), rfl⟩
theorem fl_S_121 : am_fl "WorksBudget$Search" 121 0 6 := ⟨_, F_W, 15, rfl, by decide, iw_W, (am_in1 (i := 53) rfl rfl), rfl⟩
theorem fl_W_25 : am_fl "WorksBudget$Works" 25 0 7 := ⟨_, F_W, 15, rfl, by decide, iw_W, (am_in1 (i := 54) rfl rfl), rfl⟩
theorem fl_P_54 : am_fl "WorksBudget$Policies" 54 0 7 := ⟨_, F_W, 15, rfl, by decide, iw_W, (am_in1 (i := 55) rfl rfl), rfl⟩
theorem fl_S_100 : am_fl "WorksBudget$Search" 100 0 7 := ⟨_, F_W, 15, rfl, by decide, iw_W, (am_in1 (i := 56) rfl rfl), rfl⟩
theorem fl_B_216 : am_fl "WorksBudget" 216 0 7 := ⟨_, F_W, 15, rfl, by decide, iw_W, (am_in1 (i := 57) rfl rfl), rfl⟩
theorem fl_W_28 : am_fl "WorksBudget$Works" 28 0 8 := ⟨_, F_W, 15, rfl, by decide, iw_W, (am_in1 (i := 58) rfl rfl), rfl⟩
theorem fl_N_37 : am_fl "WorksBudget$Bounds" 37 0 8 := ⟨_, F_W, 15, rfl, by decide, iw_W, (am_in1 (i := 59) rfl rfl), rfl⟩
theorem fl_P_57 : am_fl "WorksBudget$Policies" 57 0 8 := ⟨_, F_W, 15, rfl, by decide, iw_W, (am_in1 (i := 60) rfl rfl), rfl⟩
theorem fl_S_135 : am_fl "WorksBudget$Search" 135 0 8 := ⟨_, F_W, 15, rfl, by decide, iw_W, (am_in1 (i := 61) rfl rfl), rfl⟩
theorem fl_W_31 : am_fl "WorksBudget$Works" 31 0 9 := ⟨_, F_W, 15, rfl, by decide, iw_W, (am_in1 (i := 62) rfl rfl), rfl⟩
theorem fl_N_40 : am_fl "WorksBudget$Bounds" 40 0 9 := ⟨_, F_W, 15, rfl, by decide, iw_W, (am_in1 (i := 63) rfl rfl), rfl⟩
theorem fl_P_50 : am_fl "WorksBudget$Policies" 50 0 9 := ⟨_, F_W, 15, rfl, by decide, iw_W, (am_in1 (i := 64) rfl rfl), rfl⟩
theorem fl_S_97 : am_fl "WorksBudget$Search" 97 0 9 := ⟨_, F_W, 15, rfl, by decide, iw_W, (am_in1 (i := 65) rfl rfl), rfl⟩
theorem fl_P_19 : am_fl "WorksBudget$Policies" 19 0 10 := ⟨_, F_W, 15, rfl, by decide, iw_W, (am_in1 (i := 66) rfl rfl), rfl⟩
theorem fl_S_33 : am_fl "WorksBudget$Search" 33 0 10 := ⟨_, F_W, 15, rfl, by decide, iw_W, (am_in1 (i := 67) rfl rfl), rfl⟩
theorem fl_B_87 : am_fl "WorksBudget" 87 0 10 := ⟨_, F_W, 15, rfl, by decide, iw_W, (am_in1 (i := 68) rfl rfl), rfl⟩
theorem fl_B_103 : am_fl "WorksBudget" 103 0 11 := ⟨_, F_W, 15, rfl, by decide, iw_W, (am_in1 (i := 69) rfl rfl), rfl⟩
theorem fl_W_62 : am_fl "WorksBudget$Works" 62 0 11 := ⟨_, F_W, 15, rfl, by decide, iw_W, (am_in1 (i := 70) rfl rfl), rfl⟩
theorem fl_W_34 : am_fl "WorksBudget$Works" 34 0 12 := ⟨_, F_W, 15, rfl, by decide, iw_W, (am_in1 (i := 71) rfl rfl), rfl⟩
theorem fl_W_39 : am_fl "WorksBudget$Works" 39 0 13 := ⟨_, F_W, 15, rfl, by decide, iw_W, (am_in1 (i := 72) rfl rfl), rfl⟩
theorem fl_W_44 : am_fl "WorksBudget$Works" 44 0 14 := ⟨_, F_W, 15, rfl, by decide, iw_W, (am_in1 (i := 73) rfl rfl), rfl⟩
theorem fl_B_121 : am_fl "WorksBudget" 121 0 14 := ⟨_, F_W, 15, rfl, by decide, iw_W, (am_in1 (i := 74) rfl rfl), rfl⟩
theorem fl_S_166 : am_fl "WorksBudget$Search" 166 0 14 := ⟨_, F_W, 15, rfl, by decide, iw_W, (am_in1 (i := 75) rfl rfl), rfl⟩
theorem fl_S_29 : am_fl "WorksBudget$Search" 29 1 0 := ⟨_, F_S, 20, rfl, by decide, iw_S, (am_in1 (i := 116) rfl rfl), rfl⟩
theorem fl_S_66 : am_fl "WorksBudget$Search" 66 1 1 := ⟨_, F_S, 20, rfl, by decide, iw_S, (am_in1 (i := 117) rfl rfl), rfl⟩
theorem fl_S_70 : am_fl "WorksBudget$Search" 70 1 2 := ⟨_, F_S, 20, rfl, by decide, iw_S, (am_in1 (i := 118) rfl rfl), rfl⟩
theorem fl_S_52 : am_fl "WorksBudget$Search" 52 1 3 := ⟨_, F_S, 20, rfl, by decide, iw_S, (am_in1 (i := 119) rfl rfl), rfl⟩
theorem fl_S_59 : am_fl "WorksBudget$Search" 59 1 4 := ⟨_, F_S, 20, rfl, by decide, iw_S, (am_in1 (i := 120) rfl rfl), rfl⟩
theorem fl_S_62 : am_fl "WorksBudget$Search" 62 1 5 := ⟨_, F_S, 20, rfl, by decide, iw_S, (am_in1 (i := 121) rfl rfl), rfl⟩
theorem fl_S_74 : am_fl "WorksBudget$Search" 74 1 6 := ⟨_, F_S, 20, rfl, by decide, iw_S, (am_in1 (i := 122) rfl rfl), rfl⟩
theorem fl_S_9 : am_fl "WorksBudget$Search" 9 1 7 := ⟨_, F_S, 20, rfl, by decide, iw_S, (am_in1 (i := 123) rfl rfl), rfl⟩
theorem fl_S_17 : am_fl "WorksBudget$Search" 17 1 8 := ⟨_, F_S, 20, rfl, by decide, iw_S, (am_in1 (i := 124) rfl rfl), rfl⟩
theorem fl_S_20 : am_fl "WorksBudget$Search" 20 1 9 := ⟨_, F_S, 20, rfl, by decide, iw_S, (am_in1 (i := 125) rfl rfl), rfl⟩
theorem fl_S_76 : am_fl "WorksBudget$Search" 76 1 10 := ⟨_, F_S, 20, rfl, by decide, iw_S, (am_in1 (i := 126) rfl rfl), rfl⟩
theorem fl_S_79 : am_fl "WorksBudget$Search" 79 1 11 := ⟨_, F_S, 20, rfl, by decide, iw_S, (am_in1 (i := 127) rfl rfl), rfl⟩
theorem fl_S_82 : am_fl "WorksBudget$Search" 82 1 12 := ⟨_, F_S, 20, rfl, by decide, iw_S, (am_in1 (i := 128) rfl rfl), rfl⟩
theorem fl_S_85 : am_fl "WorksBudget$Search" 85 1 13 := ⟨_, F_S, 20, rfl, by decide, iw_S, (am_in1 (i := 129) rfl rfl), rfl⟩
theorem fl_S_23 : am_fl "WorksBudget$Search" 23 1 14 := ⟨_, F_S, 20, rfl, by decide, iw_S, (am_in1 (i := 130) rfl rfl), rfl⟩
theorem fl_S_26 : am_fl "WorksBudget$Search" 26 1 15 := ⟨_, F_S, 20, rfl, by decide, iw_S, (am_in1 (i := 131) rfl rfl), rfl⟩
theorem fl_S_47 : am_fl "WorksBudget$Search" 47 1 16 := ⟨_, F_S, 20, rfl, by decide, iw_S, (am_in1 (i := 132) rfl rfl), rfl⟩
theorem fl_S_145 : am_fl "WorksBudget$Search" 145 1 17 := ⟨_, F_S, 20, rfl, by decide, iw_S, (am_in1 (i := 133) rfl rfl), rfl⟩
theorem fl_S_148 : am_fl "WorksBudget$Search" 148 1 18 := ⟨_, F_S, 20, rfl, by decide, iw_S, (am_in1 (i := 134) rfl rfl), rfl⟩
theorem fl_S_163 : am_fl "WorksBudget$Search" 163 1 19 := ⟨_, F_S, 20, rfl, by decide, iw_S, (am_in1 (i := 135) rfl rfl), rfl⟩
theorem fl_N_7 : am_fl "WorksBudget$Bounds" 7 2 0 := ⟨_, F_N, 1, rfl, by decide, iw_N, (am_in1 (i := 183) rfl rfl), rfl⟩
theorem fl_P_15 : am_fl "WorksBudget$Policies" 15 3 0 := ⟨_, F_P, 2, rfl, by decide, iw_P, (am_in1 (i := 193) rfl rfl), rfl⟩
theorem fl_P_9 : am_fl "WorksBudget$Policies" 9 3 1 := ⟨_, F_P, 2, rfl, by decide, iw_P, (am_in1 (i := 194) rfl rfl), rfl⟩
theorem fl_B_23 : am_fl "WorksBudget" 23 4 0 := ⟨_, F_B, 11, rfl, by decide, iw_B, (am_in1 (i := 200) rfl rfl), rfl⟩
theorem fl_B_32 : am_fl "WorksBudget" 32 4 1 := ⟨_, F_B, 11, rfl, by decide, iw_B, (am_in1 (i := 201) rfl rfl), rfl⟩
theorem fl_B_39 : am_fl "WorksBudget" 39 4 2 := ⟨_, F_B, 11, rfl, by decide, iw_B, (am_in1 (i := 202) rfl rfl), rfl⟩
theorem fl_B_46 : am_fl "WorksBudget" 46 4 3 := ⟨_, F_B, 11, rfl, by decide, iw_B, (am_in1 (i := 203) rfl rfl), rfl⟩
theorem fl_B_50 : am_fl "WorksBudget" 50 4 4 := ⟨_, F_B, 11, rfl, by decide, iw_B, (am_in1 (i := 204) rfl rfl), rfl⟩
theorem fl_B_176 : am_fl "WorksBudget" 176 4 5 := ⟨_, F_B, 11, rfl, by decide, iw_B, (am_in1 (i := 205) rfl rfl), rfl⟩
theorem fl_B_137 : am_fl "WorksBudget" 137 4 6 := ⟨_, F_B, 11, rfl, by decide, iw_B, (am_in1 (i := 206) rfl rfl), rfl⟩
theorem fl_B_222 : am_fl "WorksBudget" 222 4 7 := ⟨_, F_B, 11, rfl, by decide, iw_B, (am_in1 (i := 207) rfl rfl), rfl⟩
theorem fl_B_227 : am_fl "WorksBudget" 227 4 8 := ⟨_, F_B, 11, rfl, by decide, iw_B, (am_in1 (i := 208) rfl rfl), rfl⟩
theorem fl_B_156 : am_fl "WorksBudget" 156 4 9 := ⟨_, F_B, 11, rfl, by decide, iw_B, (am_in1 (i := 209) rfl rfl), rfl⟩
theorem fl_B_165 : am_fl "WorksBudget" 165 4 10 := ⟨_, F_B, 11, rfl, by decide, iw_B, (am_in1 (i := 210) rfl rfl), rfl⟩
theorem fl_M_63 : am_fl "WorksBudgetModel" 63 5 0 := ⟨_, F_M, 23, rfl, by decide, iw_M, (am_in3 (i := 128) rfl rfl), rfl⟩
theorem fl_M_76 : am_fl "WorksBudgetModel" 76 5 1 := ⟨_, F_M, 23, rfl, by decide, iw_M, (am_in3 (i := 129) rfl rfl), rfl⟩
theorem fl_M_7 : am_fl "WorksBudgetModel" 7 5 2 := ⟨_, F_M, 23, rfl, by decide, iw_M, (am_in3 (i := 130) rfl rfl), rfl⟩
theorem fl_M_13 : am_fl "WorksBudgetModel" 13 5 3 := ⟨_, F_M, 23, rfl, by decide, iw_M, (am_in3 (i := 131) rfl rfl), rfl⟩
theorem fl_M_84 : am_fl "WorksBudgetModel" 84 5 4 := ⟨_, F_M, 23, rfl, by decide, iw_M, (am_in3 (i := 132) rfl rfl), rfl⟩
theorem fl_M_16 : am_fl "WorksBudgetModel" 16 5 5 := ⟨_, F_M, 23, rfl, by decide, iw_M, (am_in3 (i := 133) rfl rfl), rfl⟩
theorem fl_M_19 : am_fl "WorksBudgetModel" 19 5 6 := ⟨_, F_M, 23, rfl, by decide, iw_M, (am_in3 (i := 134) rfl rfl), rfl⟩
theorem fl_M_22 : am_fl "WorksBudgetModel" 22 5 7 := ⟨_, F_M, 23, rfl, by decide, iw_M, (am_in3 (i := 135) rfl rfl), rfl⟩
theorem fl_M_26 : am_fl "WorksBudgetModel" 26 5 8 := ⟨_, F_M, 23, rfl, by decide, iw_M, (am_in3 (i := 136) rfl rfl), rfl⟩
theorem fl_M_91 : am_fl "WorksBudgetModel" 91 5 9 := ⟨_, F_M, 23, rfl, by decide, iw_M, (am_in3 (i := 137) rfl rfl), rfl⟩
theorem fl_M_29 : am_fl "WorksBudgetModel" 29 5 10 := ⟨_, F_M, 23, rfl, by decide, iw_M, (am_in3 (i := 138) rfl rfl), rfl⟩
theorem fl_M_103 : am_fl "WorksBudgetModel" 103 5 11 := ⟨_, F_M, 23, rfl, by decide, iw_M, (am_in3 (i := 139) rfl rfl), rfl⟩
theorem fl_M_32 : am_fl "WorksBudgetModel" 32 5 12 := ⟨_, F_M, 23, rfl, by decide, iw_M, (am_in3 (i := 140) rfl rfl), rfl⟩
theorem fl_M_35 : am_fl "WorksBudgetModel" 35 5 13 := ⟨_, F_M, 23, rfl, by decide, iw_M, (am_in3 (i := 141) rfl rfl), rfl⟩
theorem fl_M_38 : am_fl "WorksBudgetModel" 38 5 14 := ⟨_, F_M, 23, rfl, by decide, iw_M, (am_in3 (i := 142) rfl rfl), rfl⟩
theorem fl_M_43 : am_fl "WorksBudgetModel" 43 5 15 := ⟨_, F_M, 23, rfl, by decide, iw_M, (am_in3 (i := 143) rfl rfl), rfl⟩
theorem fl_M_47 : am_fl "WorksBudgetModel" 47 5 16 := ⟨_, F_M, 23, rfl, by decide, iw_M, (am_in3 (i := 144) rfl rfl), rfl⟩
theorem fl_M_164 : am_fl "WorksBudgetModel" 164 5 17 := ⟨_, F_M, 23, rfl, by decide, iw_M, (am_in3 (i := 145) rfl rfl), rfl⟩
theorem fl_M_66 : am_fl "WorksBudgetModel" 66 5 18 := ⟨_, F_M, 23, rfl, by decide, iw_M, (am_in3 (i := 146) rfl rfl), rfl⟩
theorem fl_M_51 : am_fl "WorksBudgetModel" 51 5 19 := ⟨_, F_M, 23, rfl, by decide, iw_M, (am_in3 (i := 147) rfl rfl), rfl⟩
theorem fl_M_54 : am_fl "WorksBudgetModel" 54 5 20 := ⟨_, F_M, 23, rfl, by decide, iw_M, (am_in3 (i := 148) rfl rfl), rfl⟩
theorem fl_M_57 : am_fl "WorksBudgetModel" 57 5 21 := ⟨_, F_M, 23, rfl, by decide, iw_M, (am_in3 (i := 149) rfl rfl), rfl⟩
theorem fl_M_60 : am_fl "WorksBudgetModel" 60 5 22 := ⟨_, F_M, 23, rfl, by decide, iw_M, (am_in3 (i := 150) rfl rfl), rfl⟩
theorem fi_W_0 : am_fin 0 0 true := ⟨_, F_W, 15, rfl, rfl⟩
theorem fi_W_1 : am_fin 0 1 true := ⟨_, F_W, 15, rfl, rfl⟩
theorem fi_W_2 : am_fin 0 2 false := ⟨_, F_W, 15, rfl, rfl⟩
theorem fi_W_3 : am_fin 0 3 true := ⟨_, F_W, 15, rfl, rfl⟩
theorem fi_W_4 : am_fin 0 4 true := ⟨_, F_W, 15, rfl, rfl⟩
theorem fi_W_5 : am_fin 0 5 false := ⟨_, F_W, 15, rfl, rfl⟩
theorem fi_W_6 : am_fin 0 6 true := ⟨_, F_W, 15, rfl, rfl⟩
theorem fi_W_7 : am_fin 0 7 true := ⟨_, F_W, 15, rfl, rfl⟩
theorem fi_W_8 : am_fin 0 8 true := ⟨_, F_W, 15, rfl, rfl⟩
theorem fi_W_9 : am_fin 0 9 true := ⟨_, F_W, 15, rfl, rfl⟩
theorem fi_W_10 : am_fin 0 10 false := ⟨_, F_W, 15, rfl, rfl⟩
theorem fi_W_11 : am_fin 0 11 false := ⟨_, F_W, 15, rfl, rfl⟩
theorem fi_W_12 : am_fin 0 12 true := ⟨_, F_W, 15, rfl, rfl⟩
theorem fi_W_13 : am_fin 0 13 true := ⟨_, F_W, 15, rfl, rfl⟩
theorem fi_W_14 : am_fin 0 14 false := ⟨_, F_W, 15, rfl, rfl⟩
theorem fi_S_0 : am_fin 1 0 true := ⟨_, F_S, 20, rfl, rfl⟩
theorem fi_S_1 : am_fin 1 1 false := ⟨_, F_S, 20, rfl, rfl⟩
theorem fi_S_2 : am_fin 1 2 false := ⟨_, F_S, 20, rfl, rfl⟩
theorem fi_S_3 : am_fin 1 3 false := ⟨_, F_S, 20, rfl, rfl⟩
theorem fi_S_4 : am_fin 1 4 false := ⟨_, F_S, 20, rfl, rfl⟩
theorem fi_S_5 : am_fin 1 5 false := ⟨_, F_S, 20, rfl, rfl⟩
theorem fi_S_6 : am_fin 1 6 false := ⟨_, F_S, 20, rfl, rfl⟩
theorem fi_S_7 : am_fin 1 7 true := ⟨_, F_S, 20, rfl, rfl⟩
theorem fi_S_8 : am_fin 1 8 true := ⟨_, F_S, 20, rfl, rfl⟩
theorem fi_S_9 : am_fin 1 9 true := ⟨_, F_S, 20, rfl, rfl⟩
theorem fi_S_10 : am_fin 1 10 false := ⟨_, F_S, 20, rfl, rfl⟩
theorem fi_S_11 : am_fin 1 11 false := ⟨_, F_S, 20, rfl, rfl⟩
theorem fi_S_12 : am_fin 1 12 false := ⟨_, F_S, 20, rfl, rfl⟩
theorem fi_S_13 : am_fin 1 13 false := ⟨_, F_S, 20, rfl, rfl⟩
theorem fi_S_14 : am_fin 1 14 true := ⟨_, F_S, 20, rfl, rfl⟩
theorem fi_S_15 : am_fin 1 15 true := ⟨_, F_S, 20, rfl, rfl⟩
theorem fi_S_16 : am_fin 1 16 false := ⟨_, F_S, 20, rfl, rfl⟩
theorem fi_S_17 : am_fin 1 17 false := ⟨_, F_S, 20, rfl, rfl⟩
theorem fi_S_18 : am_fin 1 18 false := ⟨_, F_S, 20, rfl, rfl⟩
theorem fi_S_19 : am_fin 1 19 false := ⟨_, F_S, 20, rfl, rfl⟩
theorem fi_N_0 : am_fin 2 0 true := ⟨_, F_N, 1, rfl, rfl⟩
theorem fi_P_0 : am_fin 3 0 true := ⟨_, F_P, 2, rfl, rfl⟩
theorem fi_P_1 : am_fin 3 1 true := ⟨_, F_P, 2, rfl, rfl⟩
theorem fi_B_0 : am_fin 4 0 true := ⟨_, F_B, 11, rfl, rfl⟩
theorem fi_B_1 : am_fin 4 1 true := ⟨_, F_B, 11, rfl, rfl⟩
theorem fi_B_2 : am_fin 4 2 true := ⟨_, F_B, 11, rfl, rfl⟩
theorem fi_B_3 : am_fin 4 3 true := ⟨_, F_B, 11, rfl, rfl⟩
theorem fi_B_4 : am_fin 4 4 false := ⟨_, F_B, 11, rfl, rfl⟩
theorem fi_B_5 : am_fin 4 5 false := ⟨_, F_B, 11, rfl, rfl⟩
theorem fi_B_6 : am_fin 4 6 false := ⟨_, F_B, 11, rfl, rfl⟩
theorem fi_B_7 : am_fin 4 7 false := ⟨_, F_B, 11, rfl, rfl⟩
theorem fi_B_8 : am_fin 4 8 false := ⟨_, F_B, 11, rfl, rfl⟩
theorem fi_B_9 : am_fin 4 9 false := ⟨_, F_B, 11, rfl, rfl⟩
theorem fi_B_10 : am_fin 4 10 false := ⟨_, F_B, 11, rfl, rfl⟩
theorem fi_M_0 : am_fin 5 0 true := ⟨_, F_M, 23, rfl, rfl⟩
theorem fi_M_1 : am_fin 5 1 false := ⟨_, F_M, 23, rfl, rfl⟩
theorem fi_M_2 : am_fin 5 2 true := ⟨_, F_M, 23, rfl, rfl⟩
theorem fi_M_3 : am_fin 5 3 true := ⟨_, F_M, 23, rfl, rfl⟩
theorem fi_M_4 : am_fin 5 4 false := ⟨_, F_M, 23, rfl, rfl⟩
theorem fi_M_5 : am_fin 5 5 true := ⟨_, F_M, 23, rfl, rfl⟩
theorem fi_M_6 : am_fin 5 6 true := ⟨_, F_M, 23, rfl, rfl⟩
theorem fi_M_7 : am_fin 5 7 true := ⟨_, F_M, 23, rfl, rfl⟩
theorem fi_M_8 : am_fin 5 8 true := ⟨_, F_M, 23, rfl, rfl⟩
theorem fi_M_9 : am_fin 5 9 false := ⟨_, F_M, 23, rfl, rfl⟩
theorem fi_M_10 : am_fin 5 10 true := ⟨_, F_M, 23, rfl, rfl⟩
theorem fi_M_11 : am_fin 5 11 false := ⟨_, F_M, 23, rfl, rfl⟩
theorem fi_M_12 : am_fin 5 12 true := ⟨_, F_M, 23, rfl, rfl⟩
theorem fi_M_13 : am_fin 5 13 true := ⟨_, F_M, 23, rfl, rfl⟩
theorem fi_M_14 : am_fin 5 14 true := ⟨_, F_M, 23, rfl, rfl⟩
theorem fi_M_15 : am_fin 5 15 false := ⟨_, F_M, 23, rfl, rfl⟩
theorem fi_M_16 : am_fin 5 16 false := ⟨_, F_M, 23, rfl, rfl⟩
theorem fi_M_17 : am_fin 5 17 false := ⟨_, F_M, 23, rfl, rfl⟩
theorem fi_M_18 : am_fin 5 18 false := ⟨_, F_M, 23, rfl, rfl⟩
theorem fi_M_19 : am_fin 5 19 true := ⟨_, F_M, 23, rfl, rfl⟩
theorem fi_M_20 : am_fin 5 20 true := ⟨_, F_M, 23, rfl, rfl⟩
theorem fi_M_21 : am_fin 5 21 true := ⟨_, F_M, 23, rfl, rfl⟩
theorem fi_M_22 : am_fin 5 22 true := ⟨_, F_M, 23, rfl, rfl⟩
theorem ow_W : ∀ (C : String) (T : u_T) (N : Nat), am_cl[0]? = some (C, T, N) → C = "WorksBudget$Works" := fun C T N h => by cases h; rfl
theorem ow_S : ∀ (C : String) (T : u_T) (N : Nat), am_cl[1]? = some (C, T, N) → C = "WorksBudget$Search" := fun C T N h => by cases h; rfl
theorem ow_N : ∀ (C : String) (T : u_T) (N : Nat), am_cl[2]? = some (C, T, N) → C = "WorksBudget$Bounds" := fun C T N h => by cases h; rfl
theorem ow_P : ∀ (C : String) (T : u_T) (N : Nat), am_cl[3]? = some (C, T, N) → C = "WorksBudget$Policies" := fun C T N h => by cases h; rfl
theorem ow_B : ∀ (C : String) (T : u_T) (N : Nat), am_cl[4]? = some (C, T, N) → C = "WorksBudget" := fun C T N h => by cases h; rfl
theorem ow_M : ∀ (C : String) (T : u_T) (N : Nat), am_cl[5]? = some (C, T, N) → C = "WorksBudgetModel" := fun C T N h => by cases h; rfl
theorem fc_L_7 : am_fc "WorksBudgetLaw" 7 4 [.null, .null, .null, .null, .int 0, .int 0, .int 0, .int 0, .int 0, .int 0, .int 0] := ⟨_, F_B, 11, t_B, rfl, iw_B, by decide +kernel, (am_in1 (i := 10) rfl rfl), (am_in1 (i := 11) rfl rfl), (am_in1 (i := 1) rfl rfl), rfl⟩
theorem fc_B_9 : am_fc "WorksBudget" 9 0 [.int 0, .null, .int 0, .null, .null, .int 0, .null, .null, .null, .null, .int 0, .int 0, .null, .null, .long 0] := ⟨_, F_W, 15, t_W, rfl, iw_W, by decide +kernel, (am_in1 (i := 18) rfl rfl), (am_in1 (i := 19) rfl rfl), (am_in1 (i := 2) rfl rfl), rfl⟩
theorem fc_B_27 : am_fc "WorksBudget" 27 1 [.null, .long 0, .int 0, .int 0, .int 0, .int 0, .int 0, .null, .null, .null, .int 0, .int 0, .int 0, .long 0, .null, .null, .int 0, .int 0, .long 0, .int 0] := ⟨_, F_S, 20, t_S, rfl, iw_S, by decide +kernel, (am_in1 (i := 109) rfl rfl), (am_in1 (i := 110) rfl rfl), (am_in1 (i := 4) rfl rfl), rfl⟩
theorem fc_B_36 : am_fc "WorksBudget" 36 2 [.null] := ⟨_, F_N, 1, t_N, rfl, iw_N, by decide +kernel, (am_in1 (i := 177) rfl rfl), (am_in1 (i := 178) rfl rfl), (am_in1 (i := 5) rfl rfl), rfl⟩
theorem fc_B_43 : am_fc "WorksBudget" 43 3 [.null, .null] := ⟨_, F_P, 2, t_P, rfl, iw_P, by decide +kernel, (am_in1 (i := 187) rfl rfl), (am_in1 (i := 188) rfl rfl), (am_in1 (i := 6) rfl rfl), rfl⟩
theorem fc_L_18 : am_fc "WorksBudgetLaw" 18 5 [.int 0, .int 0, .null, .null, .int 0, .null, .null, .null, .null, .int 0, .null, .int 0, .null, .null, .null, .long 0, .int 0, .int 0, .int 0, .null, .null, .null, .null] := ⟨_, F_M, 23, t_M, rfl, iw_M, by decide +kernel, (am_in3 (i := 121) rfl rfl), (am_in3 (i := 122) rfl rfl), (am_in1 (i := 7) rfl rfl), rfl⟩
theorem st_L_15 : am_sI "WorksBudgetLaw" 15 m_B_init 1 := ⟨⟨(am_in1 (i := 14) rfl rfl), (am_in1 (i := 1) rfl rfl), ⟨by decide, by decide, by decide +kernel⟩, by decide⟩, Or.inl (am_in1 (i := 12) rfl rfl), ⟨rfl, (am_in1 (i := 13) rfl rfl)⟩, rfl⟩
theorem st_B_11 : am_sS "WorksBudget" 11 m_JM_min_III 2 := ⟨⟨(am_in1 (i := 22) rfl rfl), (am_in1 (i := 3) rfl rfl), ⟨by decide, by decide, by decide +kernel⟩, by decide⟩, Or.inl (am_in1 (i := 20) rfl rfl), (am_in1 (i := 21) rfl rfl)⟩
theorem st_B_17 : am_sS "WorksBudget" 17 m_JM_max_III 2 := ⟨⟨(am_in1 (i := 25) rfl rfl), (am_in1 (i := 3) rfl rfl), ⟨by decide, by decide, by decide +kernel⟩, by decide⟩, Or.inl (am_in1 (i := 23) rfl rfl), (am_in1 (i := 24) rfl rfl)⟩
theorem st_B_20 : am_sI "WorksBudget" 20 m_W_init 1 := ⟨⟨(am_in1 (i := 28) rfl rfl), (am_in1 (i := 2) rfl rfl), ⟨by decide, by decide, by decide +kernel⟩, by decide⟩, Or.inl (am_in1 (i := 26) rfl rfl), ⟨rfl, (am_in1 (i := 27) rfl rfl)⟩, rfl⟩
theorem st_B_29 : am_sI "WorksBudget" 29 m_S_init 1 := ⟨⟨(am_in1 (i := 113) rfl rfl), (am_in1 (i := 4) rfl rfl), ⟨by decide, by decide, by decide +kernel⟩, by decide⟩, Or.inl (am_in1 (i := 111) rfl rfl), ⟨rfl, (am_in1 (i := 112) rfl rfl)⟩, rfl⟩
theorem st_B_38 : am_sI "WorksBudget" 38 m_N_init 1 := ⟨⟨(am_in1 (i := 181) rfl rfl), (am_in1 (i := 5) rfl rfl), ⟨by decide, by decide, by decide +kernel⟩, by decide⟩, Or.inl (am_in1 (i := 179) rfl rfl), ⟨rfl, (am_in1 (i := 180) rfl rfl)⟩, rfl⟩
theorem st_B_45 : am_sI "WorksBudget" 45 m_P_init 1 := ⟨⟨(am_in1 (i := 191) rfl rfl), (am_in1 (i := 6) rfl rfl), ⟨by decide, by decide, by decide +kernel⟩, by decide⟩, Or.inl (am_in1 (i := 189) rfl rfl), ⟨rfl, (am_in1 (i := 190) rfl rfl)⟩, rfl⟩
theorem st_L_21 : am_sV "WorksBudgetLaw" 21 m_B_thing 1 4 := ⟨⟨(am_in1 (i := 237) rfl rfl), (am_in1 (i := 1) rfl rfl), ⟨by decide, by decide, by decide +kernel⟩, by decide⟩, Or.inl (am_in1 (i := 234) rfl rfl), ⟨(am_in1 (i := 235) rfl rfl), (am_in1 (i := 236) rfl rfl)⟩, F_B, 11, rfl⟩
theorem st_B_57 : am_sV "WorksBudget" 57 m_B_forget 0 4 := ⟨⟨(am_in2 (i := 1) rfl rfl), (am_in1 (i := 1) rfl rfl), ⟨by decide, by decide, by decide +kernel⟩, by decide⟩, Or.inl (am_in1 (i := 238) rfl rfl), ⟨(am_in2 (i := 0) rfl rfl), (am_in0 (i := 0) rfl rfl)⟩, F_B, 11, rfl⟩
theorem st_B_60 : am_sV "WorksBudget" 60 m_W_addThing 1 0 := ⟨⟨(am_in2 (i := 5) rfl rfl), (am_in1 (i := 2) rfl rfl), ⟨by decide, by decide, by decide +kernel⟩, by decide⟩, Or.inl (am_in2 (i := 2) rfl rfl), ⟨(am_in2 (i := 3) rfl rfl), (am_in2 (i := 4) rfl rfl)⟩, F_W, 15, rfl⟩
theorem st_L_28 : am_sV "WorksBudgetLaw" 28 m_B_choice 4 4 := ⟨⟨(am_in2 (i := 9) rfl rfl), (am_in1 (i := 1) rfl rfl), ⟨by decide, by decide, by decide +kernel⟩, by decide⟩, Or.inl (am_in2 (i := 6) rfl rfl), ⟨(am_in2 (i := 7) rfl rfl), (am_in2 (i := 8) rfl rfl)⟩, F_B, 11, rfl⟩
theorem st_B_64 : am_sV "WorksBudget" 64 m_W_isThing 1 0 := ⟨⟨(am_in2 (i := 13) rfl rfl), (am_in1 (i := 2) rfl rfl), ⟨by decide, by decide, by decide +kernel⟩, by decide⟩, Or.inl (am_in2 (i := 10) rfl rfl), ⟨(am_in2 (i := 11) rfl rfl), (am_in2 (i := 12) rfl rfl)⟩, F_W, 15, rfl⟩
theorem st_B_68 : am_sV "WorksBudget" 68 m_W_isYear 1 0 := ⟨⟨(am_in2 (i := 17) rfl rfl), (am_in1 (i := 2) rfl rfl), ⟨by decide, by decide, by decide +kernel⟩, by decide⟩, Or.inl (am_in2 (i := 14) rfl rfl), ⟨(am_in2 (i := 15) rfl rfl), (am_in2 (i := 16) rfl rfl)⟩, F_W, 15, rfl⟩
theorem st_B_76 : am_sS "WorksBudget" 76 m_B_isWithin 2 := ⟨⟨(am_in2 (i := 21) rfl rfl), (am_in1 (i := 1) rfl rfl), ⟨by decide, by decide, by decide +kernel⟩, by decide⟩, Or.inl (am_in2 (i := 19) rfl rfl), (am_in2 (i := 20) rfl rfl)⟩
theorem st_B_80 : am_sV "WorksBudget" 80 m_W_addChoice 4 0 := ⟨⟨(am_in2 (i := 25) rfl rfl), (am_in1 (i := 2) rfl rfl), ⟨by decide, by decide, by decide +kernel⟩, by decide⟩, Or.inl (am_in2 (i := 22) rfl rfl), ⟨(am_in2 (i := 23) rfl rfl), (am_in2 (i := 24) rfl rfl)⟩, F_W, 15, rfl⟩
theorem st_L_33 : am_sV "WorksBudgetLaw" 33 m_B_must 1 4 := ⟨⟨(am_in2 (i := 29) rfl rfl), (am_in1 (i := 1) rfl rfl), ⟨by decide, by decide, by decide +kernel⟩, by decide⟩, Or.inl (am_in2 (i := 26) rfl rfl), ⟨(am_in2 (i := 27) rfl rfl), (am_in2 (i := 28) rfl rfl)⟩, F_B, 11, rfl⟩
theorem st_B_84 : am_sV "WorksBudget" 84 m_W_isChoice 1 0 := ⟨⟨(am_in2 (i := 33) rfl rfl), (am_in1 (i := 2) rfl rfl), ⟨by decide, by decide, by decide +kernel⟩, by decide⟩, Or.inl (am_in2 (i := 30) rfl rfl), ⟨(am_in2 (i := 31) rfl rfl), (am_in2 (i := 32) rfl rfl)⟩, F_W, 15, rfl⟩
theorem st_B_90 : am_sS "WorksBudget" 90 m_B_isIn 2 := ⟨⟨(am_in2 (i := 36) rfl rfl), (am_in1 (i := 1) rfl rfl), ⟨by decide, by decide, by decide +kernel⟩, by decide⟩, Or.inl (am_in2 (i := 34) rfl rfl), (am_in2 (i := 35) rfl rfl)⟩
theorem st_L_38 : am_sV "WorksBudgetLaw" 38 m_B_budget 2 4 := ⟨⟨(am_in2 (i := 40) rfl rfl), (am_in1 (i := 1) rfl rfl), ⟨by decide, by decide, by decide +kernel⟩, by decide⟩, Or.inl (am_in2 (i := 37) rfl rfl), ⟨(am_in2 (i := 38) rfl rfl), (am_in2 (i := 39) rfl rfl)⟩, F_B, 11, rfl⟩
theorem st_L_43 : am_sV "WorksBudgetLaw" 43 m_B_join 3 4 := ⟨⟨(am_in2 (i := 45) rfl rfl), (am_in1 (i := 1) rfl rfl), ⟨by decide, by decide, by decide +kernel⟩, by decide⟩, Or.inl (am_in2 (i := 42) rfl rfl), ⟨(am_in2 (i := 43) rfl rfl), (am_in2 (i := 44) rfl rfl)⟩, F_B, 11, rfl⟩
theorem st_B_100 : am_sV "WorksBudget" 100 m_W_canJoin 2 0 := ⟨⟨(am_in2 (i := 49) rfl rfl), (am_in1 (i := 2) rfl rfl), ⟨by decide, by decide, by decide +kernel⟩, by decide⟩, Or.inl (am_in2 (i := 46) rfl rfl), ⟨(am_in2 (i := 47) rfl rfl), (am_in2 (i := 48) rfl rfl)⟩, F_W, 15, rfl⟩
theorem st_W_58 : am_sS "WorksBudget$Works" 58 m_B_isIn 2 := ⟨⟨(am_in2 (i := 36) rfl rfl), (am_in1 (i := 1) rfl rfl), ⟨by decide, by decide, by decide +kernel⟩, by decide⟩, Or.inr ⟨"WorksBudget", by decide +kernel⟩, (am_in2 (i := 35) rfl rfl)⟩
theorem st_B_106 : am_sV "WorksBudget" 106 m_W_addJoin 3 0 := ⟨⟨(am_in2 (i := 54) rfl rfl), (am_in1 (i := 2) rfl rfl), ⟨by decide, by decide, by decide +kernel⟩, by decide⟩, Or.inl (am_in2 (i := 51) rfl rfl), ⟨(am_in2 (i := 52) rfl rfl), (am_in2 (i := 53) rfl rfl)⟩, F_W, 15, rfl⟩
theorem st_L_48 : am_sV "WorksBudgetLaw" 48 m_B_district 2 4 := ⟨⟨(am_in2 (i := 58) rfl rfl), (am_in1 (i := 1) rfl rfl), ⟨by decide, by decide, by decide +kernel⟩, by decide⟩, Or.inl (am_in2 (i := 55) rfl rfl), ⟨(am_in2 (i := 56) rfl rfl), (am_in2 (i := 57) rfl rfl)⟩, F_B, 11, rfl⟩
theorem st_B_110 : am_sS "WorksBudget" 110 m_B_isDistrict 1 := ⟨⟨(am_in2 (i := 61) rfl rfl), (am_in1 (i := 1) rfl rfl), ⟨by decide, by decide, by decide +kernel⟩, by decide⟩, Or.inl (am_in2 (i := 59) rfl rfl), (am_in2 (i := 60) rfl rfl)⟩
theorem st_L_53 : am_sV "WorksBudgetLaw" 53 m_B_fair 1 4 := ⟨⟨(am_in2 (i := 65) rfl rfl), (am_in1 (i := 1) rfl rfl), ⟨by decide, by decide, by decide +kernel⟩, by decide⟩, Or.inl (am_in2 (i := 62) rfl rfl), ⟨(am_in2 (i := 63) rfl rfl), (am_in2 (i := 64) rfl rfl)⟩, F_B, 11, rfl⟩
theorem st_L_58 : am_sV "WorksBudgetLaw" 58 m_B_run 1 4 := ⟨⟨(am_in2 (i := 71) rfl rfl), (am_in1 (i := 1) rfl rfl), ⟨by decide, by decide, by decide +kernel⟩, by decide⟩, Or.inl (am_in2 (i := 68) rfl rfl), ⟨(am_in2 (i := 69) rfl rfl), (am_in2 (i := 70) rfl rfl)⟩, F_B, 11, rfl⟩
theorem st_B_125 : am_sS "WorksBudget" 125 m_B_isNodes 1 := ⟨⟨(am_in2 (i := 74) rfl rfl), (am_in1 (i := 1) rfl rfl), ⟨by decide, by decide, by decide +kernel⟩, by decide⟩, Or.inl (am_in2 (i := 72) rfl rfl), (am_in2 (i := 73) rfl rfl)⟩
theorem st_B_129 : am_sV "WorksBudget" 129 m_S_bestPlan 1 1 := ⟨⟨(am_in2 (i := 79) rfl rfl), (am_in1 (i := 4) rfl rfl), ⟨by decide, by decide, by decide +kernel⟩, by decide⟩, Or.inl (am_in2 (i := 76) rfl rfl), ⟨(am_in2 (i := 77) rfl rfl), (am_in2 (i := 78) rfl rfl)⟩, F_S, 20, rfl⟩
theorem st_S_39 : am_sV "WorksBudget$Search" 39 m_S_prepare 2 1 := ⟨⟨(am_in2 (i := 83) rfl rfl), (am_in1 (i := 4) rfl rfl), ⟨by decide, by decide, by decide +kernel⟩, by decide⟩, Or.inl (am_in2 (i := 80) rfl rfl), ⟨(am_in2 (i := 82) rfl rfl), (am_in0 (i := 1) rfl rfl)⟩, F_S, 20, rfl⟩
theorem st_S_71 : am_sV "WorksBudget$Search" 71 m_W_usedDistricts 0 0 := ⟨⟨(am_in2 (i := 87) rfl rfl), (am_in1 (i := 2) rfl rfl), ⟨by decide, by decide, by decide +kernel⟩, by decide⟩, Or.inl (am_in2 (i := 84) rfl rfl), ⟨(am_in2 (i := 85) rfl rfl), (am_in2 (i := 86) rfl rfl)⟩, F_W, 15, rfl⟩
theorem st_S_91 : am_sV "WorksBudget$Search" 91 m_S_prepareRests 0 1 := ⟨⟨(am_in2 (i := 91) rfl rfl), (am_in1 (i := 4) rfl rfl), ⟨by decide, by decide, by decide +kernel⟩, by decide⟩, Or.inl (am_in2 (i := 88) rfl rfl), ⟨(am_in2 (i := 90) rfl rfl), (am_in0 (i := 2) rfl rfl)⟩, F_S, 20, rfl⟩
theorem st_S_104 : am_sV "WorksBudget$Search" 104 m_W_savesWith 2 0 := ⟨⟨(am_in2 (i := 95) rfl rfl), (am_in1 (i := 2) rfl rfl), ⟨by decide, by decide, by decide +kernel⟩, by decide⟩, Or.inl (am_in2 (i := 92) rfl rfl), ⟨(am_in2 (i := 93) rfl rfl), (am_in2 (i := 94) rfl rfl)⟩, F_W, 15, rfl⟩
theorem st_S_43 : am_sV "WorksBudget$Search" 43 m_S_lookFrom 2 1 := ⟨⟨(am_in2 (i := 99) rfl rfl), (am_in1 (i := 4) rfl rfl), ⟨by decide, by decide, by decide +kernel⟩, by decide⟩, Or.inl (am_in2 (i := 96) rfl rfl), ⟨(am_in2 (i := 98) rfl rfl), (am_in0 (i := 3) rfl rfl)⟩, F_S, 20, rfl⟩
theorem st_S_108 : am_sV "WorksBudget$Search" 108 m_S_isHopeless 1 1 := ⟨⟨(am_in2 (i := 103) rfl rfl), (am_in1 (i := 4) rfl rfl), ⟨by decide, by decide, by decide +kernel⟩, by decide⟩, Or.inl (am_in2 (i := 100) rfl rfl), ⟨(am_in2 (i := 102) rfl rfl), (am_in0 (i := 4) rfl rfl)⟩, F_S, 20, rfl⟩
theorem st_S_142 : am_sV "WorksBudget$Search" 142 m_S_countOfChanges 1 1 := ⟨⟨(am_in2 (i := 107) rfl rfl), (am_in1 (i := 4) rfl rfl), ⟨by decide, by decide, by decide +kernel⟩, by decide⟩, Or.inl (am_in2 (i := 104) rfl rfl), ⟨(am_in2 (i := 106) rfl rfl), (am_in0 (i := 5) rfl rfl)⟩, F_S, 20, rfl⟩
theorem st_S_151 : am_sS "WorksBudget$Search" 151 m_JI_bitCount 1 := ⟨⟨(am_in2 (i := 110) rfl rfl), (am_in1 (i := 8) rfl rfl), ⟨by decide, by decide, by decide +kernel⟩, by decide⟩, Or.inl (am_in2 (i := 108) rfl rfl), (am_in2 (i := 109) rfl rfl)⟩
theorem st_S_112 : am_sV "WorksBudget$Search" 112 m_S_weigh 0 1 := ⟨⟨(am_in2 (i := 117) rfl rfl), (am_in1 (i := 4) rfl rfl), ⟨by decide, by decide, by decide +kernel⟩, by decide⟩, Or.inl (am_in2 (i := 114) rfl rfl), ⟨(am_in2 (i := 116) rfl rfl), (am_in0 (i := 6) rfl rfl)⟩, F_S, 20, rfl⟩
theorem st_S_156 : am_sV "WorksBudget$Search" 156 m_S_isFair 0 1 := ⟨⟨(am_in2 (i := 121) rfl rfl), (am_in1 (i := 4) rfl rfl), ⟨by decide, by decide, by decide +kernel⟩, by decide⟩, Or.inl (am_in2 (i := 118) rfl rfl), ⟨(am_in2 (i := 120) rfl rfl), (am_in0 (i := 7) rfl rfl)⟩, F_S, 20, rfl⟩
theorem st_S_124 : am_sS "WorksBudget$Search" 124 m_B_isIn 2 := ⟨⟨(am_in2 (i := 36) rfl rfl), (am_in1 (i := 1) rfl rfl), ⟨by decide, by decide, by decide +kernel⟩, by decide⟩, Or.inr ⟨"WorksBudget", by decide +kernel⟩, (am_in2 (i := 35) rfl rfl)⟩
theorem st_S_160 : am_sV "WorksBudget$Search" 160 m_S_isBetter 1 1 := ⟨⟨(am_in2 (i := 127) rfl rfl), (am_in1 (i := 4) rfl rfl), ⟨by decide, by decide, by decide +kernel⟩, by decide⟩, Or.inl (am_in2 (i := 124) rfl rfl), ⟨(am_in2 (i := 126) rfl rfl), (am_in0 (i := 8) rfl rfl)⟩, F_S, 20, rfl⟩
theorem st_S_115 : am_sV "WorksBudget$Search" 115 m_S_lookWith 2 1 := ⟨⟨(am_in2 (i := 131) rfl rfl), (am_in1 (i := 4) rfl rfl), ⟨by decide, by decide, by decide +kernel⟩, by decide⟩, Or.inl (am_in2 (i := 128) rfl rfl), ⟨(am_in2 (i := 130) rfl rfl), (am_in0 (i := 9) rfl rfl)⟩, F_S, 20, rfl⟩
theorem st_S_128 : am_sV "WorksBudget$Search" 128 m_S_pick 2 1 := ⟨⟨(am_in2 (i := 135) rfl rfl), (am_in1 (i := 4) rfl rfl), ⟨by decide, by decide, by decide +kernel⟩, by decide⟩, Or.inl (am_in2 (i := 132) rfl rfl), ⟨(am_in2 (i := 134) rfl rfl), (am_in0 (i := 10) rfl rfl)⟩, F_S, 20, rfl⟩
theorem st_S_138 : am_sV "WorksBudget$Search" 138 m_W_districtOfChoice 1 0 := ⟨⟨(am_in2 (i := 139) rfl rfl), (am_in1 (i := 2) rfl rfl), ⟨by decide, by decide, by decide +kernel⟩, by decide⟩, Or.inl (am_in2 (i := 136) rfl rfl), ⟨(am_in2 (i := 137) rfl rfl), (am_in2 (i := 138) rfl rfl)⟩, F_W, 15, rfl⟩
theorem st_S_132 : am_sV "WorksBudget$Search" 132 m_S_isOverspent 1 1 := ⟨⟨(am_in2 (i := 143) rfl rfl), (am_in1 (i := 4) rfl rfl), ⟨by decide, by decide, by decide +kernel⟩, by decide⟩, Or.inl (am_in2 (i := 140) rfl rfl), ⟨(am_in2 (i := 142) rfl rfl), (am_in0 (i := 11) rfl rfl)⟩, F_S, 20, rfl⟩
theorem st_S_118 : am_sV "WorksBudget$Search" 118 m_S_lookWithout 2 1 := ⟨⟨(am_in2 (i := 147) rfl rfl), (am_in1 (i := 4) rfl rfl), ⟨by decide, by decide, by decide +kernel⟩, by decide⟩, Or.inl (am_in2 (i := 144) rfl rfl), ⟨(am_in2 (i := 146) rfl rfl), (am_in0 (i := 12) rfl rfl)⟩, F_S, 20, rfl⟩
theorem st_B_133 : am_sV "WorksBudget" 133 m_W_countOfSets 0 0 := ⟨⟨(am_in2 (i := 151) rfl rfl), (am_in1 (i := 2) rfl rfl), ⟨by decide, by decide, by decide +kernel⟩, by decide⟩, Or.inl (am_in2 (i := 148) rfl rfl), ⟨(am_in2 (i := 149) rfl rfl), (am_in2 (i := 150) rfl rfl)⟩, F_W, 15, rfl⟩
theorem st_L_63 : am_sV "WorksBudgetLaw" 63 m_B_chosen 1 4 := ⟨⟨(am_in2 (i := 155) rfl rfl), (am_in1 (i := 1) rfl rfl), ⟨by decide, by decide, by decide +kernel⟩, by decide⟩, Or.inl (am_in2 (i := 152) rfl rfl), ⟨(am_in2 (i := 153) rfl rfl), (am_in2 (i := 154) rfl rfl)⟩, F_B, 11, rfl⟩
theorem st_B_141 : am_sV "WorksBudget" 141 m_B_planOrNothing 0 4 := ⟨⟨(am_in2 (i := 159) rfl rfl), (am_in1 (i := 1) rfl rfl), ⟨by decide, by decide, by decide +kernel⟩, by decide⟩, Or.inl (am_in2 (i := 156) rfl rfl), ⟨(am_in2 (i := 158) rfl rfl), (am_in0 (i := 13) rfl rfl)⟩, F_B, 11, rfl⟩
theorem st_L_67 : am_sV "WorksBudgetLaw" 67 m_B_worth 0 4 := ⟨⟨(am_in2 (i := 163) rfl rfl), (am_in1 (i := 1) rfl rfl), ⟨by decide, by decide, by decide +kernel⟩, by decide⟩, Or.inl (am_in2 (i := 160) rfl rfl), ⟨(am_in2 (i := 161) rfl rfl), (am_in2 (i := 162) rfl rfl)⟩, F_B, 11, rfl⟩
theorem st_B_144 : am_sV "WorksBudget" 144 m_W_worthOfPlan 1 0 := ⟨⟨(am_in2 (i := 167) rfl rfl), (am_in1 (i := 2) rfl rfl), ⟨by decide, by decide, by decide +kernel⟩, by decide⟩, Or.inl (am_in2 (i := 164) rfl rfl), ⟨(am_in2 (i := 165) rfl rfl), (am_in2 (i := 166) rfl rfl)⟩, F_W, 15, rfl⟩
theorem st_L_72 : am_sV "WorksBudgetLaw" 72 m_B_bound 1 4 := ⟨⟨(am_in2 (i := 171) rfl rfl), (am_in1 (i := 1) rfl rfl), ⟨by decide, by decide, by decide +kernel⟩, by decide⟩, Or.inl (am_in2 (i := 168) rfl rfl), ⟨(am_in2 (i := 169) rfl rfl), (am_in2 (i := 170) rfl rfl)⟩, F_B, 11, rfl⟩
theorem st_B_148 : am_sV "WorksBudget" 148 m_N_byThings 0 2 := ⟨⟨(am_in2 (i := 175) rfl rfl), (am_in1 (i := 5) rfl rfl), ⟨by decide, by decide, by decide +kernel⟩, by decide⟩, Or.inl (am_in2 (i := 172) rfl rfl), ⟨(am_in2 (i := 173) rfl rfl), (am_in2 (i := 174) rfl rfl)⟩, F_N, 1, rfl⟩
theorem st_N_19 : am_sV "WorksBudget$Bounds" 19 m_W_mostWorth 1 0 := ⟨⟨(am_in2 (i := 179) rfl rfl), (am_in1 (i := 2) rfl rfl), ⟨by decide, by decide, by decide +kernel⟩, by decide⟩, Or.inl (am_in2 (i := 176) rfl rfl), ⟨(am_in2 (i := 177) rfl rfl), (am_in2 (i := 178) rfl rfl)⟩, F_W, 15, rfl⟩
theorem st_W_85 : am_sV "WorksBudget$Works" 85 m_W_mostWorthBy 2 0 := ⟨⟨(am_in2 (i := 183) rfl rfl), (am_in1 (i := 2) rfl rfl), ⟨by decide, by decide, by decide +kernel⟩, by decide⟩, Or.inl (am_in2 (i := 180) rfl rfl), ⟨(am_in2 (i := 181) rfl rfl), (am_in2 (i := 182) rfl rfl)⟩, F_W, 15, rfl⟩
theorem st_W_69 : am_sS "WorksBudget$Works" 69 m_JM_max_JJJ 2 := ⟨⟨(am_in2 (i := 186) rfl rfl), (am_in1 (i := 3) rfl rfl), ⟨by decide, by decide, by decide +kernel⟩, by decide⟩, Or.inl (am_in2 (i := 184) rfl rfl), (am_in2 (i := 185) rfl rfl)⟩
theorem st_B_152 : am_sV "WorksBudget" 152 m_N_byPrices 1 2 := ⟨⟨(am_in2 (i := 190) rfl rfl), (am_in1 (i := 5) rfl rfl), ⟨by decide, by decide, by decide +kernel⟩, by decide⟩, Or.inl (am_in2 (i := 187) rfl rfl), ⟨(am_in2 (i := 188) rfl rfl), (am_in2 (i := 189) rfl rfl)⟩, F_N, 1, rfl⟩
theorem st_N_30 : am_sV "WorksBudget$Bounds" 30 m_N_byPrice 3 2 := ⟨⟨(am_in2 (i := 194) rfl rfl), (am_in1 (i := 5) rfl rfl), ⟨by decide, by decide, by decide +kernel⟩, by decide⟩, Or.inl (am_in2 (i := 191) rfl rfl), ⟨(am_in2 (i := 193) rfl rfl), (am_in0 (i := 14) rfl rfl)⟩, F_N, 1, rfl⟩
theorem st_N_49 : am_sV "WorksBudget$Bounds" 49 m_N_mostPartsOf 3 2 := ⟨⟨(am_in2 (i := 198) rfl rfl), (am_in1 (i := 5) rfl rfl), ⟨by decide, by decide, by decide +kernel⟩, by decide⟩, Or.inl (am_in2 (i := 195) rfl rfl), ⟨(am_in2 (i := 197) rfl rfl), (am_in0 (i := 15) rfl rfl)⟩, F_N, 1, rfl⟩
theorem st_N_57 : am_sV "WorksBudget$Bounds" 57 m_W_savesOfAllJoins 1 0 := ⟨⟨(am_in2 (i := 202) rfl rfl), (am_in1 (i := 2) rfl rfl), ⟨by decide, by decide, by decide +kernel⟩, by decide⟩, Or.inl (am_in2 (i := 199) rfl rfl), ⟨(am_in2 (i := 200) rfl rfl), (am_in2 (i := 201) rfl rfl)⟩, F_W, 15, rfl⟩
theorem st_W_65 : am_sV "WorksBudget$Works" 65 m_W_savesWith 2 0 := ⟨⟨(am_in2 (i := 95) rfl rfl), (am_in1 (i := 2) rfl rfl), ⟨by decide, by decide, by decide +kernel⟩, by decide⟩, Or.inl (am_in2 (i := 203) rfl rfl), ⟨(am_in2 (i := 93) rfl rfl), (am_in2 (i := 94) rfl rfl)⟩, F_W, 15, rfl⟩
theorem st_N_60 : am_sS "WorksBudget$Bounds" 60 m_JM_max_JJJ 2 := ⟨⟨(am_in2 (i := 186) rfl rfl), (am_in1 (i := 3) rfl rfl), ⟨by decide, by decide, by decide +kernel⟩, by decide⟩, Or.inl (am_in2 (i := 204) rfl rfl), (am_in2 (i := 185) rfl rfl)⟩
theorem st_N_43 : am_sS "WorksBudget$Bounds" 43 m_JM_min_JJJ 2 := ⟨⟨(am_in2 (i := 207) rfl rfl), (am_in1 (i := 3) rfl rfl), ⟨by decide, by decide, by decide +kernel⟩, by decide⟩, Or.inl (am_in2 (i := 205) rfl rfl), (am_in2 (i := 206) rfl rfl)⟩
theorem st_L_77 : am_sV "WorksBudgetLaw" 77 m_B_clash 1 4 := ⟨⟨(am_in2 (i := 211) rfl rfl), (am_in1 (i := 1) rfl rfl), ⟨by decide, by decide, by decide +kernel⟩, by decide⟩, Or.inl (am_in2 (i := 208) rfl rfl), ⟨(am_in2 (i := 209) rfl rfl), (am_in2 (i := 210) rfl rfl)⟩, F_B, 11, rfl⟩
theorem st_B_159 : am_sV "WorksBudget" 159 m_S_someHolds 1 1 := ⟨⟨(am_in2 (i := 215) rfl rfl), (am_in1 (i := 4) rfl rfl), ⟨by decide, by decide, by decide +kernel⟩, by decide⟩, Or.inl (am_in2 (i := 212) rfl rfl), ⟨(am_in2 (i := 213) rfl rfl), (am_in2 (i := 214) rfl rfl)⟩, F_S, 20, rfl⟩
theorem st_B_162 : am_sV "WorksBudget" 162 m_B_clashingMusts 0 4 := ⟨⟨(am_in2 (i := 220) rfl rfl), (am_in1 (i := 1) rfl rfl), ⟨by decide, by decide, by decide +kernel⟩, by decide⟩, Or.inl (am_in2 (i := 217) rfl rfl), ⟨(am_in2 (i := 219) rfl rfl), (am_in0 (i := 16) rfl rfl)⟩, F_B, 11, rfl⟩
theorem st_B_168 : am_sS "WorksBudget" 168 m_B_memberOf 2 := ⟨⟨(am_in2 (i := 223) rfl rfl), (am_in1 (i := 1) rfl rfl), ⟨by decide, by decide, by decide +kernel⟩, by decide⟩, Or.inl (am_in2 (i := 221) rfl rfl), (am_in2 (i := 222) rfl rfl)⟩
theorem st_L_81 : am_sV "WorksBudgetLaw" 81 m_B_proved 0 4 := ⟨⟨(am_in2 (i := 227) rfl rfl), (am_in1 (i := 1) rfl rfl), ⟨by decide, by decide, by decide +kernel⟩, by decide⟩, Or.inl (am_in2 (i := 224) rfl rfl), ⟨(am_in2 (i := 225) rfl rfl), (am_in2 (i := 226) rfl rfl)⟩, F_B, 11, rfl⟩
theorem st_L_86 : am_sV "WorksBudgetLaw" 86 m_B_price 2 4 := ⟨⟨(am_in2 (i := 231) rfl rfl), (am_in1 (i := 1) rfl rfl), ⟨by decide, by decide, by decide +kernel⟩, by decide⟩, Or.inl (am_in2 (i := 228) rfl rfl), ⟨(am_in2 (i := 229) rfl rfl), (am_in2 (i := 230) rfl rfl)⟩, F_B, 11, rfl⟩
theorem st_B_171 : am_sV "WorksBudget" 171 m_B_gainOfBest 1 4 := ⟨⟨(am_in2 (i := 235) rfl rfl), (am_in1 (i := 1) rfl rfl), ⟨by decide, by decide, by decide +kernel⟩, by decide⟩, Or.inl (am_in2 (i := 232) rfl rfl), ⟨(am_in2 (i := 234) rfl rfl), (am_in0 (i := 17) rfl rfl)⟩, F_B, 11, rfl⟩
theorem st_B_230 : am_sV "WorksBudget" 230 m_S_bestPlanWithMore 2 1 := ⟨⟨(am_in3 (i := 1) rfl rfl), (am_in1 (i := 4) rfl rfl), ⟨by decide, by decide, by decide +kernel⟩, by decide⟩, Or.inl (am_in2 (i := 238) rfl rfl), ⟨(am_in2 (i := 239) rfl rfl), (am_in3 (i := 0) rfl rfl)⟩, F_S, 20, rfl⟩
theorem st_L_91 : am_sV "WorksBudgetLaw" 91 m_B_old 2 4 := ⟨⟨(am_in3 (i := 5) rfl rfl), (am_in1 (i := 1) rfl rfl), ⟨by decide, by decide, by decide +kernel⟩, by decide⟩, Or.inl (am_in3 (i := 2) rfl rfl), ⟨(am_in3 (i := 3) rfl rfl), (am_in3 (i := 4) rfl rfl)⟩, F_B, 11, rfl⟩
theorem st_L_96 : am_sV "WorksBudgetLaw" 96 m_B_changes 1 4 := ⟨⟨(am_in3 (i := 9) rfl rfl), (am_in1 (i := 1) rfl rfl), ⟨by decide, by decide, by decide +kernel⟩, by decide⟩, Or.inl (am_in3 (i := 6) rfl rfl), ⟨(am_in3 (i := 7) rfl rfl), (am_in3 (i := 8) rfl rfl)⟩, F_B, 11, rfl⟩
theorem st_B_179 : am_sV "WorksBudget" 179 m_S_nearestPlan 2 1 := ⟨⟨(am_in3 (i := 13) rfl rfl), (am_in1 (i := 4) rfl rfl), ⟨by decide, by decide, by decide +kernel⟩, by decide⟩, Or.inl (am_in3 (i := 10) rfl rfl), ⟨(am_in3 (i := 11) rfl rfl), (am_in3 (i := 12) rfl rfl)⟩, F_S, 20, rfl⟩
theorem st_S_55 : am_sV "WorksBudget$Search" 55 m_W_countOfSets 0 0 := ⟨⟨(am_in2 (i := 151) rfl rfl), (am_in1 (i := 2) rfl rfl), ⟨by decide, by decide, by decide +kernel⟩, by decide⟩, Or.inl (am_in3 (i := 14) rfl rfl), ⟨(am_in2 (i := 149) rfl rfl), (am_in2 (i := 150) rfl rfl)⟩, F_W, 15, rfl⟩
theorem st_B_183 : am_sS "WorksBudget" 183 m_JI_bitCount 1 := ⟨⟨(am_in2 (i := 110) rfl rfl), (am_in1 (i := 8) rfl rfl), ⟨by decide, by decide, by decide +kernel⟩, by decide⟩, Or.inl (am_in3 (i := 15) rfl rfl), (am_in2 (i := 109) rfl rfl)⟩
theorem st_L_100 : am_sV "WorksBudgetLaw" 100 m_B_changed 1 4 := ⟨⟨(am_in3 (i := 19) rfl rfl), (am_in1 (i := 1) rfl rfl), ⟨by decide, by decide, by decide +kernel⟩, by decide⟩, Or.inl (am_in3 (i := 16) rfl rfl), ⟨(am_in3 (i := 17) rfl rfl), (am_in3 (i := 18) rfl rfl)⟩, F_B, 11, rfl⟩
theorem st_L_104 : am_sV "WorksBudgetLaw" 104 m_B_backlog 1 4 := ⟨⟨(am_in3 (i := 23) rfl rfl), (am_in1 (i := 1) rfl rfl), ⟨by decide, by decide, by decide +kernel⟩, by decide⟩, Or.inl (am_in3 (i := 20) rfl rfl), ⟨(am_in3 (i := 21) rfl rfl), (am_in3 (i := 22) rfl rfl)⟩, F_B, 11, rfl⟩
theorem st_B_188 : am_sV "WorksBudget" 188 m_W_isDoneBy 3 0 := ⟨⟨(am_in3 (i := 27) rfl rfl), (am_in1 (i := 2) rfl rfl), ⟨by decide, by decide, by decide +kernel⟩, by decide⟩, Or.inl (am_in3 (i := 24) rfl rfl), ⟨(am_in3 (i := 25) rfl rfl), (am_in3 (i := 26) rfl rfl)⟩, F_W, 15, rfl⟩
theorem st_B_192 : am_sV "WorksBudget" 192 m_W_mostWorthBy 2 0 := ⟨⟨(am_in2 (i := 183) rfl rfl), (am_in1 (i := 2) rfl rfl), ⟨by decide, by decide, by decide +kernel⟩, by decide⟩, Or.inl (am_in3 (i := 28) rfl rfl), ⟨(am_in2 (i := 181) rfl rfl), (am_in2 (i := 182) rfl rfl)⟩, F_W, 15, rfl⟩
theorem st_L_108 : am_sV "WorksBudgetLaw" 108 m_B_rank 1 4 := ⟨⟨(am_in3 (i := 32) rfl rfl), (am_in1 (i := 1) rfl rfl), ⟨by decide, by decide, by decide +kernel⟩, by decide⟩, Or.inl (am_in3 (i := 29) rfl rfl), ⟨(am_in3 (i := 30) rfl rfl), (am_in3 (i := 31) rfl rfl)⟩, F_B, 11, rfl⟩
theorem st_B_196 : am_sV "WorksBudget" 196 m_B_countOfThingsBefore 1 4 := ⟨⟨(am_in3 (i := 36) rfl rfl), (am_in1 (i := 1) rfl rfl), ⟨by decide, by decide, by decide +kernel⟩, by decide⟩, Or.inl (am_in3 (i := 33) rfl rfl), ⟨(am_in3 (i := 35) rfl rfl), (am_in0 (i := 18) rfl rfl)⟩, F_B, 11, rfl⟩
theorem st_B_234 : am_sV "WorksBudget" 234 m_W_ranksBefore 2 0 := ⟨⟨(am_in3 (i := 40) rfl rfl), (am_in1 (i := 2) rfl rfl), ⟨by decide, by decide, by decide +kernel⟩, by decide⟩, Or.inl (am_in3 (i := 37) rfl rfl), ⟨(am_in3 (i := 38) rfl rfl), (am_in3 (i := 39) rfl rfl)⟩, F_W, 15, rfl⟩
theorem st_W_88 : am_sV "WorksBudget$Works" 88 m_W_mostWorth 1 0 := ⟨⟨(am_in2 (i := 179) rfl rfl), (am_in1 (i := 2) rfl rfl), ⟨by decide, by decide, by decide +kernel⟩, by decide⟩, Or.inl (am_in3 (i := 41) rfl rfl), ⟨(am_in2 (i := 177) rfl rfl), (am_in2 (i := 178) rfl rfl)⟩, F_W, 15, rfl⟩
theorem st_L_112 : am_sV "WorksBudgetLaw" 112 m_B_share 2 4 := ⟨⟨(am_in3 (i := 45) rfl rfl), (am_in1 (i := 1) rfl rfl), ⟨by decide, by decide, by decide +kernel⟩, by decide⟩, Or.inl (am_in3 (i := 42) rfl rfl), ⟨(am_in3 (i := 43) rfl rfl), (am_in3 (i := 44) rfl rfl)⟩, F_B, 11, rfl⟩
theorem st_B_199 : am_sV "WorksBudget" 199 m_W_worthOfDistrict 2 0 := ⟨⟨(am_in3 (i := 49) rfl rfl), (am_in1 (i := 2) rfl rfl), ⟨by decide, by decide, by decide +kernel⟩, by decide⟩, Or.inl (am_in3 (i := 46) rfl rfl), ⟨(am_in3 (i := 47) rfl rfl), (am_in3 (i := 48) rfl rfl)⟩, F_W, 15, rfl⟩
theorem st_W_81 : am_sV "WorksBudget$Works" 81 m_W_districtOfChoice 1 0 := ⟨⟨(am_in2 (i := 139) rfl rfl), (am_in1 (i := 2) rfl rfl), ⟨by decide, by decide, by decide +kernel⟩, by decide⟩, Or.inl (am_in3 (i := 50) rfl rfl), ⟨(am_in2 (i := 137) rfl rfl), (am_in2 (i := 138) rfl rfl)⟩, F_W, 15, rfl⟩
theorem st_B_202 : am_sS "WorksBudget" 202 m_B_greatestDivisor 2 := ⟨⟨(am_in3 (i := 53) rfl rfl), (am_in1 (i := 1) rfl rfl), ⟨by decide, by decide, by decide +kernel⟩, by decide⟩, Or.inl (am_in3 (i := 51) rfl rfl), (am_in3 (i := 52) rfl rfl)⟩
theorem st_L_116 : am_sV "WorksBudgetLaw" 116 m_B_policy 1 4 := ⟨⟨(am_in3 (i := 57) rfl rfl), (am_in1 (i := 1) rfl rfl), ⟨by decide, by decide, by decide +kernel⟩, by decide⟩, Or.inl (am_in3 (i := 54) rfl rfl), ⟨(am_in3 (i := 55) rfl rfl), (am_in3 (i := 56) rfl rfl)⟩, F_B, 11, rfl⟩
theorem st_B_206 : am_sV "WorksBudget" 206 m_P_planBy 1 3 := ⟨⟨(am_in3 (i := 61) rfl rfl), (am_in1 (i := 6) rfl rfl), ⟨by decide, by decide, by decide +kernel⟩, by decide⟩, Or.inl (am_in3 (i := 58) rfl rfl), ⟨(am_in3 (i := 59) rfl rfl), (am_in3 (i := 60) rfl rfl)⟩, F_P, 2, rfl⟩
theorem st_P_25 : am_sV "WorksBudget$Policies" 25 m_P_isPossible 1 3 := ⟨⟨(am_in3 (i := 65) rfl rfl), (am_in1 (i := 6) rfl rfl), ⟨by decide, by decide, by decide +kernel⟩, by decide⟩, Or.inl (am_in3 (i := 62) rfl rfl), ⟨(am_in3 (i := 64) rfl rfl), (am_in0 (i := 19) rfl rfl)⟩, F_P, 2, rfl⟩
theorem st_P_36 : am_sV "WorksBudget$Policies" 36 m_W_isPlan 1 0 := ⟨⟨(am_in3 (i := 69) rfl rfl), (am_in1 (i := 2) rfl rfl), ⟨by decide, by decide, by decide +kernel⟩, by decide⟩, Or.inl (am_in3 (i := 66) rfl rfl), ⟨(am_in3 (i := 67) rfl rfl), (am_in3 (i := 68) rfl rfl)⟩, F_W, 15, rfl⟩
theorem st_P_39 : am_sV "WorksBudget$Policies" 39 m_W_isWithinAllBudgets 1 0 := ⟨⟨(am_in3 (i := 73) rfl rfl), (am_in1 (i := 2) rfl rfl), ⟨by decide, by decide, by decide +kernel⟩, by decide⟩, Or.inl (am_in3 (i := 70) rfl rfl), ⟨(am_in3 (i := 71) rfl rfl), (am_in3 (i := 72) rfl rfl)⟩, F_W, 15, rfl⟩
theorem st_W_78 : am_sV "WorksBudget$Works" 78 m_W_isWithinBudget 2 0 := ⟨⟨(am_in3 (i := 77) rfl rfl), (am_in1 (i := 2) rfl rfl), ⟨by decide, by decide, by decide +kernel⟩, by decide⟩, Or.inl (am_in3 (i := 74) rfl rfl), ⟨(am_in3 (i := 75) rfl rfl), (am_in3 (i := 76) rfl rfl)⟩, F_W, 15, rfl⟩
theorem st_W_75 : am_sV "WorksBudget$Works" 75 m_W_spentIn 2 0 := ⟨⟨(am_in3 (i := 81) rfl rfl), (am_in1 (i := 2) rfl rfl), ⟨by decide, by decide, by decide +kernel⟩, by decide⟩, Or.inl (am_in3 (i := 78) rfl rfl), ⟨(am_in3 (i := 79) rfl rfl), (am_in3 (i := 80) rfl rfl)⟩, F_W, 15, rfl⟩
theorem st_P_29 : am_sV "WorksBudget$Policies" 29 m_P_putInOrder 1 3 := ⟨⟨(am_in3 (i := 85) rfl rfl), (am_in1 (i := 6) rfl rfl), ⟨by decide, by decide, by decide +kernel⟩, by decide⟩, Or.inl (am_in3 (i := 82) rfl rfl), ⟨(am_in3 (i := 84) rfl rfl), (am_in0 (i := 20) rfl rfl)⟩, F_P, 2, rfl⟩
theorem st_P_42 : am_sV "WorksBudget$Policies" 42 m_P_goesBefore 3 3 := ⟨⟨(am_in3 (i := 89) rfl rfl), (am_in1 (i := 6) rfl rfl), ⟨by decide, by decide, by decide +kernel⟩, by decide⟩, Or.inl (am_in3 (i := 86) rfl rfl), ⟨(am_in3 (i := 88) rfl rfl), (am_in0 (i := 21) rfl rfl)⟩, F_P, 2, rfl⟩
theorem st_P_46 : am_sV "WorksBudget$Policies" 46 m_P_leadByWorthByCost 2 3 := ⟨⟨(am_in3 (i := 93) rfl rfl), (am_in1 (i := 6) rfl rfl), ⟨by decide, by decide, by decide +kernel⟩, by decide⟩, Or.inl (am_in3 (i := 90) rfl rfl), ⟨(am_in3 (i := 92) rfl rfl), (am_in0 (i := 22) rfl rfl)⟩, F_P, 2, rfl⟩
theorem st_P_60 : am_sS "WorksBudget$Policies" 60 m_JL_compare 2 := ⟨⟨(am_in3 (i := 96) rfl rfl), (am_in1 (i := 9) rfl rfl), ⟨by decide, by decide, by decide +kernel⟩, by decide⟩, Or.inl (am_in3 (i := 94) rfl rfl), (am_in3 (i := 95) rfl rfl)⟩
theorem st_L_120 : am_sV "WorksBudgetLaw" 120 m_B_compare 2 4 := ⟨⟨(am_in3 (i := 100) rfl rfl), (am_in1 (i := 1) rfl rfl), ⟨by decide, by decide, by decide +kernel⟩, by decide⟩, Or.inl (am_in3 (i := 97) rfl rfl), ⟨(am_in3 (i := 98) rfl rfl), (am_in3 (i := 99) rfl rfl)⟩, F_B, 11, rfl⟩
theorem st_L_124 : am_sV "WorksBudgetLaw" 124 m_B_list 2 4 := ⟨⟨(am_in3 (i := 104) rfl rfl), (am_in1 (i := 1) rfl rfl), ⟨by decide, by decide, by decide +kernel⟩, by decide⟩, Or.inl (am_in3 (i := 101) rfl rfl), ⟨(am_in3 (i := 102) rfl rfl), (am_in3 (i := 103) rfl rfl)⟩, F_B, 11, rfl⟩
theorem st_B_212 : am_sV "WorksBudget" 212 m_W_partOf 3 0 := ⟨⟨(am_in3 (i := 108) rfl rfl), (am_in1 (i := 2) rfl rfl), ⟨by decide, by decide, by decide +kernel⟩, by decide⟩, Or.inl (am_in3 (i := 105) rfl rfl), ⟨(am_in3 (i := 106) rfl rfl), (am_in3 (i := 107) rfl rfl)⟩, F_W, 15, rfl⟩
theorem st_L_129 : am_sV "WorksBudgetLaw" 129 m_B_earlier 1 4 := ⟨⟨(am_in3 (i := 112) rfl rfl), (am_in1 (i := 1) rfl rfl), ⟨by decide, by decide, by decide +kernel⟩, by decide⟩, Or.inl (am_in3 (i := 109) rfl rfl), ⟨(am_in3 (i := 110) rfl rfl), (am_in3 (i := 111) rfl rfl)⟩, F_B, 11, rfl⟩
theorem st_L_133 : am_sV "WorksBudgetLaw" 133 m_B_holds 1 4 := ⟨⟨(am_in3 (i := 116) rfl rfl), (am_in1 (i := 1) rfl rfl), ⟨by decide, by decide, by decide +kernel⟩, by decide⟩, Or.inl (am_in3 (i := 113) rfl rfl), ⟨(am_in3 (i := 114) rfl rfl), (am_in3 (i := 115) rfl rfl)⟩, F_B, 11, rfl⟩
theorem st_B_219 : am_sV "WorksBudget" 219 m_W_isWithinBudget 2 0 := ⟨⟨(am_in3 (i := 77) rfl rfl), (am_in1 (i := 2) rfl rfl), ⟨by decide, by decide, by decide +kernel⟩, by decide⟩, Or.inl (am_in3 (i := 117) rfl rfl), ⟨(am_in3 (i := 75) rfl rfl), (am_in3 (i := 76) rfl rfl)⟩, F_W, 15, rfl⟩
theorem st_L_9 : am_sS "WorksBudgetLaw" 9 m_L_cell 2 := ⟨⟨(am_in3 (i := 120) rfl rfl), (am_in1 (i := 0) rfl rfl), ⟨by decide, by decide, by decide +kernel⟩, by decide⟩, Or.inl (am_in3 (i := 118) rfl rfl), (am_in3 (i := 119) rfl rfl)⟩
theorem st_L_20 : am_sI "WorksBudgetLaw" 20 m_M_init 1 := ⟨⟨(am_in3 (i := 125) rfl rfl), (am_in1 (i := 7) rfl rfl), ⟨by decide, by decide, by decide +kernel⟩, by decide⟩, Or.inl (am_in3 (i := 123) rfl rfl), ⟨rfl, (am_in3 (i := 124) rfl rfl)⟩, rfl⟩
theorem st_L_25 : am_sV "WorksBudgetLaw" 25 m_M_thing 1 5 := ⟨⟨(am_in3 (i := 201) rfl rfl), (am_in1 (i := 7) rfl rfl), ⟨by decide, by decide, by decide +kernel⟩, by decide⟩, Or.inl (am_in3 (i := 198) rfl rfl), ⟨(am_in3 (i := 199) rfl rfl), (am_in3 (i := 200) rfl rfl)⟩, F_M, 23, rfl⟩
theorem st_M_72 : am_sS "WorksBudgetModel" 72 m_M_in 3 := ⟨⟨(am_in3 (i := 205) rfl rfl), (am_in1 (i := 7) rfl rfl), ⟨by decide, by decide, by decide +kernel⟩, by decide⟩, Or.inl (am_in3 (i := 203) rfl rfl), (am_in3 (i := 204) rfl rfl)⟩
theorem st_M_79 : am_sV "WorksBudgetModel" 79 m_M_tell 0 5 := ⟨⟨(am_in3 (i := 209) rfl rfl), (am_in1 (i := 7) rfl rfl), ⟨by decide, by decide, by decide +kernel⟩, by decide⟩, Or.inl (am_in3 (i := 206) rfl rfl), ⟨(am_in3 (i := 208) rfl rfl), (am_in0 (i := 23) rfl rfl)⟩, F_M, 23, rfl⟩
theorem st_L_32 : am_sV "WorksBudgetLaw" 32 m_M_choice 4 5 := ⟨⟨(am_in3 (i := 213) rfl rfl), (am_in1 (i := 7) rfl rfl), ⟨by decide, by decide, by decide +kernel⟩, by decide⟩, Or.inl (am_in3 (i := 210) rfl rfl), ⟨(am_in3 (i := 211) rfl rfl), (am_in3 (i := 212) rfl rfl)⟩, F_M, 23, rfl⟩
theorem st_L_37 : am_sV "WorksBudgetLaw" 37 m_M_must 1 5 := ⟨⟨(am_in3 (i := 218) rfl rfl), (am_in1 (i := 7) rfl rfl), ⟨by decide, by decide, by decide +kernel⟩, by decide⟩, Or.inl (am_in3 (i := 215) rfl rfl), ⟨(am_in3 (i := 216) rfl rfl), (am_in3 (i := 217) rfl rfl)⟩, F_M, 23, rfl⟩
theorem st_M_87 : am_sV "WorksBudgetModel" 87 m_M_isChoice 1 5 := ⟨⟨(am_in3 (i := 222) rfl rfl), (am_in1 (i := 7) rfl rfl), ⟨by decide, by decide, by decide +kernel⟩, by decide⟩, Or.inl (am_in3 (i := 219) rfl rfl), ⟨(am_in3 (i := 221) rfl rfl), (am_in0 (i := 24) rfl rfl)⟩, F_M, 23, rfl⟩
theorem st_M_94 : am_sS "WorksBudgetModel" 94 m_M_has 2 := ⟨⟨(am_in3 (i := 225) rfl rfl), (am_in1 (i := 7) rfl rfl), ⟨by decide, by decide, by decide +kernel⟩, by decide⟩, Or.inl (am_in3 (i := 223) rfl rfl), (am_in3 (i := 224) rfl rfl)⟩
theorem st_L_42 : am_sV "WorksBudgetLaw" 42 m_M_budget 2 5 := ⟨⟨(am_in3 (i := 229) rfl rfl), (am_in1 (i := 7) rfl rfl), ⟨by decide, by decide, by decide +kernel⟩, by decide⟩, Or.inl (am_in3 (i := 226) rfl rfl), ⟨(am_in3 (i := 227) rfl rfl), (am_in3 (i := 228) rfl rfl)⟩, F_M, 23, rfl⟩
theorem st_M_98 : am_sV "WorksBudgetModel" 98 m_M_isYear 1 5 := ⟨⟨(am_in3 (i := 233) rfl rfl), (am_in1 (i := 7) rfl rfl), ⟨by decide, by decide, by decide +kernel⟩, by decide⟩, Or.inl (am_in3 (i := 230) rfl rfl), ⟨(am_in3 (i := 232) rfl rfl), (am_in0 (i := 25) rfl rfl)⟩, F_M, 23, rfl⟩
theorem st_L_47 : am_sV "WorksBudgetLaw" 47 m_M_join 3 5 := ⟨⟨(am_in3 (i := 238) rfl rfl), (am_in1 (i := 7) rfl rfl), ⟨by decide, by decide, by decide +kernel⟩, by decide⟩, Or.inl (am_in3 (i := 235) rfl rfl), ⟨(am_in3 (i := 236) rfl rfl), (am_in3 (i := 237) rfl rfl)⟩, F_M, 23, rfl⟩
theorem st_L_52 : am_sV "WorksBudgetLaw" 52 m_M_district 2 5 := ⟨⟨(am_in4 (i := 2) rfl rfl), (am_in1 (i := 7) rfl rfl), ⟨by decide, by decide, by decide +kernel⟩, by decide⟩, Or.inl (am_in3 (i := 239) rfl rfl), ⟨(am_in4 (i := 0) rfl rfl), (am_in4 (i := 1) rfl rfl)⟩, F_M, 23, rfl⟩
theorem st_L_57 : am_sV "WorksBudgetLaw" 57 m_M_fair 1 5 := ⟨⟨(am_in4 (i := 7) rfl rfl), (am_in1 (i := 7) rfl rfl), ⟨by decide, by decide, by decide +kernel⟩, by decide⟩, Or.inl (am_in4 (i := 4) rfl rfl), ⟨(am_in4 (i := 5) rfl rfl), (am_in4 (i := 6) rfl rfl)⟩, F_M, 23, rfl⟩
theorem st_L_62 : am_sV "WorksBudgetLaw" 62 m_M_run 1 5 := ⟨⟨(am_in4 (i := 12) rfl rfl), (am_in1 (i := 7) rfl rfl), ⟨by decide, by decide, by decide +kernel⟩, by decide⟩, Or.inl (am_in4 (i := 9) rfl rfl), ⟨(am_in4 (i := 10) rfl rfl), (am_in4 (i := 11) rfl rfl)⟩, F_M, 23, rfl⟩
theorem st_M_142 : am_sV "WorksBudgetModel" 142 m_M_best 1 5 := ⟨⟨(am_in4 (i := 17) rfl rfl), (am_in1 (i := 7) rfl rfl), ⟨by decide, by decide, by decide +kernel⟩, by decide⟩, Or.inl (am_in4 (i := 14) rfl rfl), ⟨(am_in4 (i := 16) rfl rfl), (am_in0 (i := 26) rfl rfl)⟩, F_M, 23, rfl⟩
theorem st_M_131 : am_sV "WorksBudgetModel" 131 m_M_setAt 1 5 := ⟨⟨(am_in4 (i := 21) rfl rfl), (am_in1 (i := 7) rfl rfl), ⟨by decide, by decide, by decide +kernel⟩, by decide⟩, Or.inl (am_in4 (i := 18) rfl rfl), ⟨(am_in4 (i := 20) rfl rfl), (am_in0 (i := 27) rfl rfl)⟩, F_M, 23, rfl⟩
theorem st_M_134 : am_sV "WorksBudgetModel" 134 m_M_holdsWith 2 5 := ⟨⟨(am_in4 (i := 25) rfl rfl), (am_in1 (i := 7) rfl rfl), ⟨by decide, by decide, by decide +kernel⟩, by decide⟩, Or.inl (am_in4 (i := 22) rfl rfl), ⟨(am_in4 (i := 24) rfl rfl), (am_in0 (i := 28) rfl rfl)⟩, F_M, 23, rfl⟩
theorem st_M_110 : am_sV "WorksBudgetModel" 110 m_M_isPlan 1 5 := ⟨⟨(am_in4 (i := 29) rfl rfl), (am_in1 (i := 7) rfl rfl), ⟨by decide, by decide, by decide +kernel⟩, by decide⟩, Or.inl (am_in4 (i := 26) rfl rfl), ⟨(am_in4 (i := 28) rfl rfl), (am_in0 (i := 29) rfl rfl)⟩, F_M, 23, rfl⟩
theorem st_M_117 : am_sV "WorksBudgetModel" 117 m_M_isFair 1 5 := ⟨⟨(am_in4 (i := 33) rfl rfl), (am_in1 (i := 7) rfl rfl), ⟨by decide, by decide, by decide +kernel⟩, by decide⟩, Or.inl (am_in4 (i := 30) rfl rfl), ⟨(am_in4 (i := 32) rfl rfl), (am_in0 (i := 30) rfl rfl)⟩, F_M, 23, rfl⟩
theorem st_M_120 : am_sV "WorksBudgetModel" 120 m_M_fits 1 5 := ⟨⟨(am_in4 (i := 37) rfl rfl), (am_in1 (i := 7) rfl rfl), ⟨by decide, by decide, by decide +kernel⟩, by decide⟩, Or.inl (am_in4 (i := 34) rfl rfl), ⟨(am_in4 (i := 36) rfl rfl), (am_in0 (i := 31) rfl rfl)⟩, F_M, 23, rfl⟩
theorem st_M_113 : am_sV "WorksBudgetModel" 113 m_M_spentIn 2 5 := ⟨⟨(am_in4 (i := 41) rfl rfl), (am_in1 (i := 7) rfl rfl), ⟨by decide, by decide, by decide +kernel⟩, by decide⟩, Or.inl (am_in4 (i := 38) rfl rfl), ⟨(am_in4 (i := 40) rfl rfl), (am_in0 (i := 32) rfl rfl)⟩, F_M, 23, rfl⟩
theorem st_M_137 : am_sV "WorksBudgetModel" 137 m_M_isBetter 2 5 := ⟨⟨(am_in4 (i := 45) rfl rfl), (am_in1 (i := 7) rfl rfl), ⟨by decide, by decide, by decide +kernel⟩, by decide⟩, Or.inl (am_in4 (i := 42) rfl rfl), ⟨(am_in4 (i := 44) rfl rfl), (am_in0 (i := 33) rfl rfl)⟩, F_M, 23, rfl⟩
theorem st_M_123 : am_sV "WorksBudgetModel" 123 m_M_worthOf 1 5 := ⟨⟨(am_in4 (i := 49) rfl rfl), (am_in1 (i := 7) rfl rfl), ⟨by decide, by decide, by decide +kernel⟩, by decide⟩, Or.inl (am_in4 (i := 46) rfl rfl), ⟨(am_in4 (i := 48) rfl rfl), (am_in0 (i := 34) rfl rfl)⟩, F_M, 23, rfl⟩
theorem st_M_127 : am_sV "WorksBudgetModel" 127 m_M_yearsOf 1 5 := ⟨⟨(am_in4 (i := 53) rfl rfl), (am_in1 (i := 7) rfl rfl), ⟨by decide, by decide, by decide +kernel⟩, by decide⟩, Or.inl (am_in4 (i := 50) rfl rfl), ⟨(am_in4 (i := 52) rfl rfl), (am_in0 (i := 35) rfl rfl)⟩, F_M, 23, rfl⟩
theorem st_L_66 : am_sV "WorksBudgetLaw" 66 m_M_chosen 1 5 := ⟨⟨(am_in4 (i := 57) rfl rfl), (am_in1 (i := 7) rfl rfl), ⟨by decide, by decide, by decide +kernel⟩, by decide⟩, Or.inl (am_in4 (i := 54) rfl rfl), ⟨(am_in4 (i := 55) rfl rfl), (am_in4 (i := 56) rfl rfl)⟩, F_M, 23, rfl⟩
theorem st_L_71 : am_sV "WorksBudgetLaw" 71 m_M_worth 0 5 := ⟨⟨(am_in4 (i := 61) rfl rfl), (am_in1 (i := 7) rfl rfl), ⟨by decide, by decide, by decide +kernel⟩, by decide⟩, Or.inl (am_in4 (i := 58) rfl rfl), ⟨(am_in4 (i := 59) rfl rfl), (am_in4 (i := 60) rfl rfl)⟩, F_M, 23, rfl⟩
theorem st_L_76 : am_sV "WorksBudgetLaw" 76 m_M_bound 1 5 := ⟨⟨(am_in4 (i := 65) rfl rfl), (am_in1 (i := 7) rfl rfl), ⟨by decide, by decide, by decide +kernel⟩, by decide⟩, Or.inl (am_in4 (i := 62) rfl rfl), ⟨(am_in4 (i := 63) rfl rfl), (am_in4 (i := 64) rfl rfl)⟩, F_M, 23, rfl⟩
theorem st_M_149 : am_sV "WorksBudgetModel" 149 m_M_mostWorth 2 5 := ⟨⟨(am_in4 (i := 69) rfl rfl), (am_in1 (i := 7) rfl rfl), ⟨by decide, by decide, by decide +kernel⟩, by decide⟩, Or.inl (am_in4 (i := 66) rfl rfl), ⟨(am_in4 (i := 68) rfl rfl), (am_in0 (i := 36) rfl rfl)⟩, F_M, 23, rfl⟩
theorem st_M_152 : am_sV "WorksBudgetModel" 152 m_M_byPrice 2 5 := ⟨⟨(am_in4 (i := 73) rfl rfl), (am_in1 (i := 7) rfl rfl), ⟨by decide, by decide, by decide +kernel⟩, by decide⟩, Or.inl (am_in4 (i := 70) rfl rfl), ⟨(am_in4 (i := 72) rfl rfl), (am_in0 (i := 37) rfl rfl)⟩, F_M, 23, rfl⟩
theorem st_M_146 : am_sV "WorksBudgetModel" 146 m_M_savedBy 1 5 := ⟨⟨(am_in4 (i := 77) rfl rfl), (am_in1 (i := 7) rfl rfl), ⟨by decide, by decide, by decide +kernel⟩, by decide⟩, Or.inl (am_in4 (i := 74) rfl rfl), ⟨(am_in4 (i := 76) rfl rfl), (am_in0 (i := 38) rfl rfl)⟩, F_M, 23, rfl⟩
theorem st_L_80 : am_sV "WorksBudgetLaw" 80 m_M_clash 1 5 := ⟨⟨(am_in4 (i := 81) rfl rfl), (am_in1 (i := 7) rfl rfl), ⟨by decide, by decide, by decide +kernel⟩, by decide⟩, Or.inl (am_in4 (i := 78) rfl rfl), ⟨(am_in4 (i := 79) rfl rfl), (am_in4 (i := 80) rfl rfl)⟩, F_M, 23, rfl⟩
theorem st_M_156 : am_sV "WorksBudgetModel" 156 m_M_someHolds 1 5 := ⟨⟨(am_in4 (i := 85) rfl rfl), (am_in1 (i := 7) rfl rfl), ⟨by decide, by decide, by decide +kernel⟩, by decide⟩, Or.inl (am_in4 (i := 82) rfl rfl), ⟨(am_in4 (i := 84) rfl rfl), (am_in0 (i := 39) rfl rfl)⟩, F_M, 23, rfl⟩
theorem st_L_85 : am_sV "WorksBudgetLaw" 85 m_M_proved 0 5 := ⟨⟨(am_in4 (i := 89) rfl rfl), (am_in1 (i := 7) rfl rfl), ⟨by decide, by decide, by decide +kernel⟩, by decide⟩, Or.inl (am_in4 (i := 86) rfl rfl), ⟨(am_in4 (i := 87) rfl rfl), (am_in4 (i := 88) rfl rfl)⟩, F_M, 23, rfl⟩
theorem st_L_90 : am_sV "WorksBudgetLaw" 90 m_M_price 2 5 := ⟨⟨(am_in4 (i := 93) rfl rfl), (am_in1 (i := 7) rfl rfl), ⟨by decide, by decide, by decide +kernel⟩, by decide⟩, Or.inl (am_in4 (i := 90) rfl rfl), ⟨(am_in4 (i := 91) rfl rfl), (am_in4 (i := 92) rfl rfl)⟩, F_M, 23, rfl⟩
theorem st_M_159 : am_sV "WorksBudgetModel" 159 m_M_bound 1 5 := ⟨⟨(am_in4 (i := 65) rfl rfl), (am_in1 (i := 7) rfl rfl), ⟨by decide, by decide, by decide +kernel⟩, by decide⟩, Or.inl (am_in4 (i := 94) rfl rfl), ⟨(am_in4 (i := 63) rfl rfl), (am_in4 (i := 64) rfl rfl)⟩, F_M, 23, rfl⟩
theorem st_L_95 : am_sV "WorksBudgetLaw" 95 m_M_old 2 5 := ⟨⟨(am_in4 (i := 99) rfl rfl), (am_in1 (i := 7) rfl rfl), ⟨by decide, by decide, by decide +kernel⟩, by decide⟩, Or.inl (am_in4 (i := 96) rfl rfl), ⟨(am_in4 (i := 97) rfl rfl), (am_in4 (i := 98) rfl rfl)⟩, F_M, 23, rfl⟩
theorem st_L_99 : am_sV "WorksBudgetLaw" 99 m_M_changes 1 5 := ⟨⟨(am_in4 (i := 103) rfl rfl), (am_in1 (i := 7) rfl rfl), ⟨by decide, by decide, by decide +kernel⟩, by decide⟩, Or.inl (am_in4 (i := 100) rfl rfl), ⟨(am_in4 (i := 101) rfl rfl), (am_in4 (i := 102) rfl rfl)⟩, F_M, 23, rfl⟩
theorem st_M_167 : am_sV "WorksBudgetModel" 167 m_M_differ 1 5 := ⟨⟨(am_in4 (i := 107) rfl rfl), (am_in1 (i := 7) rfl rfl), ⟨by decide, by decide, by decide +kernel⟩, by decide⟩, Or.inl (am_in4 (i := 104) rfl rfl), ⟨(am_in4 (i := 106) rfl rfl), (am_in0 (i := 40) rfl rfl)⟩, F_M, 23, rfl⟩
theorem st_L_103 : am_sV "WorksBudgetLaw" 103 m_M_changed 1 5 := ⟨⟨(am_in4 (i := 111) rfl rfl), (am_in1 (i := 7) rfl rfl), ⟨by decide, by decide, by decide +kernel⟩, by decide⟩, Or.inl (am_in4 (i := 108) rfl rfl), ⟨(am_in4 (i := 109) rfl rfl), (am_in4 (i := 110) rfl rfl)⟩, F_M, 23, rfl⟩
theorem st_L_107 : am_sV "WorksBudgetLaw" 107 m_M_backlog 1 5 := ⟨⟨(am_in4 (i := 115) rfl rfl), (am_in1 (i := 7) rfl rfl), ⟨by decide, by decide, by decide +kernel⟩, by decide⟩, Or.inl (am_in4 (i := 112) rfl rfl), ⟨(am_in4 (i := 113) rfl rfl), (am_in4 (i := 114) rfl rfl)⟩, F_M, 23, rfl⟩
theorem st_L_111 : am_sV "WorksBudgetLaw" 111 m_M_rank 1 5 := ⟨⟨(am_in4 (i := 119) rfl rfl), (am_in1 (i := 7) rfl rfl), ⟨by decide, by decide, by decide +kernel⟩, by decide⟩, Or.inl (am_in4 (i := 116) rfl rfl), ⟨(am_in4 (i := 117) rfl rfl), (am_in4 (i := 118) rfl rfl)⟩, F_M, 23, rfl⟩
theorem st_L_115 : am_sV "WorksBudgetLaw" 115 m_M_share 2 5 := ⟨⟨(am_in4 (i := 123) rfl rfl), (am_in1 (i := 7) rfl rfl), ⟨by decide, by decide, by decide +kernel⟩, by decide⟩, Or.inl (am_in4 (i := 120) rfl rfl), ⟨(am_in4 (i := 121) rfl rfl), (am_in4 (i := 122) rfl rfl)⟩, F_M, 23, rfl⟩
theorem st_L_119 : am_sV "WorksBudgetLaw" 119 m_M_policy 1 5 := ⟨⟨(am_in4 (i := 127) rfl rfl), (am_in1 (i := 7) rfl rfl), ⟨by decide, by decide, by decide +kernel⟩, by decide⟩, Or.inl (am_in4 (i := 124) rfl rfl), ⟨(am_in4 (i := 125) rfl rfl), (am_in4 (i := 126) rfl rfl)⟩, F_M, 23, rfl⟩
theorem st_M_174 : am_sV "WorksBudgetModel" 174 m_M_planBy 1 5 := ⟨⟨(am_in4 (i := 131) rfl rfl), (am_in1 (i := 7) rfl rfl), ⟨by decide, by decide, by decide +kernel⟩, by decide⟩, Or.inl (am_in4 (i := 128) rfl rfl), ⟨(am_in4 (i := 130) rfl rfl), (am_in0 (i := 41) rfl rfl)⟩, F_M, 23, rfl⟩
theorem st_M_170 : am_sV "WorksBudgetModel" 170 m_M_comesBefore 3 5 := ⟨⟨(am_in4 (i := 135) rfl rfl), (am_in1 (i := 7) rfl rfl), ⟨by decide, by decide, by decide +kernel⟩, by decide⟩, Or.inl (am_in4 (i := 132) rfl rfl), ⟨(am_in4 (i := 134) rfl rfl), (am_in0 (i := 42) rfl rfl)⟩, F_M, 23, rfl⟩
theorem st_L_123 : am_sV "WorksBudgetLaw" 123 m_M_compare 2 5 := ⟨⟨(am_in4 (i := 139) rfl rfl), (am_in1 (i := 7) rfl rfl), ⟨by decide, by decide, by decide +kernel⟩, by decide⟩, Or.inl (am_in4 (i := 136) rfl rfl), ⟨(am_in4 (i := 137) rfl rfl), (am_in4 (i := 138) rfl rfl)⟩, F_M, 23, rfl⟩
theorem st_L_128 : am_sV "WorksBudgetLaw" 128 m_M_list 2 5 := ⟨⟨(am_in4 (i := 143) rfl rfl), (am_in1 (i := 7) rfl rfl), ⟨by decide, by decide, by decide +kernel⟩, by decide⟩, Or.inl (am_in4 (i := 140) rfl rfl), ⟨(am_in4 (i := 141) rfl rfl), (am_in4 (i := 142) rfl rfl)⟩, F_M, 23, rfl⟩
theorem st_L_132 : am_sV "WorksBudgetLaw" 132 m_M_earlier 1 5 := ⟨⟨(am_in4 (i := 147) rfl rfl), (am_in1 (i := 7) rfl rfl), ⟨by decide, by decide, by decide +kernel⟩, by decide⟩, Or.inl (am_in4 (i := 144) rfl rfl), ⟨(am_in4 (i := 145) rfl rfl), (am_in4 (i := 146) rfl rfl)⟩, F_M, 23, rfl⟩
theorem st_L_136 : am_sV "WorksBudgetLaw" 136 m_M_holds 1 5 := ⟨⟨(am_in4 (i := 151) rfl rfl), (am_in1 (i := 7) rfl rfl), ⟨by decide, by decide, by decide +kernel⟩, by decide⟩, Or.inl (am_in4 (i := 148) rfl rfl), ⟨(am_in4 (i := 149) rfl rfl), (am_in4 (i := 150) rfl rfl)⟩, F_M, 23, rfl⟩
end
