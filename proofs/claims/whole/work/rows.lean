section
-- ===== PART A: goes FIRST, ahead of the names: the tables' words, and 'selects' of the private methods out of them =====
/-- a private method of a class that the tables say can be made, by its rows of tables_1 -/
def lw_okq (q : MethodName × Nat) : Prop := (q.1.cls ≠ "java/lang/invoke/MethodHandle" ∧ q.1.cls ≠ "java/lang/invoke/VarHandle") ∧ Cond.instantiable q.1.cls q.2 ∈ tables_1 ∧ Cond.privateMethod q.1 ∈ tables_1 ∧ Cond.instanceMethod q.1 ∈ tables_1
theorem lw_p0 : lw_okq (⟨"WorksBudget", "forget", "()V"⟩, 11) := ⟨⟨by decide +kernel, by decide +kernel⟩, List.mem_of_getElem? (i := 11) (by decide +kernel), List.mem_of_getElem? (i := 239) (by decide +kernel), List.mem_of_getElem? (i := 240) (by decide +kernel)⟩
theorem lw_p1 : lw_okq (⟨"WorksBudget$Search", "prepare", "(JI)V"⟩, 20) := ⟨⟨by decide +kernel, by decide +kernel⟩, List.mem_of_getElem? (i := 110) (by decide +kernel), List.mem_of_getElem? (i := 321) (by decide +kernel), List.mem_of_getElem? (i := 322) (by decide +kernel)⟩
theorem lw_p2 : lw_okq (⟨"WorksBudget$Search", "prepareRests", "()V"⟩, 20) := ⟨⟨by decide +kernel, by decide +kernel⟩, List.mem_of_getElem? (i := 110) (by decide +kernel), List.mem_of_getElem? (i := 329) (by decide +kernel), List.mem_of_getElem? (i := 330) (by decide +kernel)⟩
theorem lw_p3 : lw_okq (⟨"WorksBudget$Search", "lookFrom", "(IJ)V"⟩, 20) := ⟨⟨by decide +kernel, by decide +kernel⟩, List.mem_of_getElem? (i := 110) (by decide +kernel), List.mem_of_getElem? (i := 337) (by decide +kernel), List.mem_of_getElem? (i := 338) (by decide +kernel)⟩
theorem lw_p4 : lw_okq (⟨"WorksBudget$Search", "isHopeless", "(I)Z"⟩, 20) := ⟨⟨by decide +kernel, by decide +kernel⟩, List.mem_of_getElem? (i := 110) (by decide +kernel), List.mem_of_getElem? (i := 341) (by decide +kernel), List.mem_of_getElem? (i := 342) (by decide +kernel)⟩
theorem lw_p5 : lw_okq (⟨"WorksBudget$Search", "countOfChanges", "(I)I"⟩, 20) := ⟨⟨by decide +kernel, by decide +kernel⟩, List.mem_of_getElem? (i := 110) (by decide +kernel), List.mem_of_getElem? (i := 345) (by decide +kernel), List.mem_of_getElem? (i := 346) (by decide +kernel)⟩
theorem lw_p6 : lw_okq (⟨"WorksBudget$Search", "weigh", "()V"⟩, 20) := ⟨⟨by decide +kernel, by decide +kernel⟩, List.mem_of_getElem? (i := 110) (by decide +kernel), List.mem_of_getElem? (i := 355) (by decide +kernel), List.mem_of_getElem? (i := 356) (by decide +kernel)⟩
theorem lw_p7 : lw_okq (⟨"WorksBudget$Search", "isFair", "()Z"⟩, 20) := ⟨⟨by decide +kernel, by decide +kernel⟩, List.mem_of_getElem? (i := 110) (by decide +kernel), List.mem_of_getElem? (i := 359) (by decide +kernel), List.mem_of_getElem? (i := 360) (by decide +kernel)⟩
theorem lw_p8 : lw_okq (⟨"WorksBudget$Search", "isBetter", "(I)Z"⟩, 20) := ⟨⟨by decide +kernel, by decide +kernel⟩, List.mem_of_getElem? (i := 110) (by decide +kernel), List.mem_of_getElem? (i := 365) (by decide +kernel), List.mem_of_getElem? (i := 366) (by decide +kernel)⟩
theorem lw_p9 : lw_okq (⟨"WorksBudget$Search", "lookWith", "(IJ)V"⟩, 20) := ⟨⟨by decide +kernel, by decide +kernel⟩, List.mem_of_getElem? (i := 110) (by decide +kernel), List.mem_of_getElem? (i := 369) (by decide +kernel), List.mem_of_getElem? (i := 370) (by decide +kernel)⟩
theorem lw_p10 : lw_okq (⟨"WorksBudget$Search", "pick", "(II)V"⟩, 20) := ⟨⟨by decide +kernel, by decide +kernel⟩, List.mem_of_getElem? (i := 110) (by decide +kernel), List.mem_of_getElem? (i := 373) (by decide +kernel), List.mem_of_getElem? (i := 374) (by decide +kernel)⟩
theorem lw_p11 : lw_okq (⟨"WorksBudget$Search", "isOverspent", "(I)Z"⟩, 20) := ⟨⟨by decide +kernel, by decide +kernel⟩, List.mem_of_getElem? (i := 110) (by decide +kernel), List.mem_of_getElem? (i := 381) (by decide +kernel), List.mem_of_getElem? (i := 382) (by decide +kernel)⟩
theorem lw_p12 : lw_okq (⟨"WorksBudget$Search", "lookWithout", "(IJ)V"⟩, 20) := ⟨⟨by decide +kernel, by decide +kernel⟩, List.mem_of_getElem? (i := 110) (by decide +kernel), List.mem_of_getElem? (i := 385) (by decide +kernel), List.mem_of_getElem? (i := 386) (by decide +kernel)⟩
theorem lw_p13 : lw_okq (⟨"WorksBudget", "planOrNothing", "()I"⟩, 11) := ⟨⟨by decide +kernel, by decide +kernel⟩, List.mem_of_getElem? (i := 11) (by decide +kernel), List.mem_of_getElem? (i := 397) (by decide +kernel), List.mem_of_getElem? (i := 398) (by decide +kernel)⟩
theorem lw_p14 : lw_okq (⟨"WorksBudget$Bounds", "byPrice", "(JJJ)J"⟩, 1) := ⟨⟨by decide +kernel, by decide +kernel⟩, List.mem_of_getElem? (i := 178) (by decide +kernel), List.mem_of_getElem? (i := 432) (by decide +kernel), List.mem_of_getElem? (i := 433) (by decide +kernel)⟩
theorem lw_p15 : lw_okq (⟨"WorksBudget$Bounds", "mostPartsOf", "(IJJ)J"⟩, 1) := ⟨⟨by decide +kernel, by decide +kernel⟩, List.mem_of_getElem? (i := 178) (by decide +kernel), List.mem_of_getElem? (i := 436) (by decide +kernel), List.mem_of_getElem? (i := 437) (by decide +kernel)⟩
def lw_privs_1 : List (MethodName × Nat) := [(⟨"WorksBudget", "forget", "()V"⟩, 11), (⟨"WorksBudget$Search", "prepare", "(JI)V"⟩, 20), (⟨"WorksBudget$Search", "prepareRests", "()V"⟩, 20), (⟨"WorksBudget$Search", "lookFrom", "(IJ)V"⟩, 20), (⟨"WorksBudget$Search", "isHopeless", "(I)Z"⟩, 20), (⟨"WorksBudget$Search", "countOfChanges", "(I)I"⟩, 20), (⟨"WorksBudget$Search", "weigh", "()V"⟩, 20), (⟨"WorksBudget$Search", "isFair", "()Z"⟩, 20), (⟨"WorksBudget$Search", "isBetter", "(I)Z"⟩, 20), (⟨"WorksBudget$Search", "lookWith", "(IJ)V"⟩, 20), (⟨"WorksBudget$Search", "pick", "(II)V"⟩, 20), (⟨"WorksBudget$Search", "isOverspent", "(I)Z"⟩, 20), (⟨"WorksBudget$Search", "lookWithout", "(IJ)V"⟩, 20), (⟨"WorksBudget", "planOrNothing", "()I"⟩, 11), (⟨"WorksBudget$Bounds", "byPrice", "(JJJ)J"⟩, 1), (⟨"WorksBudget$Bounds", "mostPartsOf", "(IJJ)J"⟩, 1)]
theorem lw_r1 : ∀ q ∈ lw_privs_1, lw_okq q := List.forall_mem_cons.mpr ⟨lw_p0, List.forall_mem_cons.mpr ⟨lw_p1, List.forall_mem_cons.mpr ⟨lw_p2, List.forall_mem_cons.mpr ⟨lw_p3, List.forall_mem_cons.mpr ⟨lw_p4, List.forall_mem_cons.mpr ⟨lw_p5, List.forall_mem_cons.mpr ⟨lw_p6, List.forall_mem_cons.mpr ⟨lw_p7, List.forall_mem_cons.mpr ⟨lw_p8, List.forall_mem_cons.mpr ⟨lw_p9, List.forall_mem_cons.mpr ⟨lw_p10, List.forall_mem_cons.mpr ⟨lw_p11, List.forall_mem_cons.mpr ⟨lw_p12, List.forall_mem_cons.mpr ⟨lw_p13, List.forall_mem_cons.mpr ⟨lw_p14, List.forall_mem_cons.mpr ⟨lw_p15, fun _ h => absurd h List.not_mem_nil⟩⟩⟩⟩⟩⟩⟩⟩⟩⟩⟩⟩⟩⟩⟩⟩
theorem lw_p16 : lw_okq (⟨"WorksBudget", "clashingMusts", "()I"⟩, 11) := ⟨⟨by decide +kernel, by decide +kernel⟩, List.mem_of_getElem? (i := 11) (by decide +kernel), List.mem_of_getElem? (i := 458) (by decide +kernel), List.mem_of_getElem? (i := 459) (by decide +kernel)⟩
theorem lw_p17 : lw_okq (⟨"WorksBudget", "gainOfBest", "(I)J"⟩, 11) := ⟨⟨by decide +kernel, by decide +kernel⟩, List.mem_of_getElem? (i := 11) (by decide +kernel), List.mem_of_getElem? (i := 473) (by decide +kernel), List.mem_of_getElem? (i := 474) (by decide +kernel)⟩
theorem lw_p18 : lw_okq (⟨"WorksBudget", "countOfThingsBefore", "(I)I"⟩, 11) := ⟨⟨by decide +kernel, by decide +kernel⟩, List.mem_of_getElem? (i := 11) (by decide +kernel), List.mem_of_getElem? (i := 514) (by decide +kernel), List.mem_of_getElem? (i := 515) (by decide +kernel)⟩
theorem lw_p19 : lw_okq (⟨"WorksBudget$Policies", "isPossible", "(I)Z"⟩, 2) := ⟨⟨by decide +kernel, by decide +kernel⟩, List.mem_of_getElem? (i := 188) (by decide +kernel), List.mem_of_getElem? (i := 543) (by decide +kernel), List.mem_of_getElem? (i := 544) (by decide +kernel)⟩
theorem lw_p20 : lw_okq (⟨"WorksBudget$Policies", "putInOrder", "(I)V"⟩, 2) := ⟨⟨by decide +kernel, by decide +kernel⟩, List.mem_of_getElem? (i := 188) (by decide +kernel), List.mem_of_getElem? (i := 563) (by decide +kernel), List.mem_of_getElem? (i := 564) (by decide +kernel)⟩
theorem lw_p21 : lw_okq (⟨"WorksBudget$Policies", "goesBefore", "(III)Z"⟩, 2) := ⟨⟨by decide +kernel, by decide +kernel⟩, List.mem_of_getElem? (i := 188) (by decide +kernel), List.mem_of_getElem? (i := 567) (by decide +kernel), List.mem_of_getElem? (i := 568) (by decide +kernel)⟩
theorem lw_p22 : lw_okq (⟨"WorksBudget$Policies", "leadByWorthByCost", "(II)J"⟩, 2) := ⟨⟨by decide +kernel, by decide +kernel⟩, List.mem_of_getElem? (i := 188) (by decide +kernel), List.mem_of_getElem? (i := 571) (by decide +kernel), List.mem_of_getElem? (i := 572) (by decide +kernel)⟩
theorem lw_p23 : lw_okq (⟨"WorksBudgetModel", "tell", "()V"⟩, 23) := ⟨⟨by decide +kernel, by decide +kernel⟩, List.mem_of_getElem? (i := 602) (by decide +kernel), List.mem_of_getElem? (i := 687) (by decide +kernel), List.mem_of_getElem? (i := 688) (by decide +kernel)⟩
theorem lw_p24 : lw_okq (⟨"WorksBudgetModel", "isChoice", "(I)Z"⟩, 23) := ⟨⟨by decide +kernel, by decide +kernel⟩, List.mem_of_getElem? (i := 602) (by decide +kernel), List.mem_of_getElem? (i := 700) (by decide +kernel), List.mem_of_getElem? (i := 701) (by decide +kernel)⟩
theorem lw_p25 : lw_okq (⟨"WorksBudgetModel", "isYear", "(I)Z"⟩, 23) := ⟨⟨by decide +kernel, by decide +kernel⟩, List.mem_of_getElem? (i := 602) (by decide +kernel), List.mem_of_getElem? (i := 711) (by decide +kernel), List.mem_of_getElem? (i := 712) (by decide +kernel)⟩
theorem lw_p26 : lw_okq (⟨"WorksBudgetModel", "best", "(J)I"⟩, 23) := ⟨⟨by decide +kernel, by decide +kernel⟩, List.mem_of_getElem? (i := 602) (by decide +kernel), List.mem_of_getElem? (i := 735) (by decide +kernel), List.mem_of_getElem? (i := 736) (by decide +kernel)⟩
theorem lw_p27 : lw_okq (⟨"WorksBudgetModel", "setAt", "(I)I"⟩, 23) := ⟨⟨by decide +kernel, by decide +kernel⟩, List.mem_of_getElem? (i := 602) (by decide +kernel), List.mem_of_getElem? (i := 739) (by decide +kernel), List.mem_of_getElem? (i := 740) (by decide +kernel)⟩
theorem lw_p28 : lw_okq (⟨"WorksBudgetModel", "holdsWith", "(II)Z"⟩, 23) := ⟨⟨by decide +kernel, by decide +kernel⟩, List.mem_of_getElem? (i := 602) (by decide +kernel), List.mem_of_getElem? (i := 743) (by decide +kernel), List.mem_of_getElem? (i := 744) (by decide +kernel)⟩
theorem lw_p29 : lw_okq (⟨"WorksBudgetModel", "isPlan", "(I)Z"⟩, 23) := ⟨⟨by decide +kernel, by decide +kernel⟩, List.mem_of_getElem? (i := 602) (by decide +kernel), List.mem_of_getElem? (i := 747) (by decide +kernel), List.mem_of_getElem? (i := 748) (by decide +kernel)⟩
theorem lw_p30 : lw_okq (⟨"WorksBudgetModel", "isFair", "(I)Z"⟩, 23) := ⟨⟨by decide +kernel, by decide +kernel⟩, List.mem_of_getElem? (i := 602) (by decide +kernel), List.mem_of_getElem? (i := 751) (by decide +kernel), List.mem_of_getElem? (i := 752) (by decide +kernel)⟩
theorem lw_p31 : lw_okq (⟨"WorksBudgetModel", "fits", "(I)Z"⟩, 23) := ⟨⟨by decide +kernel, by decide +kernel⟩, List.mem_of_getElem? (i := 602) (by decide +kernel), List.mem_of_getElem? (i := 755) (by decide +kernel), List.mem_of_getElem? (i := 756) (by decide +kernel)⟩
def lw_privs_2 : List (MethodName × Nat) := [(⟨"WorksBudget", "clashingMusts", "()I"⟩, 11), (⟨"WorksBudget", "gainOfBest", "(I)J"⟩, 11), (⟨"WorksBudget", "countOfThingsBefore", "(I)I"⟩, 11), (⟨"WorksBudget$Policies", "isPossible", "(I)Z"⟩, 2), (⟨"WorksBudget$Policies", "putInOrder", "(I)V"⟩, 2), (⟨"WorksBudget$Policies", "goesBefore", "(III)Z"⟩, 2), (⟨"WorksBudget$Policies", "leadByWorthByCost", "(II)J"⟩, 2), (⟨"WorksBudgetModel", "tell", "()V"⟩, 23), (⟨"WorksBudgetModel", "isChoice", "(I)Z"⟩, 23), (⟨"WorksBudgetModel", "isYear", "(I)Z"⟩, 23), (⟨"WorksBudgetModel", "best", "(J)I"⟩, 23), (⟨"WorksBudgetModel", "setAt", "(I)I"⟩, 23), (⟨"WorksBudgetModel", "holdsWith", "(II)Z"⟩, 23), (⟨"WorksBudgetModel", "isPlan", "(I)Z"⟩, 23), (⟨"WorksBudgetModel", "isFair", "(I)Z"⟩, 23), (⟨"WorksBudgetModel", "fits", "(I)Z"⟩, 23)]
theorem lw_r2 : ∀ q ∈ lw_privs_2, lw_okq q := List.forall_mem_cons.mpr ⟨lw_p16, List.forall_mem_cons.mpr ⟨lw_p17, List.forall_mem_cons.mpr ⟨lw_p18, List.forall_mem_cons.mpr ⟨lw_p19, List.forall_mem_cons.mpr ⟨lw_p20, List.forall_mem_cons.mpr ⟨lw_p21, List.forall_mem_cons.mpr ⟨lw_p22, List.forall_mem_cons.mpr ⟨lw_p23, List.forall_mem_cons.mpr ⟨lw_p24, List.forall_mem_cons.mpr ⟨lw_p25, List.forall_mem_cons.mpr ⟨lw_p26, List.forall_mem_cons.mpr ⟨lw_p27, List.forall_mem_cons.mpr ⟨lw_p28, List.forall_mem_cons.mpr ⟨lw_p29, List.forall_mem_cons.mpr ⟨lw_p30, List.forall_mem_cons.mpr ⟨lw_p31, fun _ h => absurd h List.not_mem_nil⟩⟩⟩⟩⟩⟩⟩⟩⟩⟩⟩⟩⟩⟩⟩⟩
theorem lw_p32 : lw_okq (⟨"WorksBudgetModel", "spentIn", "(II)J"⟩, 23) := ⟨⟨by decide +kernel, by decide +kernel⟩, List.mem_of_getElem? (i := 602) (by decide +kernel), List.mem_of_getElem? (i := 759) (by decide +kernel), List.mem_of_getElem? (i := 760) (by decide +kernel)⟩
theorem lw_p33 : lw_okq (⟨"WorksBudgetModel", "isBetter", "(II)Z"⟩, 23) := ⟨⟨by decide +kernel, by decide +kernel⟩, List.mem_of_getElem? (i := 602) (by decide +kernel), List.mem_of_getElem? (i := 763) (by decide +kernel), List.mem_of_getElem? (i := 764) (by decide +kernel)⟩
theorem lw_p34 : lw_okq (⟨"WorksBudgetModel", "worthOf", "(I)J"⟩, 23) := ⟨⟨by decide +kernel, by decide +kernel⟩, List.mem_of_getElem? (i := 602) (by decide +kernel), List.mem_of_getElem? (i := 767) (by decide +kernel), List.mem_of_getElem? (i := 768) (by decide +kernel)⟩
theorem lw_p35 : lw_okq (⟨"WorksBudgetModel", "yearsOf", "(I)I"⟩, 23) := ⟨⟨by decide +kernel, by decide +kernel⟩, List.mem_of_getElem? (i := 602) (by decide +kernel), List.mem_of_getElem? (i := 771) (by decide +kernel), List.mem_of_getElem? (i := 772) (by decide +kernel)⟩
theorem lw_p36 : lw_okq (⟨"WorksBudgetModel", "mostWorth", "(II)J"⟩, 23) := ⟨⟨by decide +kernel, by decide +kernel⟩, List.mem_of_getElem? (i := 602) (by decide +kernel), List.mem_of_getElem? (i := 787) (by decide +kernel), List.mem_of_getElem? (i := 788) (by decide +kernel)⟩
theorem lw_p37 : lw_okq (⟨"WorksBudgetModel", "byPrice", "(JJ)J"⟩, 23) := ⟨⟨by decide +kernel, by decide +kernel⟩, List.mem_of_getElem? (i := 602) (by decide +kernel), List.mem_of_getElem? (i := 791) (by decide +kernel), List.mem_of_getElem? (i := 792) (by decide +kernel)⟩
theorem lw_p38 : lw_okq (⟨"WorksBudgetModel", "savedBy", "(I)J"⟩, 23) := ⟨⟨by decide +kernel, by decide +kernel⟩, List.mem_of_getElem? (i := 602) (by decide +kernel), List.mem_of_getElem? (i := 795) (by decide +kernel), List.mem_of_getElem? (i := 796) (by decide +kernel)⟩
theorem lw_p39 : lw_okq (⟨"WorksBudgetModel", "someHolds", "(I)Z"⟩, 23) := ⟨⟨by decide +kernel, by decide +kernel⟩, List.mem_of_getElem? (i := 602) (by decide +kernel), List.mem_of_getElem? (i := 803) (by decide +kernel), List.mem_of_getElem? (i := 804) (by decide +kernel)⟩
theorem lw_p40 : lw_okq (⟨"WorksBudgetModel", "differ", "(I)I"⟩, 23) := ⟨⟨by decide +kernel, by decide +kernel⟩, List.mem_of_getElem? (i := 602) (by decide +kernel), List.mem_of_getElem? (i := 825) (by decide +kernel), List.mem_of_getElem? (i := 826) (by decide +kernel)⟩
theorem lw_p41 : lw_okq (⟨"WorksBudgetModel", "planBy", "(I)I"⟩, 23) := ⟨⟨by decide +kernel, by decide +kernel⟩, List.mem_of_getElem? (i := 602) (by decide +kernel), List.mem_of_getElem? (i := 849) (by decide +kernel), List.mem_of_getElem? (i := 850) (by decide +kernel)⟩
theorem lw_p42 : lw_okq (⟨"WorksBudgetModel", "comesBefore", "(III)Z"⟩, 23) := ⟨⟨by decide +kernel, by decide +kernel⟩, List.mem_of_getElem? (i := 602) (by decide +kernel), List.mem_of_getElem? (i := 853) (by decide +kernel), List.mem_of_getElem? (i := 854) (by decide +kernel)⟩
def lw_privs_3 : List (MethodName × Nat) := [(⟨"WorksBudgetModel", "spentIn", "(II)J"⟩, 23), (⟨"WorksBudgetModel", "isBetter", "(II)Z"⟩, 23), (⟨"WorksBudgetModel", "worthOf", "(I)J"⟩, 23), (⟨"WorksBudgetModel", "yearsOf", "(I)I"⟩, 23), (⟨"WorksBudgetModel", "mostWorth", "(II)J"⟩, 23), (⟨"WorksBudgetModel", "byPrice", "(JJ)J"⟩, 23), (⟨"WorksBudgetModel", "savedBy", "(I)J"⟩, 23), (⟨"WorksBudgetModel", "someHolds", "(I)Z"⟩, 23), (⟨"WorksBudgetModel", "differ", "(I)I"⟩, 23), (⟨"WorksBudgetModel", "planBy", "(I)I"⟩, 23), (⟨"WorksBudgetModel", "comesBefore", "(III)Z"⟩, 23)]
theorem lw_r3 : ∀ q ∈ lw_privs_3, lw_okq q := List.forall_mem_cons.mpr ⟨lw_p32, List.forall_mem_cons.mpr ⟨lw_p33, List.forall_mem_cons.mpr ⟨lw_p34, List.forall_mem_cons.mpr ⟨lw_p35, List.forall_mem_cons.mpr ⟨lw_p36, List.forall_mem_cons.mpr ⟨lw_p37, List.forall_mem_cons.mpr ⟨lw_p38, List.forall_mem_cons.mpr ⟨lw_p39, List.forall_mem_cons.mpr ⟨lw_p40, List.forall_mem_cons.mpr ⟨lw_p41, List.forall_mem_cons.mpr ⟨lw_p42, fun _ h => absurd h List.not_mem_nil⟩⟩⟩⟩⟩⟩⟩⟩⟩⟩⟩
def lw_privs : List (MethodName × Nat) := lw_privs_1 ++ (lw_privs_2 ++ (lw_privs_3))
def lw_tbl : List Cond := k2_sels lw_privs ++ tables_1
theorem lw_privs_ok : ∀ q ∈ lw_privs, lw_okq q := by
  show ∀ q ∈ lw_privs_1 ++ (lw_privs_2 ++ (lw_privs_3)), lw_okq q
  exact List.forall_mem_append.mpr ⟨lw_r1, List.forall_mem_append.mpr ⟨lw_r2, lw_r3⟩⟩
def F_W : u_T := fun k => match k with
  | 0 => ("WorksBudget$Works", "years", "I", true)
  | 1 => ("WorksBudget$Works", "budgets", "[J", true)
  | 2 => ("WorksBudget$Works", "things", "I", false)
  | 3 => ("WorksBudget$Works", "placeOf", "[I", true)
  | 4 => ("WorksBudget$Works", "districtOf", "[I", true)
  | 5 => ("WorksBudget$Works", "choices", "I", false)
  | 6 => ("WorksBudget$Works", "thingOf", "[I", true)
  | 7 => ("WorksBudget$Works", "yearOf", "[I", true)
  | 8 => ("WorksBudget$Works", "costOf", "[J", true)
  | 9 => ("WorksBudget$Works", "worthOf", "[J", true)
  | 10 => ("WorksBudget$Works", "musts", "I", false)
  | 11 => ("WorksBudget$Works", "joins", "I", false)
  | 12 => ("WorksBudget$Works", "joinedTo", "[I", true)
  | 13 => ("WorksBudget$Works", "saves", "[[J", true)
  | _ => ("WorksBudget$Works", "fairness", "J", false)
def t_W : Nat → FieldType := fun k => match k with
  | 0 => .int
  | 1 => .array .long
  | 2 => .int
  | 3 => .array .int
  | 4 => .array .int
  | 5 => .int
  | 6 => .array .int
  | 7 => .array .int
  | 8 => .array .long
  | 9 => .array .long
  | 10 => .int
  | 11 => .int
  | 12 => .array .int
  | 13 => .array (.array .long)
  | _ => .long
def F_S : u_T := fun k => match k with
  | 0 => ("WorksBudget$Search", "works", "LWorksBudget$Works;", true)
  | 1 => ("WorksBudget$Search", "nodes", "J", false)
  | 2 => ("WorksBudget$Search", "musts", "I", false)
  | 3 => ("WorksBudget$Search", "oldPlan", "I", false)
  | 4 => ("WorksBudget$Search", "compared", "I", false)
  | 5 => ("WorksBudget$Search", "oneIsEnough", "Z", false)
  | 6 => ("WorksBudget$Search", "usedDistricts", "I", false)
  | 7 => ("WorksBudget$Search", "limits", "[J", true)
  | 8 => ("WorksBudget$Search", "savesFrom", "[[J", true)
  | 9 => ("WorksBudget$Search", "worthFrom", "[J", true)
  | 10 => ("WorksBudget$Search", "picked", "I", false)
  | 11 => ("WorksBudget$Search", "taken", "I", false)
  | 12 => ("WorksBudget$Search", "sumOfYears", "I", false)
  | 13 => ("WorksBudget$Search", "gained", "J", false)
  | 14 => ("WorksBudget$Search", "spent", "[J", true)
  | 15 => ("WorksBudget$Search", "gainedIn", "[J", true)
  | 16 => ("WorksBudget$Search", "best", "I", false)
  | 17 => ("WorksBudget$Search", "bestChanges", "I", false)
  | 18 => ("WorksBudget$Search", "bestWorth", "J", false)
  | _ => ("WorksBudget$Search", "bestSumOfYears", "I", false)
def t_S : Nat → FieldType := fun k => match k with
  | 0 => .object "WorksBudget$Works"
  | 1 => .long
  | 2 => .int
  | 3 => .int
  | 4 => .int
  | 5 => .boolean
  | 6 => .int
  | 7 => .array .long
  | 8 => .array (.array .long)
  | 9 => .array .long
  | 10 => .int
  | 11 => .int
  | 12 => .int
  | 13 => .long
  | 14 => .array .long
  | 15 => .array .long
  | 16 => .int
  | 17 => .int
  | 18 => .long
  | _ => .int
def F_N : u_T := fun k => match k with
  | _ => ("WorksBudget$Bounds", "works", "LWorksBudget$Works;", true)
def t_N : Nat → FieldType := fun k => match k with
  | _ => .object "WorksBudget$Works"
def F_P : u_T := fun k => match k with
  | 0 => ("WorksBudget$Policies", "works", "LWorksBudget$Works;", true)
  | _ => ("WorksBudget$Policies", "order", "[I", true)
def t_P : Nat → FieldType := fun k => match k with
  | 0 => .object "WorksBudget$Works"
  | _ => .array .int
def F_B : u_T := fun k => match k with
  | 0 => ("WorksBudget", "works", "LWorksBudget$Works;", true)
  | 1 => ("WorksBudget", "search", "LWorksBudget$Search;", true)
  | 2 => ("WorksBudget", "bounds", "LWorksBudget$Bounds;", true)
  | 3 => ("WorksBudget", "policies", "LWorksBudget$Policies;", true)
  | 4 => ("WorksBudget", "plan", "I", false)
  | 5 => ("WorksBudget", "oldPlan", "I", false)
  | 6 => ("WorksBudget", "provedByRun", "Z", false)
  | 7 => ("WorksBudget", "bestIsKnown", "Z", false)
  | 8 => ("WorksBudget", "bestOfAll", "I", false)
  | 9 => ("WorksBudget", "clashIsKnown", "Z", false)
  | _ => ("WorksBudget", "clashing", "I", false)
def t_B : Nat → FieldType := fun k => match k with
  | 0 => .object "WorksBudget$Works"
  | 1 => .object "WorksBudget$Search"
  | 2 => .object "WorksBudget$Bounds"
  | 3 => .object "WorksBudget$Policies"
  | 4 => .int
  | 5 => .int
  | 6 => .boolean
  | 7 => .boolean
  | 8 => .int
  | 9 => .boolean
  | _ => .int
def F_M : u_T := fun k => match k with
  | 0 => ("WorksBudgetModel", "years", "I", true)
  | 1 => ("WorksBudgetModel", "things", "I", false)
  | 2 => ("WorksBudgetModel", "places", "[I", true)
  | 3 => ("WorksBudgetModel", "districts", "[I", true)
  | 4 => ("WorksBudgetModel", "choices", "I", false)
  | 5 => ("WorksBudgetModel", "thingOf", "[I", true)
  | 6 => ("WorksBudgetModel", "yearOf", "[I", true)
  | 7 => ("WorksBudgetModel", "costs", "[J", true)
  | 8 => ("WorksBudgetModel", "worths", "[J", true)
  | 9 => ("WorksBudgetModel", "musts", "I", false)
  | 10 => ("WorksBudgetModel", "budgets", "[J", true)
  | 11 => ("WorksBudgetModel", "joins", "I", false)
  | 12 => ("WorksBudgetModel", "joinA", "[I", true)
  | 13 => ("WorksBudgetModel", "joinB", "[I", true)
  | 14 => ("WorksBudgetModel", "saves", "[J", true)
  | 15 => ("WorksBudgetModel", "fairness", "J", false)
  | 16 => ("WorksBudgetModel", "plan", "I", false)
  | 17 => ("WorksBudgetModel", "old", "I", false)
  | 18 => ("WorksBudgetModel", "isProved", "Z", false)
  | 19 => ("WorksBudgetModel", "spent", "[J", true)
  | 20 => ("WorksBudgetModel", "parts", "[J", true)
  | 21 => ("WorksBudgetModel", "order", "[I", true)
  | _ => ("WorksBudgetModel", "ranks", "[I", true)
def t_M : Nat → FieldType := fun k => match k with
  | 0 => .int
  | 1 => .int
  | 2 => .array .int
  | 3 => .array .int
  | 4 => .int
  | 5 => .array .int
  | 6 => .array .int
  | 7 => .array .long
  | 8 => .array .long
  | 9 => .int
  | 10 => .array .long
  | 11 => .int
  | 12 => .array .int
  | 13 => .array .int
  | 14 => .array .long
  | 15 => .long
  | 16 => .int
  | 17 => .int
  | 18 => .boolean
  | 19 => .array .long
  | 20 => .array .long
  | 21 => .array .int
  | _ => .array .int
abbrev am_cl : List vw_C := [("WorksBudget$Works", F_W, 15), ("WorksBudget$Search", F_S, 20), ("WorksBudget$Bounds", F_N, 1), ("WorksBudget$Policies", F_P, 2), ("WorksBudget", F_B, 11), ("WorksBudgetModel", F_M, 23)]
abbrev am_ty : List FieldType := [.int, .long, .array .long]
abbrev am_nm : List (String × Nat × MethodName × String) := [("WorksBudget$Works", 58, ⟨"WorksBudget", "isIn", "(II)Z"⟩, "WorksBudget"), ("WorksBudget$Search", 124, ⟨"WorksBudget", "isIn", "(II)Z"⟩, "WorksBudget")]
abbrev am_nf : List (String × Nat × String × String × String × String) := []
def am_k : Nat := 40
def am_T : List Cond := lw_tbl.filter goodWord
theorem am_good : ∀ w ∈ am_T, (w.onTables && w.keeps) = true ∨ ∃ ty, w = .arrayClass ty := fun w h => good_of_word (List.mem_filter.mp h).2
theorem am_lw {w : Cond} (h : w ∈ am_T) : w ∈ lw_tbl := (List.mem_filter.mp h).1
theorem am_in0 {w : Cond} {i : Nat} (h : (k2_sels lw_privs)[i]? = some w) (g : goodWord w = true) : w ∈ am_T := List.mem_filter.mpr ⟨List.mem_append_left _ (List.mem_of_getElem? h), g⟩
theorem am_in1 {w : Cond} {i : Nat} (h : tables_1_1[i]? = some w) (g : goodWord w = true) : w ∈ am_T := List.mem_filter.mpr ⟨List.mem_append_right _ (List.mem_append_left _ (List.mem_of_getElem? h)), g⟩
theorem am_in2 {w : Cond} {i : Nat} (h : tables_1_2[i]? = some w) (g : goodWord w = true) : w ∈ am_T := List.mem_filter.mpr ⟨List.mem_append_right _ (List.mem_append_right _ (List.mem_append_left _ (List.mem_of_getElem? h))), g⟩
theorem am_in3 {w : Cond} {i : Nat} (h : tables_1_3[i]? = some w) (g : goodWord w = true) : w ∈ am_T := List.mem_filter.mpr ⟨List.mem_append_right _ (List.mem_append_right _ (List.mem_append_right _ (List.mem_append_left _ (List.mem_of_getElem? h)))), g⟩
theorem am_in4 {w : Cond} {i : Nat} (h : tables_1_4[i]? = some w) (g : goodWord w = true) : w ∈ am_T := List.mem_filter.mpr ⟨List.mem_append_right _ (List.mem_append_right _ (List.mem_append_right _ (List.mem_append_right _ (List.mem_of_getElem? h)))), g⟩
theorem nm_0 : Cond.methodLinkNest "WorksBudget$Works" 58 ⟨"WorksBudget", "isIn", "(II)Z"⟩ "WorksBudget" ∈ lw_tbl := List.mem_append_right _ (List.mem_append_right _ (List.mem_append_left _ (List.mem_of_getElem? (i := 50) rfl)))
theorem nm_1 : Cond.methodLinkNest "WorksBudget$Search" 124 ⟨"WorksBudget", "isIn", "(II)Z"⟩ "WorksBudget" ∈ lw_tbl := List.mem_append_right _ (List.mem_append_right _ (List.mem_append_left _ (List.mem_of_getElem? (i := 123) rfl)))
end
section
/-! AM: AN ABSTRACT MACHINE OVER THE KIT'S ROWS. A reference is a number: 0 the script, k + 1 the k-th cell made since the law began.
A heap is a list of cells. AW sc M d pc L st h r h': from the pc of the method M, with locals L, stack st and heap h, M returns r with heap h'
(d: the depth of calls that it needs). AM: the same of a call. -/
abbrev am_M : Type := MethodName × ByteArray × Nat × Option FieldType
abbrev am_C : Type := (Nat × vp_A) ⊕ (Nat × List Value)
abbrev am_S : Type := Nat × (Nat → Int32)
abbrev am_E : Type := Nat × Nat × va_G × (Nat → ClassId)
def am_a (E : am_E) : Nat → Nat
  | 0 => E.1
  | k + 1 => E.2.1 + k
def am_v (E : am_E) : Value → Value
  | .ref k => .ref (am_a E k)
  | .int x => .int x
  | .long x => .long x
  | .float x => .float x
  | .double x => .double x
  | .null => .null
  | .retAddr q => .retAddr q
theorem am_v_cat (E : am_E) (v : Value) : (am_v E v).category = v.category := by cases v <;> rfl
theorem am_v_rf (E : am_E) (x : Option Nat) : va_rf (x.map (am_a E)) = am_v E (va_rf x) := by cases x <;> rfl
theorem am_v_def (E : am_E) (t : FieldType) : am_v E (defaultValue t) = defaultValue t := by cases t <;> rfl
theorem am_cats (E : am_E) (st : List Value) : ((st.map (am_v E)).map fun v => v.category).sum = (st.map fun v => v.category).sum := by
  rw [List.map_map]
  congr 1
  exact List.map_congr_left (fun v _ => am_v_cat E v)
def am_g (E : am_E) (x : vp_A) : vp_A := (x.1, match x.2 with
  | .inl f => .inl f
  | .inr (.inl f) => .inr (.inl f)
  | .inr (.inr (.inl f)) => .inr (.inr (.inl f))
  | .inr (.inr (.inr (.inl f))) => .inr (.inr (.inr (.inl f)))
  | .inr (.inr (.inr (.inr f))) => .inr (.inr (.inr (.inr (fun j => (f j).map (am_a E))))))
def am_at (E : am_E) (a : Nat) (c : am_C) (H : Heap) : Prop := match c with
  | .inl x => H[a]? = some (vp_cell (E.2.2.2 x.1) (am_g E x.2))
  | .inr o => ∃ r : vw_C, am_cl[o.1]? = some r ∧ o.2.length = r.2.2 ∧ t_OB a (E.2.2.1.1 o.1) r.2.2 (E.2.2.1.2 o.1) H (vp_V (o.2.map (am_v E)))
def am_H (E : am_E) (h : List am_C) (H : Heap) : Prop := H.size = E.2.1 + h.length ∧ ∀ (k : Nat) (c : am_C), h[k]? = some c → am_at E (E.2.1 + k) c H
def am_s1 (c : am_C) : Nat := match c with
  | .inl x => x.2.1
  | .inr o => o.2.length
def am_sz : List am_C → Nat
  | [] => 0
  | c :: h => am_s1 c + am_sz h
theorem am_sz_app (h : List am_C) (c : am_C) : am_sz (h ++ [c]) = am_sz h + am_s1 c := by
  induction h with
  | nil => simp [am_sz]
  | cons a t ih => simp only [List.cons_append, am_sz, ih]; omega
theorem am_sz_set (h : List am_C) (k : Nat) (c c0 : am_C) (hk : h[k]? = some c0) (e : am_s1 c = am_s1 c0) : am_sz (h.set k c) = am_sz h := by
  induction h generalizing k with
  | nil => rfl
  | cons a t ih =>
    cases k with
    | zero =>
      rw [List.getElem?_cons_zero] at hk
      cases hk
      simp only [List.set_cons_zero, am_sz, e]
    | succ k =>
      rw [List.getElem?_cons_succ] at hk
      simp only [List.set_cons_succ, am_sz, ih k hk]
theorem am_at.kept {E : am_E} {a : Nat} {c : am_C} {H H1 : Heap} (h : am_at E a c H) (hq : H1[a]? = H[a]?) : am_at E a c H1 := by
  cases c with
  | inl x => exact hq.trans h
  | inr o =>
    obtain ⟨r, h1, h2, h3⟩ := h
    exact ⟨r, h1, h2, h3.kept hq⟩
theorem am_H.put {E : am_E} {h : List am_C} {H H1 : Heap} {k : Nat} {c c0 : am_C} (hH : am_H E h H) (hk : h[k]? = some c0) (hz : H1.size = H.size) (he : am_at E (E.2.1 + k) c H1) (oq : ∀ q : Nat, q ≠ E.2.1 + k → H1[q]? = H[q]?) : am_H E (h.set k c) H1 := by
  have hl := (List.getElem?_eq_some_iff.mp hk).1
  refine ⟨by rw [hz, hH.1, List.length_set], fun j c' hj => ?_⟩
  by_cases hjk : j = k
  · subst hjk
    rw [List.getElem?_set_self hl] at hj
    cases hj
    exact he
  · rw [List.getElem?_set_ne (Ne.symm hjk)] at hj
    exact (hH.2 j c' hj).kept (oq _ (by omega))
theorem am_H.push {E : am_E} {h : List am_C} {H H1 : Heap} {c : am_C} (hH : am_H E h H) (hz : H1.size = H.size + 1) (he : am_at E H.size c H1) (oq : ∀ q : Nat, q < H.size → H1[q]? = H[q]?) : am_H E (h ++ [c]) H1 := by
  have e0 := hH.1
  refine ⟨by rw [hz, e0, List.length_append]; simp; omega, fun j c' hj => ?_⟩
  by_cases hjl : j < h.length
  · rw [List.getElem?_append_left hjl] at hj
    exact (hH.2 j c' hj).kept (oq _ (by omega))
  · rw [List.getElem?_append_right (by omega)] at hj
    have hz1 : j - h.length < 1 := (List.getElem?_eq_some_iff.mp hj).1
    have e1 : j = h.length := by omega
    subst e1
    rw [Nat.sub_self] at hj
    cases hj
    rw [← e0]
    exact he
def am_K (E : am_E) (U : State) : Prop := (∀ (c : Nat) (q : vw_C), am_cl[c]? = some q → u_Kn U q.1 q.2.1 q.2.2 (E.2.2.1.1 c) (E.2.2.1.2 c)) ∧ (∀ (t : Nat) (ty : FieldType), am_ty[t]? = some ty → ArrOfT U (E.2.2.2 t) ty ∧ U.vm.findClass ("[" ++ ty.toString) = some (E.2.2.2 t)) ∧
  (∀ q ∈ am_nm, va_Nw (.methodLinkNest q.1 q.2.1 q.2.2.1 q.2.2.2) U) ∧ ∀ q ∈ am_nf, va_Nw (.fieldLinkNest q.1 q.2.1 q.2.2.1 q.2.2.2.1 q.2.2.2.2.1 q.2.2.2.2.2) U
theorem am_K.warm {E : am_E} {s U : State} (hW : s.WarmedH U.vm) (h : am_K E s) : am_K E U := by
  have hvm := hW.alike
  exact ⟨fun c q hq => u_Kn_moved hvm (h.1 c q hq), fun t ty ht => ⟨arrOfT_moved hvm (h.2.1 t ty ht).1, by rw [hvm.findClass]; exact (h.2.1 t ty ht).2⟩, fun q hq => (h.2.2.1 q hq).warmM hW, fun q hq => (h.2.2.2 q hq).warmF hW⟩
theorem am_K.same {E : am_E} {s U : State} (e : s.vm = U.vm) (h : am_K E s) : am_K E U := by
  have hvm : s.vm.Alike U.vm := by rw [e]; exact Vm.Alike.refl _
  exact ⟨fun c q hq => u_Kn_moved hvm (h.1 c q hq), fun t ty ht => ⟨arrOfT_moved hvm (h.2.1 t ty ht).1, by rw [hvm.findClass]; exact (h.2.1 t ty ht).2⟩, fun q hq => (h.2.2.1 q hq).same rfl e, fun q hq => (h.2.2.2 q hq).same rfl e⟩
def am_F (E : am_E) (s : State) (H : Heap) (locs : List Loc) : Prop := (∀ q : Nat, q < E.2.1 → H[q]? = s.heap[q]?) ∧ ∀ q ∈ locs, E.2.1 ≤ q.base
theorem am_F.put {E : am_E} {s : State} {H H1 : Heap} {locs : List Loc} {a i : Nat} (h : am_F E s H locs) (oq : ∀ q : Nat, q ≠ a → H1[q]? = H[q]?) (ha : E.2.1 ≤ a) : am_F E s H1 (locs ++ [⟨a, i⟩]) := by
  refine ⟨fun q hq => (oq q (by omega)).trans (h.1 q hq), fun q hq => ?_⟩
  rcases List.mem_append.mp hq with h1 | h1
  · exact h.2 q h1
  · rw [List.mem_singleton.mp h1]; exact ha
theorem am_F.push {E : am_E} {s : State} {H H1 : Heap} {locs : List Loc} (h : am_F E s H locs) (oq : ∀ q : Nat, q < H.size → H1[q]? = H[q]?) (hB : E.2.1 ≤ H.size) : am_F E s H1 locs := ⟨fun q hq => (oq q (by omega)).trans (h.1 q hq), h.2⟩
/-! the locals: by their places; 'none' is a place of which nothing is known -/
def am_L (E : am_E) (nL : Nat) (L : List (Option Value)) (ls : Array Slot) : Prop := L.length = nL ∧ ls.size = nL ∧ lv_wf ls ∧ ∀ (i : Nat) (v : Value), L[i]? = some (some v) → ls[i]? = some (.val (am_v E v))
def am_pl (E : am_E) (L : List (Option Value)) : List (Nat × Value) := (List.range L.length).filterMap fun i => match L[i]? with
  | some (some v) => some (i, am_v E v)
  | _ => none
theorem am_pl_in {E : am_E} {L : List (Option Value)} {i : Nat} {v : Value} (h : L[i]? = some (some v)) : (i, am_v E v) ∈ am_pl E L := by
  refine List.mem_filterMap.mpr ⟨i, List.mem_range.mpr (List.getElem?_eq_some_iff.mp h).1, ?_⟩
  rw [h]
theorem am_pl_of {E : am_E} {L : List (Option Value)} {q : Nat × Value} (h : q ∈ am_pl E L) : ∃ v, L[q.1]? = some (some v) ∧ q.2 = am_v E v := by
  obtain ⟨i, -, hi⟩ := List.mem_filterMap.mp h
  revert hi
  cases hL : L[i]? with
  | none => intro hi; cases hi
  | some o =>
    cases o with
    | none => intro hi; cases hi
    | some v =>
      intro hi
      cases hi
      exact ⟨v, hL, rfl⟩
theorem am_L.has {E : am_E} {nL : Nat} {L : List (Option Value)} {ls : Array Slot} (h : am_L E nL L ls) : lv_has ls nL (am_pl E L) := by
  refine ⟨h.2.1, h.2.2.1, fun q hq => ?_⟩
  obtain ⟨v, h1, h2⟩ := am_pl_of hq
  rw [h2]
  exact h.2.2.2 q.1 v h1
def am_low (L : List (Option Value)) (i : Nat) : Bool := match i with
  | 0 => true
  | j + 1 => match L[j]? with
    | some (some v) => v.category != 2
    | _ => true
theorem am_low_ne {L : List (Option Value)} {i j : Nat} {v : Value} (h : am_low L i = true) (hj : j + 1 = i) (hv : L[j]? = some (some v)) : ¬ v.category = 2 := by
  subst hj
  simp only [am_low, hv] at h
  simpa using h
theorem am_st1 {E : am_E} {nL : Nat} {L : List (Option Value)} {ls ls' : Array Slot} {i : Nat} {v : Value} (h : am_L E nL L ls) (low : am_low L i = true)
    (h' : lv_has ls' nL ((i, am_v E v) :: (am_pl E L).filter (fun q => !(q.1 == i) && !(q.1 + 1 == i && q.2.category == 2)))) : am_L E nL (L.set i (some v)) ls' := by
  refine ⟨by rw [List.length_set]; exact h.1, h'.1, h'.2.1, fun j w hj => ?_⟩
  by_cases hji : j = i
  · subst hji
    have hl : j < L.length := by
      have := (List.getElem?_eq_some_iff.mp hj).1
      rwa [List.length_set] at this
    rw [List.getElem?_set_self hl] at hj
    cases hj
    exact h'.2.2 _ List.mem_cons_self
  · rw [List.getElem?_set_ne (Ne.symm hji)] at hj
    refine h'.2.2 (j, am_v E w) (List.mem_cons_of_mem _ (List.mem_filter.mpr ⟨am_pl_in hj, ?_⟩))
    simp only [Bool.and_eq_true, Bool.not_eq_true', beq_eq_false_iff_ne, ne_eq, Bool.and_eq_false_iff, am_v_cat]
    refine ⟨hji, ?_⟩
    by_cases hj1 : j + 1 = i
    · exact Or.inr (am_low_ne low hj1 hj)
    · exact Or.inl hj1
theorem am_st2 {E : am_E} {nL : Nat} {L : List (Option Value)} {ls ls' : Array Slot} {i : Nat} {v : Value} (h : am_L E nL L ls) (low : am_low L i = true)
    (h' : lv_has ls' nL ((i, am_v E v) :: (am_pl E L).filter (fun q => !(q.1 == i) && (!(q.1 == i + 1) && !(q.1 + 1 == i && q.2.category == 2))))) : am_L E nL ((L.set i (some v)).set (i + 1) none) ls' := by
  refine ⟨by rw [List.length_set, List.length_set]; exact h.1, h'.1, h'.2.1, fun j w hj => ?_⟩
  by_cases hj2 : j = i + 1
  · subst hj2
    have hl : i + 1 < (L.set i (some v)).length := by
      have := (List.getElem?_eq_some_iff.mp hj).1
      rwa [List.length_set] at this
    rw [List.getElem?_set_self hl] at hj
    cases hj
  · rw [List.getElem?_set_ne (Ne.symm hj2)] at hj
    by_cases hji : j = i
    · subst hji
      have hl : j < L.length := by
        have := (List.getElem?_eq_some_iff.mp hj).1
        rwa [List.length_set] at this
      rw [List.getElem?_set_self hl] at hj
      cases hj
      exact h'.2.2 _ List.mem_cons_self
    · rw [List.getElem?_set_ne (Ne.symm hji)] at hj
      refine h'.2.2 (j, am_v E w) (List.mem_cons_of_mem _ (List.mem_filter.mpr ⟨am_pl_in hj, ?_⟩))
      simp only [Bool.and_eq_true, Bool.not_eq_true', beq_eq_false_iff_ne, ne_eq, Bool.and_eq_false_iff, am_v_cat]
      refine ⟨hji, hj2, ?_⟩
      by_cases hj1 : j + 1 = i
      · exact Or.inr (am_low_ne low hj1 hj)
      · exact Or.inl hj1
def am_kill (L : List (Option Value)) : List Nat → List (Option Value)
  | [] => L
  | k :: ks => am_kill (L.set k none) ks
theorem am_L.kill {E : am_E} {nL : Nat} {ls : Array Slot} (ks : List Nat) : ∀ {L : List (Option Value)}, am_L E nL L ls → am_L E nL (am_kill L ks) ls := by
  induction ks with
  | nil => exact fun h => h
  | cons k ks ih =>
    intro L h
    refine ih ⟨by rw [List.length_set]; exact h.1, h.2.1, h.2.2.1, fun i v hi => ?_⟩
    by_cases hik : i = k
    · subst hik
      have hl : i < L.length := by
        have := (List.getElem?_eq_some_iff.mp hi).1
        rwa [List.length_set] at this
      rw [List.getElem?_set_self hl] at hi
      cases hi
    · rw [List.getElem?_set_ne (Ne.symm hik)] at hi
      exact h.2.2.2 i v hi
/-! the judgement -/
def am_rt (M : am_M) (r : Option Value) (pc : Nat) : Prop := match r with
  | none => M.2.2.2 = none ∧ decode M.2.1 pc = .ok (.return_, 1)
  | some (.int v) => ∃ ty : FieldType, M.2.2.2 = some ty ∧ narrow ty (.int v) = .int v ∧ decode M.2.1 pc = .ok (.ireturn, 1)
  | some (.long _) => M.2.2.2 = some .long ∧ decode M.2.1 pc = .ok (.lreturn, 1)
  | _ => False
def am_ok (sc : am_S) (M : am_M) (d : Nat) (E : am_E) (mc ms : Nat) (r : Option Value) (h' : List am_C) (p : Program) (l : Launch) (e : Env) (R : Room) (s : State) (m : MethodId) (args : Array Value) (below : List Frame) (meth : Method) (c : Code) (Z : State → Prop) : Prop :=
  p.tables.exec = Jvm.exec ∧ c.code = M.2.1 ∧ c.maxLocals = M.2.2.1 ∧ s.vm.findClass M.1.cls = some m.cls ∧ meth.name = M.1.name ∧ (∀ w ∈ am_T, w.before args s = true) ∧ am_K E s ∧
  (va_X E.1 sc.1 sc.2 s s.heap ∧ E.1 < E.2.1 ∧ E.2.1 ≤ s.heap.size) ∧ (d ≤ R.frames ∧ am_k * d ≤ R.locals ∧ mc ≤ R.cells ∧ ms ≤ R.slots) ∧
  ∀ (H : Heap) (locs : List Loc) (pc : Nat) (ls : Array Slot), am_H E h' H → am_F E s H locs → am_rt M r pc → W p l e R s m args below meth c H locs mc ms Z (F0 m pc ls (r.toList.map (am_v E)))
def am_le (h h' : List am_C) : Prop := h.length ≤ h'.length ∧ am_sz h ≤ am_sz h'
theorem am_le.rf (h : List am_C) : am_le h h := ⟨Nat.le_refl _, Nat.le_refl _⟩
theorem am_le.tr {a b c : List am_C} (h1 : am_le a b) (h2 : am_le b c) : am_le a c := ⟨Nat.le_trans h1.1 h2.1, Nat.le_trans h1.2 h2.2⟩
theorem am_le.put {h h' : List am_C} {k : Nat} {c c0 : am_C} (hk : h[k]? = some c0) (e : am_s1 c = am_s1 c0) (hl : am_le (h.set k c) h') : am_le h h' := ⟨by have := hl.1; rwa [List.length_set] at this, by have := hl.2; rwa [am_sz_set _ _ _ _ hk e] at this⟩
theorem am_le.push {h h' : List am_C} {c : am_C} (hl : am_le (h ++ [c]) h') : h.length + 1 ≤ h'.length ∧ am_sz h + am_s1 c ≤ am_sz h' := ⟨by have := hl.1; rw [List.length_append] at this; simpa using this, by have := hl.2; rwa [am_sz_app] at this⟩
theorem am_le.pop {h h' : List am_C} {c : am_C} (hl : am_le (h ++ [c]) h') : am_le h h' := ⟨by have := hl.push.1; omega, by have := hl.push.2; omega⟩
theorem am_le.br {c : Prop} {h h' : List am_C} (kt : c → am_le h h') (kf : ¬ c → am_le h h') : am_le h h' := (Classical.em c).elim kt kf
def AW (sc : am_S) (M : am_M) (d pc : Nat) (L : List (Option Value)) (st : List Value) (h : List am_C) (r : Option Value) (h' : List am_C) : Prop := am_le h h' ∧
  ∀ (E : am_E) (mc ms : Nat) (p : Program) (l : Launch) (e : Env) (R : Room) (s : State) (m : MethodId) (args : Array Value) (below : List Frame) (meth : Method) (c : Code) (Z : State → Prop), am_ok sc M d E mc ms r h' p l e R s m args below meth c Z →
  ∀ (H : Heap) (locs : List Loc) (cells slots : Nat) (ls : Array Slot), am_L E M.2.2.1 L ls → am_H E h H → am_F E s H locs → cells + h'.length ≤ h.length + mc → slots + am_sz h' ≤ am_sz h + ms →
    W p l e R s m args below meth c H locs cells slots Z (F0 m pc ls (st.map (am_v E)))
/-! a call -/
def am_ws (M : am_M) : List Cond := .code M.1 M.2.1 M.2.2.1 M.2.2.2 :: am_T
abbrev am_rm (d mc ms : Nat) : Room := { frames := d, cells := mc, slots := ms, locals := am_k * d }
def am_B (sc : am_S) (E : am_E) (h : List am_C) (U : State) : Prop := am_K E U ∧ (va_X E.1 sc.1 sc.2 U U.heap ∧ E.1 < E.2.1) ∧ am_H E h U.heap
def am_Q (E : am_E) (r : Option Value) (h' : List am_C) : Array Value → State → Outcome → State → Prop := fun _ st oc t => oc = .returned (r.map (am_v E)) ∧ am_H E h' t.heap ∧ ∀ q : Nat, q < E.2.1 → t.heap[q]? = st.heap[q]?
def AM (sc : am_S) (M : am_M) (d : Nat) (as : List Value) (h : List am_C) (r : Option Value) (h' : List am_C) : Prop :=
  am_le h h' ∧ ∀ (l : Launch) (E : am_E), Met l M.1 (am_ws M) (am_rm d (h'.length - h.length) (am_sz h' - am_sz h)) (va_Pc (as.map (am_v E)) (am_B sc E h)) (am_Q E r h') (h'.length - h.length) (am_sz h' - am_sz h) (fun q => E.2.1 ≤ q)
theorem am_blind {sc : am_S} {E : am_E} {as : List Value} {h : List am_C} : FrameBlind (va_Pc as (am_B sc E h)) := by
  intro a U g mk q
  obtain ⟨h1, h2, h3, h4⟩ := q
  exact ⟨h1, h2.same rfl, ⟨va_X.moved (Vm.Alike.refl U.vm) h3.1, h3.2⟩, h4⟩
def am_ent : Nat → List Value → List (Option Value)
  | n, [] => List.replicate n none
  | n, v :: vs => if v.category = 2 then some v :: none :: am_ent (n - 2) vs else some v :: am_ent (n - 1) vs
theorem am_sl_cons (v : Value) (vs : List Value) : lg_sl (v :: vs) = (if v.category = 2 then [.val v, .second] else [.val v]) ++ lg_sl vs := rfl
theorem am_sl_map (E : am_E) (vs : List Value) : (lg_sl (vs.map (am_v E))).length = (lg_sl vs).length := by
  induction vs with
  | nil => rfl
  | cons v vs ih =>
    rw [List.map_cons, am_sl_cons, am_sl_cons, List.length_append, List.length_append, ih, am_v_cat]
    split <;> rfl
theorem am_ent_len : ∀ (vs : List Value) (n : Nat), (lg_sl vs).length ≤ n → (am_ent n vs).length = n
  | [], n, _ => by simp [am_ent]
  | v :: vs, n, h => by
    rw [am_sl_cons, List.length_append] at h
    unfold am_ent
    by_cases hc : v.category = 2
    · rw [if_pos hc] at h ⊢
      have h1 : (2 : Nat) + (lg_sl vs).length ≤ n := h
      rw [List.length_cons, List.length_cons, am_ent_len vs (n - 2) (by omega)]
      omega
    · rw [if_neg hc] at h ⊢
      have h1 : (1 : Nat) + (lg_sl vs).length ≤ n := h
      rw [List.length_cons, am_ent_len vs (n - 1) (by omega)]
      omega
theorem am_ent_in (E : am_E) : ∀ (vs : List Value) (n a i : Nat) (v : Value), (am_ent n vs)[i]? = some (some v) → (a + i, am_v E v) ∈ lv_args a (vs.map (am_v E))
  | [], n, a, i, v, h => by
    have h1 := List.mem_of_getElem? h
    have h2 := List.eq_of_mem_replicate h1
    cases h2
  | w :: vs, n, a, i, v, h => by
    unfold am_ent at h
    rw [List.map_cons]
    unfold lv_args
    rw [am_v_cat]
    by_cases hc : w.category = 2
    · rw [if_pos hc] at h
      rw [if_pos hc]
      match i, h with
      | 0, h =>
        rw [List.getElem?_cons_zero] at h
        cases h
        exact List.mem_cons_self
      | 1, h =>
        rw [List.getElem?_cons_succ, List.getElem?_cons_zero] at h
        cases h
      | i + 2, h =>
        rw [List.getElem?_cons_succ, List.getElem?_cons_succ] at h
        have := am_ent_in E vs (n - 2) (a + 2) i v h
        rw [show a + 2 + i = a + (i + 2) by omega] at this
        exact List.mem_cons_of_mem _ this
    · rw [if_neg hc] at h
      rw [if_neg hc]
      match i, h with
      | 0, h =>
        rw [List.getElem?_cons_zero] at h
        cases h
        exact List.mem_cons_self
      | i + 1, h =>
        rw [List.getElem?_cons_succ] at h
        have := am_ent_in E vs (n - 1) (a + 1) i v h
        rw [show a + 1 + i = a + (i + 1) by omega] at this
        exact List.mem_cons_of_mem _ this
theorem am_entry {E : am_E} {as : List Value} {n : Nat} (hn : (lg_sl as).length ≤ n) : am_L E n (am_ent n as) ((lg_sl (as.map (am_v E)) ++ List.replicate (n - (lg_sl (as.map (am_v E))).length) Slot.unset).toArray) := by
  have h := lv_entry (as.map (am_v E)) (n := n) (by rw [am_sl_map]; exact hn)
  refine ⟨am_ent_len as n hn, h.1, h.2.1, fun i v hi => ?_⟩
  have := am_ent_in E as n 0 i v hi
  rw [Nat.zero_add] at this
  exact h.2.2 _ this
/-- a method's contract out of the walk of its body -/
theorem AM.of {sc : am_S} {M : am_M} {d : Nat} {as : List Value} {h : List am_C} {r : Option Value} {h' : List am_C} (hy : plainName M.1.cls = true) (hn : (lg_sl as).length ≤ M.2.2.1)
    (body : AW sc M d 0 (am_ent M.2.2.1 as) [] h r h') : AM sc M d as h r h' := by
  obtain ⟨⟨h1, h2⟩, body⟩ := body
  refine ⟨⟨h1, h2⟩, fun l E => ?_⟩
  refine Met.ofW (cc := M.2.1) (maxL := M.2.2.1) (ret := M.2.2.2) (ws' := am_T) hy rfl ?_
  intro p e s m args below meth c s₁ B hml hv
  obtain ⟨rfl, hK, hX, hH⟩ := hv
  have hx := B.exec
  have hb := B.bytes
  have hr := B.returns
  have hts := atoms_spec (ws := am_ws M) B.pre
  have hown : s.vm.findClass M.1.cls = some m.cls := findClass_of_methodNamed B.named
  have hlocks := B.notSynchronized
  have hin : meth.name = M.1.name := (name_of_methodNamed B.named B.method).1
  rw [lg_entry_eq]
  have hl := am_entry (E := E) (as := as) hn
  refine body E (h'.length - h.length) (am_sz h' - am_sz h) p l e (headSpec (am_ws M) (am_rm d (h'.length - h.length) (am_sz h' - am_sz h))).room s m _ below meth c _
    ⟨hx, hb, hml, hown, hin, fun w hw => hts w (List.mem_cons_of_mem _ hw), hK, ⟨hX.1, hX.2, by rw [hH.1]; omega⟩, ⟨Nat.le_refl _, Nat.le_refl _, Nat.le_refl _, Nat.le_refl _⟩, ?_⟩
    s.heap [] 0 0 _ hl hH ⟨fun _ _ => rfl, fun _ h => by cases h⟩ (by omega) (by omega)
  intro H locs pc ls hH' hF' hrt
  have hq : ∀ t : State, t.heap = H → s.WarmedH t.vm → am_Q E r h' (as.map (am_v E)).toArray s (.returned (r.map (am_v E))) t := fun t ht _ => ⟨rfl, by rw [ht]; exact hH', fun q hq => by rw [ht]; exact hF'.1 q hq⟩
  match r, hrt, hq with
  | none, hrt, hq => exact W.vret hx hb (by rw [hr]; exact hrt.1) hq hF'.2 hrt.2
  | some (.int v), hrt, hq =>
    obtain ⟨ty, t1, t2, t3⟩ := hrt
    exact W.zret (ty := ty) hx hb (by rw [hr]; exact t1) t2 hq hF'.2 t3
  | some (.long v), hrt, hq => exact W.lret hx hb (by rw [hr]; exact hrt.1) hq hF'.2 hrt.2
/-- behind a call -/
theorem am_go {sc : am_S} {p : Program} {l : Launch} {e : Env} {R : Room} {s : State} {m : MethodId} {args : Array Value} {below : List Frame} {meth : Method} {c : Code} {H : Heap} {locs : List Loc} {cells slots mc1 ms1 pc : Nat} {Z : State → Prop} {E : am_E} {r1 : Option Value} {h1 : List am_C} {ls : Array Slot} {st0 rest : List Value} {a : Array Value}
    (hr : va_Run p l e R s m args below meth c H locs cells slots mc1 ms1 (F0 m pc ls st0) rest (am_Q E r1 h1 a) (fun q => E.2.1 ≤ q)) (hF : am_F E s H locs)
    (kk : ∀ (H1 : Heap) (locs1 : List Loc), am_H E h1 H1 → am_F E s H1 locs1 → W p l e R s m args below meth c H1 locs1 (cells + mc1) (slots + ms1) Z (F0 m (pc + 3) ls ((r1.map (am_v E)).toList ++ rest))) : W p l e R s m args below meth c H locs cells slots Z (F0 m pc ls st0) := by
  intro T hT X
  obtain ⟨v, st₀, t, T', L, h0, X', hL, e1, e2, ⟨hv, hp, hk⟩, st⟩ := hr T hT X
  cases hv
  rw [h0] at hk
  obtain ⟨t2, a1, b1⟩ := kk T'.heap (locs ++ L) (by rw [e1]; exact hp) ⟨fun q hq => by rw [e1, hk q hq]; exact hF.1 q hq, fun q hq => by
      rcases List.mem_append.mp hq with h | h
      · exact hF.2 q h
      · exact hL q h⟩ T' rfl X'
  exact ⟨t2, st t2 a1, b1⟩
end
section
/-! THE AM's ROWS: one an instruction -/
section AMR
variable {sc : am_S} {M : am_M} {d pc : Nat} {L : List (Option Value)} {st : List Value} {h : List am_C} {r : Option Value} {h' : List am_C}
theorem aw_iadd {x y : Int32} (hd : decode M.2.1 pc = .ok (.iadd, 1)) (kk : AW sc M d (pc + 1) L (.int (x + y) :: st) h r h') : AW sc M d pc L (.int y :: .int x :: st) h r h' := by
  refine ⟨kk.1, ?_⟩
  intro E mc ms p l e R s m args below meth c Z ok H locs cells slots ls hl hH hF hc hs
  exact lv_iadd ok.1 ok.2.1 hd (kk.2 E mc ms p l e R s m args below meth c Z ok H locs cells slots ls hl hH hF hc hs)
theorem aw_isub {x y : Int32} (hd : decode M.2.1 pc = .ok (.isub, 1)) (kk : AW sc M d (pc + 1) L (.int (x - y) :: st) h r h') : AW sc M d pc L (.int y :: .int x :: st) h r h' := by
  refine ⟨kk.1, ?_⟩
  intro E mc ms p l e R s m args below meth c Z ok H locs cells slots ls hl hH hF hc hs
  exact lv_isub ok.1 ok.2.1 hd (kk.2 E mc ms p l e R s m args below meth c Z ok H locs cells slots ls hl hH hF hc hs)
theorem aw_imul {x y : Int32} (hd : decode M.2.1 pc = .ok (.imul, 1)) (kk : AW sc M d (pc + 1) L (.int (x * y) :: st) h r h') : AW sc M d pc L (.int y :: .int x :: st) h r h' := by
  refine ⟨kk.1, ?_⟩
  intro E mc ms p l e R s m args below meth c Z ok H locs cells slots ls hl hH hF hc hs
  exact lv_imul ok.1 ok.2.1 hd (kk.2 E mc ms p l e R s m args below meth c Z ok H locs cells slots ls hl hH hF hc hs)
theorem aw_iand {x y : Int32} (hd : decode M.2.1 pc = .ok (.iand, 1)) (kk : AW sc M d (pc + 1) L (.int (x &&& y) :: st) h r h') : AW sc M d pc L (.int y :: .int x :: st) h r h' := by
  refine ⟨kk.1, ?_⟩
  intro E mc ms p l e R s m args below meth c Z ok H locs cells slots ls hl hH hF hc hs
  exact lv_iand ok.1 ok.2.1 hd (kk.2 E mc ms p l e R s m args below meth c Z ok H locs cells slots ls hl hH hF hc hs)
theorem aw_ior {x y : Int32} (hd : decode M.2.1 pc = .ok (.ior, 1)) (kk : AW sc M d (pc + 1) L (.int (x ||| y) :: st) h r h') : AW sc M d pc L (.int y :: .int x :: st) h r h' := by
  refine ⟨kk.1, ?_⟩
  intro E mc ms p l e R s m args below meth c Z ok H locs cells slots ls hl hH hF hc hs
  exact lv_ior ok.1 ok.2.1 hd (kk.2 E mc ms p l e R s m args below meth c Z ok H locs cells slots ls hl hH hF hc hs)
theorem aw_ixor {x y : Int32} (hd : decode M.2.1 pc = .ok (.ixor, 1)) (kk : AW sc M d (pc + 1) L (.int (x ^^^ y) :: st) h r h') : AW sc M d pc L (.int y :: .int x :: st) h r h' := by
  refine ⟨kk.1, ?_⟩
  intro E mc ms p l e R s m args below meth c Z ok H locs cells slots ls hl hH hF hc hs
  exact lv_ixor ok.1 ok.2.1 hd (kk.2 E mc ms p l e R s m args below meth c Z ok H locs cells slots ls hl hH hF hc hs)
theorem aw_ishl {x y : Int32} (hd : decode M.2.1 pc = .ok (.ishl, 1)) (kk : AW sc M d (pc + 1) L (.int (x <<< (y &&& 31)) :: st) h r h') : AW sc M d pc L (.int y :: .int x :: st) h r h' := by
  refine ⟨kk.1, ?_⟩
  intro E mc ms p l e R s m args below meth c Z ok H locs cells slots ls hl hH hF hc hs
  exact lv_ishl ok.1 ok.2.1 hd (kk.2 E mc ms p l e R s m args below meth c Z ok H locs cells slots ls hl hH hF hc hs)
theorem aw_ishr {x y : Int32} (hd : decode M.2.1 pc = .ok (.ishr, 1)) (kk : AW sc M d (pc + 1) L (.int (x >>> (y &&& 31)) :: st) h r h') : AW sc M d pc L (.int y :: .int x :: st) h r h' := by
  refine ⟨kk.1, ?_⟩
  intro E mc ms p l e R s m args below meth c Z ok H locs cells slots ls hl hH hF hc hs
  exact lv_ishr ok.1 ok.2.1 hd (kk.2 E mc ms p l e R s m args below meth c Z ok H locs cells slots ls hl hH hF hc hs)
theorem aw_ladd {x y : Int64} (hd : decode M.2.1 pc = .ok (.ladd, 1)) (kk : AW sc M d (pc + 1) L (.long (x + y) :: st) h r h') : AW sc M d pc L (.long y :: .long x :: st) h r h' := by
  refine ⟨kk.1, ?_⟩
  intro E mc ms p l e R s m args below meth c Z ok H locs cells slots ls hl hH hF hc hs
  exact lv_ladd ok.1 ok.2.1 hd (kk.2 E mc ms p l e R s m args below meth c Z ok H locs cells slots ls hl hH hF hc hs)
theorem aw_lsub {x y : Int64} (hd : decode M.2.1 pc = .ok (.lsub, 1)) (kk : AW sc M d (pc + 1) L (.long (x - y) :: st) h r h') : AW sc M d pc L (.long y :: .long x :: st) h r h' := by
  refine ⟨kk.1, ?_⟩
  intro E mc ms p l e R s m args below meth c Z ok H locs cells slots ls hl hH hF hc hs
  exact lv_lsub ok.1 ok.2.1 hd (kk.2 E mc ms p l e R s m args below meth c Z ok H locs cells slots ls hl hH hF hc hs)
theorem aw_lmul {x y : Int64} (hd : decode M.2.1 pc = .ok (.lmul, 1)) (kk : AW sc M d (pc + 1) L (.long (x * y) :: st) h r h') : AW sc M d pc L (.long y :: .long x :: st) h r h' := by
  refine ⟨kk.1, ?_⟩
  intro E mc ms p l e R s m args below meth c Z ok H locs cells slots ls hl hH hF hc hs
  exact lv_lmul ok.1 ok.2.1 hd (kk.2 E mc ms p l e R s m args below meth c Z ok H locs cells slots ls hl hH hF hc hs)
theorem aw_land {x y : Int64} (hd : decode M.2.1 pc = .ok (.land, 1)) (kk : AW sc M d (pc + 1) L (.long (x &&& y) :: st) h r h') : AW sc M d pc L (.long y :: .long x :: st) h r h' := by
  refine ⟨kk.1, ?_⟩
  intro E mc ms p l e R s m args below meth c Z ok H locs cells slots ls hl hH hF hc hs
  exact lv_land ok.1 ok.2.1 hd (kk.2 E mc ms p l e R s m args below meth c Z ok H locs cells slots ls hl hH hF hc hs)
theorem aw_lor {x y : Int64} (hd : decode M.2.1 pc = .ok (.lor, 1)) (kk : AW sc M d (pc + 1) L (.long (x ||| y) :: st) h r h') : AW sc M d pc L (.long y :: .long x :: st) h r h' := by
  refine ⟨kk.1, ?_⟩
  intro E mc ms p l e R s m args below meth c Z ok H locs cells slots ls hl hH hF hc hs
  exact lv_lor ok.1 ok.2.1 hd (kk.2 E mc ms p l e R s m args below meth c Z ok H locs cells slots ls hl hH hF hc hs)
theorem aw_lxor {x y : Int64} (hd : decode M.2.1 pc = .ok (.lxor, 1)) (kk : AW sc M d (pc + 1) L (.long (x ^^^ y) :: st) h r h') : AW sc M d pc L (.long y :: .long x :: st) h r h' := by
  refine ⟨kk.1, ?_⟩
  intro E mc ms p l e R s m args below meth c Z ok H locs cells slots ls hl hH hF hc hs
  exact lv_lxor ok.1 ok.2.1 hd (kk.2 E mc ms p l e R s m args below meth c Z ok H locs cells slots ls hl hH hF hc hs)
theorem aw_idiv {x y : Int32} (hd : decode M.2.1 pc = .ok (.idiv, 1)) (hne : ¬ y = 0) (kk : AW sc M d (pc + 1) L (.int (x / y) :: st) h r h') : AW sc M d pc L (.int y :: .int x :: st) h r h' := by
  refine ⟨kk.1, ?_⟩
  intro E mc ms p l e R s m args below meth c Z ok H locs cells slots ls hl hH hF hc hs
  exact lv_idiv ok.1 ok.2.1 hd hne (kk.2 E mc ms p l e R s m args below meth c Z ok H locs cells slots ls hl hH hF hc hs)
theorem aw_irem {x y : Int32} (hd : decode M.2.1 pc = .ok (.irem, 1)) (hne : ¬ y = 0) (kk : AW sc M d (pc + 1) L (.int (x - x / y * y) :: st) h r h') : AW sc M d pc L (.int y :: .int x :: st) h r h' := by
  refine ⟨kk.1, ?_⟩
  intro E mc ms p l e R s m args below meth c Z ok H locs cells slots ls hl hH hF hc hs
  exact lv_irem ok.1 ok.2.1 hd hne (kk.2 E mc ms p l e R s m args below meth c Z ok H locs cells slots ls hl hH hF hc hs)
theorem aw_ldiv {x y : Int64} (hd : decode M.2.1 pc = .ok (.ldiv, 1)) (hne : ¬ y = 0) (kk : AW sc M d (pc + 1) L (.long (x / y) :: st) h r h') : AW sc M d pc L (.long y :: .long x :: st) h r h' := by
  refine ⟨kk.1, ?_⟩
  intro E mc ms p l e R s m args below meth c Z ok H locs cells slots ls hl hH hF hc hs
  exact lv_ldiv ok.1 ok.2.1 hd hne (kk.2 E mc ms p l e R s m args below meth c Z ok H locs cells slots ls hl hH hF hc hs)
theorem aw_lrem {x y : Int64} (hd : decode M.2.1 pc = .ok (.lrem, 1)) (hne : ¬ y = 0) (kk : AW sc M d (pc + 1) L (.long (x - x / y * y) :: st) h r h') : AW sc M d pc L (.long y :: .long x :: st) h r h' := by
  refine ⟨kk.1, ?_⟩
  intro E mc ms p l e R s m args below meth c Z ok H locs cells slots ls hl hH hF hc hs
  exact lv_lrem ok.1 ok.2.1 hd hne (kk.2 E mc ms p l e R s m args below meth c Z ok H locs cells slots ls hl hH hF hc hs)
theorem aw_ineg {x : Int32} (hd : decode M.2.1 pc = .ok (.ineg, 1)) (kk : AW sc M d (pc + 1) L (.int (-x) :: st) h r h') : AW sc M d pc L (.int x :: st) h r h' := by
  refine ⟨kk.1, ?_⟩
  intro E mc ms p l e R s m args below meth c Z ok H locs cells slots ls hl hH hF hc hs
  exact lv_ineg ok.1 ok.2.1 hd (kk.2 E mc ms p l e R s m args below meth c Z ok H locs cells slots ls hl hH hF hc hs)
theorem aw_lneg {x : Int64} (hd : decode M.2.1 pc = .ok (.lneg, 1)) (kk : AW sc M d (pc + 1) L (.long (-x) :: st) h r h') : AW sc M d pc L (.long x :: st) h r h' := by
  refine ⟨kk.1, ?_⟩
  intro E mc ms p l e R s m args below meth c Z ok H locs cells slots ls hl hH hF hc hs
  exact lv_lneg ok.1 ok.2.1 hd (kk.2 E mc ms p l e R s m args below meth c Z ok H locs cells slots ls hl hH hF hc hs)
theorem aw_i2l {x : Int32} (hd : decode M.2.1 pc = .ok (.i2l, 1)) (kk : AW sc M d (pc + 1) L (.long x.toInt64 :: st) h r h') : AW sc M d pc L (.int x :: st) h r h' := by
  refine ⟨kk.1, ?_⟩
  intro E mc ms p l e R s m args below meth c Z ok H locs cells slots ls hl hH hF hc hs
  exact lv_i2l ok.1 ok.2.1 hd rfl (kk.2 E mc ms p l e R s m args below meth c Z ok H locs cells slots ls hl hH hF hc hs)
theorem aw_l2i {x : Int64} (hd : decode M.2.1 pc = .ok (.l2i, 1)) (kk : AW sc M d (pc + 1) L (.int x.toInt32 :: st) h r h') : AW sc M d pc L (.long x :: st) h r h' := by
  refine ⟨kk.1, ?_⟩
  intro E mc ms p l e R s m args below meth c Z ok H locs cells slots ls hl hH hF hc hs
  exact lv_l2i ok.1 ok.2.1 hd rfl (kk.2 E mc ms p l e R s m args below meth c Z ok H locs cells slots ls hl hH hF hc hs)
theorem aw_iushr {x y : Int32} (hd : decode M.2.1 pc = .ok (.iushr, 1)) (kk : AW sc M d (pc + 1) L (.int (x.toUInt32 >>> (y.toUInt32 &&& Int32.toUInt32 31)).toInt32 :: st) h r h') : AW sc M d pc L (.int y :: .int x :: st) h r h' := by
  refine ⟨kk.1, ?_⟩
  intro E mc ms p l e R s m args below meth c Z ok H locs cells slots ls hl hH hF hc hs
  exact lv_iushr ok.1 ok.2.1 hd rfl (kk.2 E mc ms p l e R s m args below meth c Z ok H locs cells slots ls hl hH hF hc hs)
theorem aw_lushr {x : Int64} {y : Int32} (hd : decode M.2.1 pc = .ok (.lushr, 1)) (kk : AW sc M d (pc + 1) L (.long (x.toUInt64 >>> (y.toInt64.toUInt64 &&& Int64.toUInt64 63)).toInt64 :: st) h r h') : AW sc M d pc L (.int y :: .long x :: st) h r h' := by
  refine ⟨kk.1, ?_⟩
  intro E mc ms p l e R s m args below meth c Z ok H locs cells slots ls hl hH hF hc hs
  exact lv_lushr ok.1 ok.2.1 hd rfl (kk.2 E mc ms p l e R s m args below meth c Z ok H locs cells slots ls hl hH hF hc hs)
theorem aw_lshl {x : Int64} {y : Int32} (hd : decode M.2.1 pc = .ok (.lshl, 1)) (kk : AW sc M d (pc + 1) L (.long (x <<< (y.toInt64 &&& 63)) :: st) h r h') : AW sc M d pc L (.int y :: .long x :: st) h r h' := by
  refine ⟨kk.1, ?_⟩
  intro E mc ms p l e R s m args below meth c Z ok H locs cells slots ls hl hH hF hc hs
  exact lv_lshl ok.1 ok.2.1 hd rfl (kk.2 E mc ms p l e R s m args below meth c Z ok H locs cells slots ls hl hH hF hc hs)
theorem aw_lshr {x : Int64} {y : Int32} (hd : decode M.2.1 pc = .ok (.lshr, 1)) (kk : AW sc M d (pc + 1) L (.long (x >>> (y.toInt64 &&& 63)) :: st) h r h') : AW sc M d pc L (.int y :: .long x :: st) h r h' := by
  refine ⟨kk.1, ?_⟩
  intro E mc ms p l e R s m args below meth c Z ok H locs cells slots ls hl hH hF hc hs
  exact lv_lshr ok.1 ok.2.1 hd rfl (kk.2 E mc ms p l e R s m args below meth c Z ok H locs cells slots ls hl hH hF hc hs)
theorem aw_iconst {n : Int} (v : Int32) (hd : decode M.2.1 pc = .ok (.iconst n, 1)) (hv : Int32.ofInt n = v) (kk : AW sc M d (pc + 1) L (.int v :: st) h r h') : AW sc M d pc L (st) h r h' := by
  refine ⟨kk.1, ?_⟩
  intro E mc ms p l e R s m args below meth c Z ok H locs cells slots ls hl hH hF hc hs
  exact lv_iconst ok.1 ok.2.1 hd hv (kk.2 E mc ms p l e R s m args below meth c Z ok H locs cells slots ls hl hH hF hc hs)
theorem aw_bipush {n : Int} (v : Int32) (hd : decode M.2.1 pc = .ok (.bipush n, 2)) (hv : (Int8.ofInt n).toInt32 = v) (kk : AW sc M d (pc + 2) L (.int v :: st) h r h') : AW sc M d pc L (st) h r h' := by
  refine ⟨kk.1, ?_⟩
  intro E mc ms p l e R s m args below meth c Z ok H locs cells slots ls hl hH hF hc hs
  exact lv_bipush ok.1 ok.2.1 hd hv (kk.2 E mc ms p l e R s m args below meth c Z ok H locs cells slots ls hl hH hF hc hs)
theorem aw_sipush {n : Int} (v : Int32) (hd : decode M.2.1 pc = .ok (.sipush n, 3)) (hv : (Int16.ofInt n).toInt32 = v) (kk : AW sc M d (pc + 3) L (.int v :: st) h r h') : AW sc M d pc L (st) h r h' := by
  refine ⟨kk.1, ?_⟩
  intro E mc ms p l e R s m args below meth c Z ok H locs cells slots ls hl hH hF hc hs
  exact lv_sipush ok.1 ok.2.1 hd hv (kk.2 E mc ms p l e R s m args below meth c Z ok H locs cells slots ls hl hH hF hc hs)
theorem aw_lconst {n : Fin 2} (v : Int64) (hd : decode M.2.1 pc = .ok (.lconst n, 1)) (hv : Int64.ofNat (n : Nat) = v) (kk : AW sc M d (pc + 1) L (.long v :: st) h r h') : AW sc M d pc L (st) h r h' := by
  refine ⟨kk.1, ?_⟩
  intro E mc ms p l e R s m args below meth c Z ok H locs cells slots ls hl hH hF hc hs
  exact lv_lconst ok.1 ok.2.1 hd hv (kk.2 E mc ms p l e R s m args below meth c Z ok H locs cells slots ls hl hH hF hc hs)
theorem aw_ldc {idx : Nat} (v : Int32) (hd : decode M.2.1 pc = .ok (.ldc idx, 2)) (hw : Cond.constant M.1.cls idx v ∈ am_T) (kk : AW sc M d (pc + 2) L (.int v :: st) h r h') : AW sc M d pc L (st) h r h' := by
  refine ⟨kk.1, ?_⟩
  intro E mc ms p l e R s m args below meth c Z ok H locs cells slots ls hl hH hF hc hs
  exact lv_ldc ok.1 ok.2.1 ok.2.2.2.1 (ok.2.2.2.2.2.1 _ hw) hd (kk.2 E mc ms p l e R s m args below meth c Z ok H locs cells slots ls hl hH hF hc hs)
theorem aw_ldc2 {idx : Nat} (v : Int64) (hd : decode M.2.1 pc = .ok (.ldc2_w idx, 3)) (hw : Cond.constantLong M.1.cls idx v ∈ am_T) (kk : AW sc M d (pc + 3) L (.long v :: st) h r h') : AW sc M d pc L (st) h r h' := by
  refine ⟨kk.1, ?_⟩
  intro E mc ms p l e R s m args below meth c Z ok H locs cells slots ls hl hH hF hc hs
  exact lv_ldc2 ok.1 ok.2.1 ok.2.2.2.1 (ok.2.2.2.2.2.1 _ hw) hd (kk.2 E mc ms p l e R s m args below meth c Z ok H locs cells slots ls hl hH hF hc hs)
theorem aw_iload_n {k : Fin 4} {x : Int32} (i : Nat) (hd : decode M.2.1 pc = .ok (.iload_n k, 1)) (hi : (k : Nat) = i) (hL : L[i]? = some (some (.int x))) (kk : AW sc M d (pc + 1) L (.int x :: st) h r h') : AW sc M d pc L (st) h r h' := by
  refine ⟨kk.1, ?_⟩
  intro E mc ms p l e R s m args below meth c Z ok H locs cells slots ls hl hH hF hc hs
  exact lv_iload_n ok.1 ok.2.1 hd hi (hl.2.2.2 i _ hL) (kk.2 E mc ms p l e R s m args below meth c Z ok H locs cells slots ls hl hH hF hc hs)
theorem aw_iload {i : Nat} {x : Int32} (hd : decode M.2.1 pc = .ok (.iload i, 2)) (hL : L[i]? = some (some (.int x))) (kk : AW sc M d (pc + 2) L (.int x :: st) h r h') : AW sc M d pc L (st) h r h' := by
  refine ⟨kk.1, ?_⟩
  intro E mc ms p l e R s m args below meth c Z ok H locs cells slots ls hl hH hF hc hs
  exact lv_iload ok.1 ok.2.1 hd (hl.2.2.2 i _ hL) (kk.2 E mc ms p l e R s m args below meth c Z ok H locs cells slots ls hl hH hF hc hs)
theorem aw_lload_n {k : Fin 4} {x : Int64} (i : Nat) (hd : decode M.2.1 pc = .ok (.lload_n k, 1)) (hi : (k : Nat) = i) (hL : L[i]? = some (some (.long x))) (kk : AW sc M d (pc + 1) L (.long x :: st) h r h') : AW sc M d pc L (st) h r h' := by
  refine ⟨kk.1, ?_⟩
  intro E mc ms p l e R s m args below meth c Z ok H locs cells slots ls hl hH hF hc hs
  exact lv_lload_n ok.1 ok.2.1 hd hi (hl.2.2.2 i _ hL) (kk.2 E mc ms p l e R s m args below meth c Z ok H locs cells slots ls hl hH hF hc hs)
theorem aw_lload {i : Nat} {x : Int64} (hd : decode M.2.1 pc = .ok (.lload i, 2)) (hL : L[i]? = some (some (.long x))) (kk : AW sc M d (pc + 2) L (.long x :: st) h r h') : AW sc M d pc L (st) h r h' := by
  refine ⟨kk.1, ?_⟩
  intro E mc ms p l e R s m args below meth c Z ok H locs cells slots ls hl hH hF hc hs
  exact lv_lload ok.1 ok.2.1 hd (hl.2.2.2 i _ hL) (kk.2 E mc ms p l e R s m args below meth c Z ok H locs cells slots ls hl hH hF hc hs)
theorem aw_aload_n {k : Fin 4} {x : Nat} (i : Nat) (hd : decode M.2.1 pc = .ok (.aload_n k, 1)) (hi : (k : Nat) = i) (hL : L[i]? = some (some (.ref x))) (kk : AW sc M d (pc + 1) L (.ref x :: st) h r h') : AW sc M d pc L (st) h r h' := by
  refine ⟨kk.1, ?_⟩
  intro E mc ms p l e R s m args below meth c Z ok H locs cells slots ls hl hH hF hc hs
  exact lv_aload_n ok.1 ok.2.1 hd hi (hl.2.2.2 i _ hL) (kk.2 E mc ms p l e R s m args below meth c Z ok H locs cells slots ls hl hH hF hc hs)
theorem aw_aload {i : Nat} {x : Nat} (hd : decode M.2.1 pc = .ok (.aload i, 2)) (hL : L[i]? = some (some (.ref x))) (kk : AW sc M d (pc + 2) L (.ref x :: st) h r h') : AW sc M d pc L (st) h r h' := by
  refine ⟨kk.1, ?_⟩
  intro E mc ms p l e R s m args below meth c Z ok H locs cells slots ls hl hH hF hc hs
  exact lv_aload ok.1 ok.2.1 hd (hl.2.2.2 i _ hL) (kk.2 E mc ms p l e R s m args below meth c Z ok H locs cells slots ls hl hH hF hc hs)
theorem aw_istore_n {k : Fin 4} {x : Int32} (i : Nat) (hd : decode M.2.1 pc = .ok (.istore_n k, 1)) (hi : (k : Nat) = i) (hn : Nat.ble (i + 1) M.2.2.1 = true) (low : am_low L i = true) (kk : AW sc M d (pc + 1) (L.set i (some (.int x))) (st) h r h') : AW sc M d pc L (.int x :: st) h r h' := by
  refine ⟨kk.1, ?_⟩
  intro E mc ms p l e R s m args below meth c Z ok H locs cells slots ls hl hH hF hc hs
  exact lv_istore_n ok.1 ok.2.1 hd hi hl.has (Nat.le_of_ble_eq_true hn) rfl (fun ls' hl' => kk.2 E mc ms p l e R s m args below meth c Z ok H locs cells slots ls' (am_st1 (v := .int x) hl low hl') hH hF hc hs)
theorem aw_istore {i : Nat} {x : Int32} (hd : decode M.2.1 pc = .ok (.istore i, 2)) (hn : Nat.ble (i + 1) M.2.2.1 = true) (low : am_low L i = true) (kk : AW sc M d (pc + 2) (L.set i (some (.int x))) (st) h r h') : AW sc M d pc L (.int x :: st) h r h' := by
  refine ⟨kk.1, ?_⟩
  intro E mc ms p l e R s m args below meth c Z ok H locs cells slots ls hl hH hF hc hs
  exact lv_istore ok.1 ok.2.1 hd hl.has (Nat.le_of_ble_eq_true hn) rfl (fun ls' hl' => kk.2 E mc ms p l e R s m args below meth c Z ok H locs cells slots ls' (am_st1 (v := .int x) hl low hl') hH hF hc hs)
theorem aw_lstore_n {k : Fin 4} {x : Int64} (i : Nat) (hd : decode M.2.1 pc = .ok (.lstore_n k, 1)) (hi : (k : Nat) = i) (hn : Nat.ble (i + 2) M.2.2.1 = true) (low : am_low L i = true) (kk : AW sc M d (pc + 1) ((L.set i (some (.long x))).set (i + 1) none) (st) h r h') : AW sc M d pc L (.long x :: st) h r h' := by
  refine ⟨kk.1, ?_⟩
  intro E mc ms p l e R s m args below meth c Z ok H locs cells slots ls hl hH hF hc hs
  exact lv_lstore_n ok.1 ok.2.1 hd hi hl.has (Nat.le_of_ble_eq_true hn) rfl (fun ls' hl' => kk.2 E mc ms p l e R s m args below meth c Z ok H locs cells slots ls' (am_st2 (v := .long x) hl low hl') hH hF hc hs)
theorem aw_lstore {i : Nat} {x : Int64} (hd : decode M.2.1 pc = .ok (.lstore i, 2)) (hn : Nat.ble (i + 2) M.2.2.1 = true) (low : am_low L i = true) (kk : AW sc M d (pc + 2) ((L.set i (some (.long x))).set (i + 1) none) (st) h r h') : AW sc M d pc L (.long x :: st) h r h' := by
  refine ⟨kk.1, ?_⟩
  intro E mc ms p l e R s m args below meth c Z ok H locs cells slots ls hl hH hF hc hs
  exact lv_lstore ok.1 ok.2.1 hd hl.has (Nat.le_of_ble_eq_true hn) rfl (fun ls' hl' => kk.2 E mc ms p l e R s m args below meth c Z ok H locs cells slots ls' (am_st2 (v := .long x) hl low hl') hH hF hc hs)
theorem aw_astore_n {k : Fin 4} {x : Nat} (i : Nat) (hd : decode M.2.1 pc = .ok (.astore_n k, 1)) (hi : (k : Nat) = i) (hn : Nat.ble (i + 1) M.2.2.1 = true) (low : am_low L i = true) (kk : AW sc M d (pc + 1) (L.set i (some (.ref x))) (st) h r h') : AW sc M d pc L (.ref x :: st) h r h' := by
  refine ⟨kk.1, ?_⟩
  intro E mc ms p l e R s m args below meth c Z ok H locs cells slots ls hl hH hF hc hs
  exact lv_astore_n ok.1 ok.2.1 hd hi hl.has (Nat.le_of_ble_eq_true hn) rfl (fun ls' hl' => kk.2 E mc ms p l e R s m args below meth c Z ok H locs cells slots ls' (am_st1 (v := .ref x) hl low hl') hH hF hc hs)
theorem aw_astore {i : Nat} {x : Nat} (hd : decode M.2.1 pc = .ok (.astore i, 2)) (hn : Nat.ble (i + 1) M.2.2.1 = true) (low : am_low L i = true) (kk : AW sc M d (pc + 2) (L.set i (some (.ref x))) (st) h r h') : AW sc M d pc L (.ref x :: st) h r h' := by
  refine ⟨kk.1, ?_⟩
  intro E mc ms p l e R s m args below meth c Z ok H locs cells slots ls hl hH hF hc hs
  exact lv_astore ok.1 ok.2.1 hd hl.has (Nat.le_of_ble_eq_true hn) rfl (fun ls' hl' => kk.2 E mc ms p l e R s m args below meth c Z ok H locs cells slots ls' (am_st1 (v := .ref x) hl low hl') hH hF hc hs)
theorem aw_iinc {i : Nat} {n : Int} {x : Int32} (v : Int32) (hd : decode M.2.1 pc = .ok (.iinc i n, 3)) (hL : L[i]? = some (some (.int x))) (hv : x + Int32.ofInt n = v) (hn : Nat.ble (i + 1) M.2.2.1 = true) (low : am_low L i = true) (kk : AW sc M d (pc + 3) (L.set i (some (.int v))) st h r h') : AW sc M d pc L st h r h' := by
  refine ⟨kk.1, ?_⟩
  intro E mc ms p l e R s m args below meth c Z ok H locs cells slots ls hl hH hF hc hs
  obtain ⟨k, hk⟩ := List.getElem?_of_mem (am_pl_in (E := E) hL)
  exact lv_iinc ok.1 ok.2.1 hd hl.has hk hv (Nat.le_of_ble_eq_true hn) rfl (fun ls' hl' => kk.2 E mc ms p l e R s m args below meth c Z ok H locs cells slots ls' (am_st1 (v := .int v) hl low hl') hH hF hc hs)
theorem aw_dup {va : Value} (hd : decode M.2.1 pc = .ok (.dup, 1)) (c1 : va.category = 1) (kk : AW sc M d (pc + 1) L (va :: va :: st) h r h') : AW sc M d pc L (va :: st) h r h' := by
  refine ⟨kk.1, ?_⟩
  intro E mc ms p l e R s m args below meth c Z ok H locs cells slots ls hl hH hF hc hs
  exact lv_dup ok.1 ok.2.1 hd ((am_v_cat E va).trans c1) (kk.2 E mc ms p l e R s m args below meth c Z ok H locs cells slots ls hl hH hF hc hs)
theorem aw_pop {va : Value} (hd : decode M.2.1 pc = .ok (.pop, 1)) (c1 : va.category = 1) (kk : AW sc M d (pc + 1) L (st) h r h') : AW sc M d pc L (va :: st) h r h' := by
  refine ⟨kk.1, ?_⟩
  intro E mc ms p l e R s m args below meth c Z ok H locs cells slots ls hl hH hF hc hs
  exact lv_pop ok.1 ok.2.1 hd ((am_v_cat E va).trans c1) (kk.2 E mc ms p l e R s m args below meth c Z ok H locs cells slots ls hl hH hF hc hs)
theorem aw_dup_x1 {va vb : Value} (hd : decode M.2.1 pc = .ok (.dup_x1, 1)) (c1 : va.category = 1) (c2 : vb.category = 1) (kk : AW sc M d (pc + 1) L (va :: vb :: va :: st) h r h') : AW sc M d pc L (va :: vb :: st) h r h' := by
  refine ⟨kk.1, ?_⟩
  intro E mc ms p l e R s m args below meth c Z ok H locs cells slots ls hl hH hF hc hs
  exact lv_dup_x1 ok.1 ok.2.1 hd ((am_v_cat E va).trans c1) ((am_v_cat E vb).trans c2) (kk.2 E mc ms p l e R s m args below meth c Z ok H locs cells slots ls hl hH hF hc hs)
theorem aw_dup_x2 {va vb vd : Value} (hd : decode M.2.1 pc = .ok (.dup_x2, 1)) (c1 : va.category = 1) (c2 : vb.category = 1) (c3 : vd.category = 1) (kk : AW sc M d (pc + 1) L (va :: vb :: vd :: va :: st) h r h') : AW sc M d pc L (va :: vb :: vd :: st) h r h' := by
  refine ⟨kk.1, ?_⟩
  intro E mc ms p l e R s m args below meth c Z ok H locs cells slots ls hl hH hF hc hs
  exact lv_dup_x2 ok.1 ok.2.1 hd ((am_v_cat E va).trans c1) ((am_v_cat E vb).trans c2) ((am_v_cat E vd).trans c3) (kk.2 E mc ms p l e R s m args below meth c Z ok H locs cells slots ls hl hH hF hc hs)
theorem aw_dup2_11 {va vb : Value} (hd : decode M.2.1 pc = .ok (.dup2, 1)) (c1 : va.category = 1) (c2 : vb.category = 1) (kk : AW sc M d (pc + 1) L (va :: vb :: va :: vb :: st) h r h') : AW sc M d pc L (va :: vb :: st) h r h' := by
  refine ⟨kk.1, ?_⟩
  intro E mc ms p l e R s m args below meth c Z ok H locs cells slots ls hl hH hF hc hs
  exact lv_dup2_11 ok.1 ok.2.1 hd ((am_v_cat E va).trans c1) ((am_v_cat E vb).trans c2) (kk.2 E mc ms p l e R s m args below meth c Z ok H locs cells slots ls hl hH hF hc hs)
theorem aw_dup2_2 {va : Value} (hd : decode M.2.1 pc = .ok (.dup2, 1)) (c1 : va.category = 2) (kk : AW sc M d (pc + 1) L (va :: va :: st) h r h') : AW sc M d pc L (va :: st) h r h' := by
  refine ⟨kk.1, ?_⟩
  intro E mc ms p l e R s m args below meth c Z ok H locs cells slots ls hl hH hF hc hs
  exact lv_dup2_2 ok.1 ok.2.1 hd ((am_v_cat E va).trans c1) (kk.2 E mc ms p l e R s m args below meth c Z ok H locs cells slots ls hl hH hF hc hs)
theorem aw_pop2_2 {va : Value} (hd : decode M.2.1 pc = .ok (.pop2, 1)) (c1 : va.category = 2) (kk : AW sc M d (pc + 1) L (st) h r h') : AW sc M d pc L (va :: st) h r h' := by
  refine ⟨kk.1, ?_⟩
  intro E mc ms p l e R s m args below meth c Z ok H locs cells slots ls hl hH hF hc hs
  exact lv_pop2_2 ok.1 ok.2.1 hd ((am_v_cat E va).trans c1) (kk.2 E mc ms p l e R s m args below meth c Z ok H locs cells slots ls hl hH hF hc hs)
theorem aw_dup2_x1_2 {va vb : Value} (hd : decode M.2.1 pc = .ok (.dup2_x1, 1)) (c1 : va.category = 2) (c2 : vb.category = 1) (kk : AW sc M d (pc + 1) L (va :: vb :: va :: st) h r h') : AW sc M d pc L (va :: vb :: st) h r h' := by
  refine ⟨kk.1, ?_⟩
  intro E mc ms p l e R s m args below meth c Z ok H locs cells slots ls hl hH hF hc hs
  exact lv_dup2_x1_2 ok.1 ok.2.1 hd ((am_v_cat E va).trans c1) ((am_v_cat E vb).trans c2) (kk.2 E mc ms p l e R s m args below meth c Z ok H locs cells slots ls hl hH hF hc hs)
theorem aw_dup2_x2_2 {va vb vd : Value} (hd : decode M.2.1 pc = .ok (.dup2_x2, 1)) (c1 : va.category = 2) (c2 : vb.category = 1) (c3 : vd.category = 1) (kk : AW sc M d (pc + 1) L (va :: vb :: vd :: va :: st) h r h') : AW sc M d pc L (va :: vb :: vd :: st) h r h' := by
  refine ⟨kk.1, ?_⟩
  intro E mc ms p l e R s m args below meth c Z ok H locs cells slots ls hl hH hF hc hs
  exact lv_dup2_x2_2 ok.1 ok.2.1 hd ((am_v_cat E va).trans c1) ((am_v_cat E vb).trans c2) ((am_v_cat E vd).trans c3) (kk.2 E mc ms p l e R s m args below meth c Z ok H locs cells slots ls hl hH hF hc hs)
theorem aw_if_eq {x : Int32} {off : Int} (tgt : Nat) (hd : decode M.2.1 pc = .ok (.ifCond .eq off, 3)) (ht : (pc : Int) + off = (tgt : Int)) (kt : x = 0 → AW sc M d tgt L st h r h') (kf : ¬ x = 0 → AW sc M d (pc + 3) L st h r h') : AW sc M d pc L (.int x :: st) h r h' := by
  refine ⟨am_le.br (c := x = 0) (fun q => (kt q).1) (fun q => (kf q).1), ?_⟩
  intro E mc ms p l e R s m args below meth c Z ok H locs cells slots ls hl hH hF hc hs
  exact lv_if_eq ok.1 ok.2.1 hd ht (fun q => (kt q).2 E mc ms p l e R s m args below meth c Z ok H locs cells slots ls hl hH hF hc hs) (fun q => (kf q).2 E mc ms p l e R s m args below meth c Z ok H locs cells slots ls hl hH hF hc hs)
theorem aw_icmp_eq {x y : Int32} {off : Int} (tgt : Nat) (hd : decode M.2.1 pc = .ok (.if_icmp .eq off, 3)) (ht : (pc : Int) + off = (tgt : Int)) (kt : x = y → AW sc M d tgt L st h r h') (kf : ¬ x = y → AW sc M d (pc + 3) L st h r h') : AW sc M d pc L (.int y :: .int x :: st) h r h' := by
  refine ⟨am_le.br (c := x = y) (fun q => (kt q).1) (fun q => (kf q).1), ?_⟩
  intro E mc ms p l e R s m args below meth c Z ok H locs cells slots ls hl hH hF hc hs
  exact lv_icmp_eq ok.1 ok.2.1 hd ht (fun q => (kt q).2 E mc ms p l e R s m args below meth c Z ok H locs cells slots ls hl hH hF hc hs) (fun q => (kf q).2 E mc ms p l e R s m args below meth c Z ok H locs cells slots ls hl hH hF hc hs)
theorem aw_if_ne {x : Int32} {off : Int} (tgt : Nat) (hd : decode M.2.1 pc = .ok (.ifCond .ne off, 3)) (ht : (pc : Int) + off = (tgt : Int)) (kt : ¬ x = 0 → AW sc M d tgt L st h r h') (kf : x = 0 → AW sc M d (pc + 3) L st h r h') : AW sc M d pc L (.int x :: st) h r h' := by
  refine ⟨am_le.br (c := x = 0) (fun q => (kf q).1) (fun q => (kt q).1), ?_⟩
  intro E mc ms p l e R s m args below meth c Z ok H locs cells slots ls hl hH hF hc hs
  exact lv_if_ne ok.1 ok.2.1 hd ht (fun q => (kt q).2 E mc ms p l e R s m args below meth c Z ok H locs cells slots ls hl hH hF hc hs) (fun q => (kf q).2 E mc ms p l e R s m args below meth c Z ok H locs cells slots ls hl hH hF hc hs)
theorem aw_icmp_ne {x y : Int32} {off : Int} (tgt : Nat) (hd : decode M.2.1 pc = .ok (.if_icmp .ne off, 3)) (ht : (pc : Int) + off = (tgt : Int)) (kt : ¬ x = y → AW sc M d tgt L st h r h') (kf : x = y → AW sc M d (pc + 3) L st h r h') : AW sc M d pc L (.int y :: .int x :: st) h r h' := by
  refine ⟨am_le.br (c := x = y) (fun q => (kf q).1) (fun q => (kt q).1), ?_⟩
  intro E mc ms p l e R s m args below meth c Z ok H locs cells slots ls hl hH hF hc hs
  exact lv_icmp_ne ok.1 ok.2.1 hd ht (fun q => (kt q).2 E mc ms p l e R s m args below meth c Z ok H locs cells slots ls hl hH hF hc hs) (fun q => (kf q).2 E mc ms p l e R s m args below meth c Z ok H locs cells slots ls hl hH hF hc hs)
theorem aw_if_lt {x : Int32} {off : Int} (tgt : Nat) (hd : decode M.2.1 pc = .ok (.ifCond .lt off, 3)) (ht : (pc : Int) + off = (tgt : Int)) (kt : x < 0 → AW sc M d tgt L st h r h') (kf : ¬ x < 0 → AW sc M d (pc + 3) L st h r h') : AW sc M d pc L (.int x :: st) h r h' := by
  refine ⟨am_le.br (c := x < 0) (fun q => (kt q).1) (fun q => (kf q).1), ?_⟩
  intro E mc ms p l e R s m args below meth c Z ok H locs cells slots ls hl hH hF hc hs
  exact lv_if_lt ok.1 ok.2.1 hd ht (fun q => (kt q).2 E mc ms p l e R s m args below meth c Z ok H locs cells slots ls hl hH hF hc hs) (fun q => (kf q).2 E mc ms p l e R s m args below meth c Z ok H locs cells slots ls hl hH hF hc hs)
theorem aw_icmp_lt {x y : Int32} {off : Int} (tgt : Nat) (hd : decode M.2.1 pc = .ok (.if_icmp .lt off, 3)) (ht : (pc : Int) + off = (tgt : Int)) (kt : x < y → AW sc M d tgt L st h r h') (kf : ¬ x < y → AW sc M d (pc + 3) L st h r h') : AW sc M d pc L (.int y :: .int x :: st) h r h' := by
  refine ⟨am_le.br (c := x < y) (fun q => (kt q).1) (fun q => (kf q).1), ?_⟩
  intro E mc ms p l e R s m args below meth c Z ok H locs cells slots ls hl hH hF hc hs
  exact lv_icmp_lt ok.1 ok.2.1 hd ht (fun q => (kt q).2 E mc ms p l e R s m args below meth c Z ok H locs cells slots ls hl hH hF hc hs) (fun q => (kf q).2 E mc ms p l e R s m args below meth c Z ok H locs cells slots ls hl hH hF hc hs)
theorem aw_if_ge {x : Int32} {off : Int} (tgt : Nat) (hd : decode M.2.1 pc = .ok (.ifCond .ge off, 3)) (ht : (pc : Int) + off = (tgt : Int)) (kt : 0 ≤ x → AW sc M d tgt L st h r h') (kf : ¬ 0 ≤ x → AW sc M d (pc + 3) L st h r h') : AW sc M d pc L (.int x :: st) h r h' := by
  refine ⟨am_le.br (c := 0 ≤ x) (fun q => (kt q).1) (fun q => (kf q).1), ?_⟩
  intro E mc ms p l e R s m args below meth c Z ok H locs cells slots ls hl hH hF hc hs
  exact lv_if_ge ok.1 ok.2.1 hd ht (fun q => (kt q).2 E mc ms p l e R s m args below meth c Z ok H locs cells slots ls hl hH hF hc hs) (fun q => (kf q).2 E mc ms p l e R s m args below meth c Z ok H locs cells slots ls hl hH hF hc hs)
theorem aw_icmp_ge {x y : Int32} {off : Int} (tgt : Nat) (hd : decode M.2.1 pc = .ok (.if_icmp .ge off, 3)) (ht : (pc : Int) + off = (tgt : Int)) (kt : y ≤ x → AW sc M d tgt L st h r h') (kf : ¬ y ≤ x → AW sc M d (pc + 3) L st h r h') : AW sc M d pc L (.int y :: .int x :: st) h r h' := by
  refine ⟨am_le.br (c := y ≤ x) (fun q => (kt q).1) (fun q => (kf q).1), ?_⟩
  intro E mc ms p l e R s m args below meth c Z ok H locs cells slots ls hl hH hF hc hs
  exact lv_icmp_ge ok.1 ok.2.1 hd ht (fun q => (kt q).2 E mc ms p l e R s m args below meth c Z ok H locs cells slots ls hl hH hF hc hs) (fun q => (kf q).2 E mc ms p l e R s m args below meth c Z ok H locs cells slots ls hl hH hF hc hs)
theorem aw_if_gt {x : Int32} {off : Int} (tgt : Nat) (hd : decode M.2.1 pc = .ok (.ifCond .gt off, 3)) (ht : (pc : Int) + off = (tgt : Int)) (kt : 0 < x → AW sc M d tgt L st h r h') (kf : ¬ 0 < x → AW sc M d (pc + 3) L st h r h') : AW sc M d pc L (.int x :: st) h r h' := by
  refine ⟨am_le.br (c := 0 < x) (fun q => (kt q).1) (fun q => (kf q).1), ?_⟩
  intro E mc ms p l e R s m args below meth c Z ok H locs cells slots ls hl hH hF hc hs
  exact lv_if_gt ok.1 ok.2.1 hd ht (fun q => (kt q).2 E mc ms p l e R s m args below meth c Z ok H locs cells slots ls hl hH hF hc hs) (fun q => (kf q).2 E mc ms p l e R s m args below meth c Z ok H locs cells slots ls hl hH hF hc hs)
theorem aw_icmp_gt {x y : Int32} {off : Int} (tgt : Nat) (hd : decode M.2.1 pc = .ok (.if_icmp .gt off, 3)) (ht : (pc : Int) + off = (tgt : Int)) (kt : y < x → AW sc M d tgt L st h r h') (kf : ¬ y < x → AW sc M d (pc + 3) L st h r h') : AW sc M d pc L (.int y :: .int x :: st) h r h' := by
  refine ⟨am_le.br (c := y < x) (fun q => (kt q).1) (fun q => (kf q).1), ?_⟩
  intro E mc ms p l e R s m args below meth c Z ok H locs cells slots ls hl hH hF hc hs
  exact lv_icmp_gt ok.1 ok.2.1 hd ht (fun q => (kt q).2 E mc ms p l e R s m args below meth c Z ok H locs cells slots ls hl hH hF hc hs) (fun q => (kf q).2 E mc ms p l e R s m args below meth c Z ok H locs cells slots ls hl hH hF hc hs)
theorem aw_if_le {x : Int32} {off : Int} (tgt : Nat) (hd : decode M.2.1 pc = .ok (.ifCond .le off, 3)) (ht : (pc : Int) + off = (tgt : Int)) (kt : x ≤ 0 → AW sc M d tgt L st h r h') (kf : ¬ x ≤ 0 → AW sc M d (pc + 3) L st h r h') : AW sc M d pc L (.int x :: st) h r h' := by
  refine ⟨am_le.br (c := x ≤ 0) (fun q => (kt q).1) (fun q => (kf q).1), ?_⟩
  intro E mc ms p l e R s m args below meth c Z ok H locs cells slots ls hl hH hF hc hs
  exact lv_if_le ok.1 ok.2.1 hd ht (fun q => (kt q).2 E mc ms p l e R s m args below meth c Z ok H locs cells slots ls hl hH hF hc hs) (fun q => (kf q).2 E mc ms p l e R s m args below meth c Z ok H locs cells slots ls hl hH hF hc hs)
theorem aw_icmp_le {x y : Int32} {off : Int} (tgt : Nat) (hd : decode M.2.1 pc = .ok (.if_icmp .le off, 3)) (ht : (pc : Int) + off = (tgt : Int)) (kt : x ≤ y → AW sc M d tgt L st h r h') (kf : ¬ x ≤ y → AW sc M d (pc + 3) L st h r h') : AW sc M d pc L (.int y :: .int x :: st) h r h' := by
  refine ⟨am_le.br (c := x ≤ y) (fun q => (kt q).1) (fun q => (kf q).1), ?_⟩
  intro E mc ms p l e R s m args below meth c Z ok H locs cells slots ls hl hH hF hc hs
  exact lv_icmp_le ok.1 ok.2.1 hd ht (fun q => (kt q).2 E mc ms p l e R s m args below meth c Z ok H locs cells slots ls hl hH hF hc hs) (fun q => (kf q).2 E mc ms p l e R s m args below meth c Z ok H locs cells slots ls hl hH hF hc hs)
theorem aw_lcmp_eq {x y : Int64} {off : Int} (tgt : Nat) (hd0 : decode M.2.1 pc = .ok (.lcmp, 1)) (hd : decode M.2.1 (pc + 1) = .ok (.ifCond .eq off, 3)) (ht : ((pc + 1 : Nat) : Int) + off = (tgt : Int)) (kt : x = y → AW sc M d tgt L st h r h') (kf : ¬ x = y → AW sc M d (pc + 4) L st h r h') : AW sc M d pc L (.long y :: .long x :: st) h r h' := by
  refine ⟨am_le.br (c := x = y) (fun q => (kt q).1) (fun q => (kf q).1), ?_⟩
  intro E mc ms p l e R s m args below meth c Z ok H locs cells slots ls hl hH hF hc hs
  refine W.lcmp ok.1 ok.2.1 hd0 ?_
  exact lv_if_eq ok.1 ok.2.1 hd ht (fun q => (kt ((lg_cmp_eq x y).mp q)).2 E mc ms p l e R s m args below meth c Z ok H locs cells slots ls hl hH hF hc hs) (fun q => (kf (fun z => q ((lg_cmp_eq x y).mpr z))).2 E mc ms p l e R s m args below meth c Z ok H locs cells slots ls hl hH hF hc hs)
theorem aw_lcmp_ne {x y : Int64} {off : Int} (tgt : Nat) (hd0 : decode M.2.1 pc = .ok (.lcmp, 1)) (hd : decode M.2.1 (pc + 1) = .ok (.ifCond .ne off, 3)) (ht : ((pc + 1 : Nat) : Int) + off = (tgt : Int)) (kt : ¬ x = y → AW sc M d tgt L st h r h') (kf : x = y → AW sc M d (pc + 4) L st h r h') : AW sc M d pc L (.long y :: .long x :: st) h r h' := by
  refine ⟨am_le.br (c := x = y) (fun q => (kf q).1) (fun q => (kt q).1), ?_⟩
  intro E mc ms p l e R s m args below meth c Z ok H locs cells slots ls hl hH hF hc hs
  refine W.lcmp ok.1 ok.2.1 hd0 ?_
  exact lv_if_ne ok.1 ok.2.1 hd ht (fun q => (kt (fun z => q ((lg_cmp_eq x y).mpr z))).2 E mc ms p l e R s m args below meth c Z ok H locs cells slots ls hl hH hF hc hs) (fun q => (kf ((lg_cmp_eq x y).mp q)).2 E mc ms p l e R s m args below meth c Z ok H locs cells slots ls hl hH hF hc hs)
theorem aw_lcmp_lt {x y : Int64} {off : Int} (tgt : Nat) (hd0 : decode M.2.1 pc = .ok (.lcmp, 1)) (hd : decode M.2.1 (pc + 1) = .ok (.ifCond .lt off, 3)) (ht : ((pc + 1 : Nat) : Int) + off = (tgt : Int)) (kt : x < y → AW sc M d tgt L st h r h') (kf : ¬ x < y → AW sc M d (pc + 4) L st h r h') : AW sc M d pc L (.long y :: .long x :: st) h r h' := by
  refine ⟨am_le.br (c := x < y) (fun q => (kt q).1) (fun q => (kf q).1), ?_⟩
  intro E mc ms p l e R s m args below meth c Z ok H locs cells slots ls hl hH hF hc hs
  refine W.lcmp ok.1 ok.2.1 hd0 ?_
  exact lv_if_lt ok.1 ok.2.1 hd ht (fun q => (kt ((lg_cmp_lt x y).mp q)).2 E mc ms p l e R s m args below meth c Z ok H locs cells slots ls hl hH hF hc hs) (fun q => (kf (fun z => q ((lg_cmp_lt x y).mpr z))).2 E mc ms p l e R s m args below meth c Z ok H locs cells slots ls hl hH hF hc hs)
theorem aw_lcmp_ge {x y : Int64} {off : Int} (tgt : Nat) (hd0 : decode M.2.1 pc = .ok (.lcmp, 1)) (hd : decode M.2.1 (pc + 1) = .ok (.ifCond .ge off, 3)) (ht : ((pc + 1 : Nat) : Int) + off = (tgt : Int)) (kt : y ≤ x → AW sc M d tgt L st h r h') (kf : ¬ y ≤ x → AW sc M d (pc + 4) L st h r h') : AW sc M d pc L (.long y :: .long x :: st) h r h' := by
  refine ⟨am_le.br (c := y ≤ x) (fun q => (kt q).1) (fun q => (kf q).1), ?_⟩
  intro E mc ms p l e R s m args below meth c Z ok H locs cells slots ls hl hH hF hc hs
  refine W.lcmp ok.1 ok.2.1 hd0 ?_
  exact lv_if_ge ok.1 ok.2.1 hd ht (fun q => (kt ((lg_cmp_ge x y).mp q)).2 E mc ms p l e R s m args below meth c Z ok H locs cells slots ls hl hH hF hc hs) (fun q => (kf (fun z => q ((lg_cmp_ge x y).mpr z))).2 E mc ms p l e R s m args below meth c Z ok H locs cells slots ls hl hH hF hc hs)
theorem aw_lcmp_gt {x y : Int64} {off : Int} (tgt : Nat) (hd0 : decode M.2.1 pc = .ok (.lcmp, 1)) (hd : decode M.2.1 (pc + 1) = .ok (.ifCond .gt off, 3)) (ht : ((pc + 1 : Nat) : Int) + off = (tgt : Int)) (kt : y < x → AW sc M d tgt L st h r h') (kf : ¬ y < x → AW sc M d (pc + 4) L st h r h') : AW sc M d pc L (.long y :: .long x :: st) h r h' := by
  refine ⟨am_le.br (c := y < x) (fun q => (kt q).1) (fun q => (kf q).1), ?_⟩
  intro E mc ms p l e R s m args below meth c Z ok H locs cells slots ls hl hH hF hc hs
  refine W.lcmp ok.1 ok.2.1 hd0 ?_
  exact lv_if_gt ok.1 ok.2.1 hd ht (fun q => (kt ((lg_cmp_gt x y).mp q)).2 E mc ms p l e R s m args below meth c Z ok H locs cells slots ls hl hH hF hc hs) (fun q => (kf (fun z => q ((lg_cmp_gt x y).mpr z))).2 E mc ms p l e R s m args below meth c Z ok H locs cells slots ls hl hH hF hc hs)
theorem aw_lcmp_le {x y : Int64} {off : Int} (tgt : Nat) (hd0 : decode M.2.1 pc = .ok (.lcmp, 1)) (hd : decode M.2.1 (pc + 1) = .ok (.ifCond .le off, 3)) (ht : ((pc + 1 : Nat) : Int) + off = (tgt : Int)) (kt : x ≤ y → AW sc M d tgt L st h r h') (kf : ¬ x ≤ y → AW sc M d (pc + 4) L st h r h') : AW sc M d pc L (.long y :: .long x :: st) h r h' := by
  refine ⟨am_le.br (c := x ≤ y) (fun q => (kt q).1) (fun q => (kf q).1), ?_⟩
  intro E mc ms p l e R s m args below meth c Z ok H locs cells slots ls hl hH hF hc hs
  refine W.lcmp ok.1 ok.2.1 hd0 ?_
  exact lv_if_le ok.1 ok.2.1 hd ht (fun q => (kt ((lg_cmp_le x y).mp q)).2 E mc ms p l e R s m args below meth c Z ok H locs cells slots ls hl hH hF hc hs) (fun q => (kf (fun z => q ((lg_cmp_le x y).mpr z))).2 E mc ms p l e R s m args below meth c Z ok H locs cells slots ls hl hH hF hc hs)
theorem aw_lcmp {x y : Int64} (hd : decode M.2.1 pc = .ok (.lcmp, 1)) (kk : AW sc M d (pc + 1) L (.int (lg_cmp x y) :: st) h r h') : AW sc M d pc L (.long y :: .long x :: st) h r h' := by
  refine ⟨kk.1, ?_⟩
  intro E mc ms p l e R s m args below meth c Z ok H locs cells slots ls hl hH hF hc hs
  exact W.lcmp ok.1 ok.2.1 hd (kk.2 E mc ms p l e R s m args below meth c Z ok H locs cells slots ls hl hH hF hc hs)
theorem aw_goto {off : Int} (tgt : Nat) (hd : decode M.2.1 pc = .ok (.goto off, 3)) (ht : (pc : Int) + off = (tgt : Int)) (kk : AW sc M d tgt L st h r h') : AW sc M d pc L st h r h' := by
  refine ⟨kk.1, ?_⟩
  intro E mc ms p l e R s m args below meth c Z ok H locs cells slots ls hl hH hF hc hs
  exact lv_goto ok.1 ok.2.1 hd ht (kk.2 E mc ms p l e R s m args below meth c Z ok H locs cells slots ls hl hH hF hc hs)
theorem aw_tableIn {dflt lo hi : Int} {offs : Array Int} {len : Nat} {x : Int32} {off : Int} (tgt : Nat) (hd : decode M.2.1 pc = .ok (.tableswitch dflt lo hi offs, len)) (h1 : ¬ x.toInt < lo) (h2 : ¬ hi < x.toInt) (ho : offs[(x.toInt - lo).toNat]? = some off) (ht : (pc : Int) + off = (tgt : Int)) (kk : AW sc M d tgt L st h r h') : AW sc M d pc L (.int x :: st) h r h' := by
  refine ⟨kk.1, ?_⟩
  intro E mc ms p l e R s m args below meth c Z ok H locs cells slots ls hl hH hF hc hs
  exact lv_tableIn ok.1 ok.2.1 hd h1 h2 ho ht (kk.2 E mc ms p l e R s m args below meth c Z ok H locs cells slots ls hl hH hF hc hs)
theorem aw_tableOut {dflt lo hi : Int} {offs : Array Int} {len : Nat} {x : Int32} (tgt : Nat) (hd : decode M.2.1 pc = .ok (.tableswitch dflt lo hi offs, len)) (ho : x.toInt < lo ∨ hi < x.toInt) (ht : (pc : Int) + dflt = (tgt : Int)) (kk : AW sc M d tgt L st h r h') : AW sc M d pc L (.int x :: st) h r h' := by
  refine ⟨kk.1, ?_⟩
  intro E mc ms p l e R s m args below meth c Z ok H locs cells slots ls hl hH hF hc hs
  exact lv_tableOut ok.1 ok.2.1 hd ho ht (kk.2 E mc ms p l e R s m args below meth c Z ok H locs cells slots ls hl hH hF hc hs)
theorem aw_kill (ks : List Nat) (kk : AW sc M d pc (am_kill L ks) st h r h') : AW sc M d pc L st h r h' := by
  refine ⟨kk.1, ?_⟩
  intro E mc ms p l e R s m args below meth c Z ok H locs cells slots ls hl hH hF hc hs
  exact kk.2 E mc ms p l e R s m args below meth c Z ok H locs cells slots ls (hl.kill ks) hH hF hc hs
theorem aw_iret {v : Int32} (ty : FieldType) (hd : decode M.2.1 pc = .ok (.ireturn, 1)) (hty : M.2.2.2 = some ty) (hn : narrow ty (.int v) = .int v) (hr : r = some (.int v)) (hh : h' = h) : AW sc M d pc L [.int v] h r h' := by
  subst hr; subst hh
  refine ⟨am_le.rf _, ?_⟩
  intro E mc ms p l e R s m args below meth c Z ok H locs cells slots ls hl hH hF hc hs
  refine W.widen (by omega) (by omega) (ok.2.2.2.2.2.2.2.2.2 H locs pc ls hH hF ?_)
  exact ⟨ty, hty, hn, hd⟩
theorem aw_lret {v : Int64} (hd : decode M.2.1 pc = .ok (.lreturn, 1)) (hty : M.2.2.2 = some .long) (hr : r = some (.long v)) (hh : h' = h) : AW sc M d pc L [.long v] h r h' := by
  subst hr; subst hh
  refine ⟨am_le.rf _, ?_⟩
  intro E mc ms p l e R s m args below meth c Z ok H locs cells slots ls hl hH hF hc hs
  refine W.widen (by omega) (by omega) (ok.2.2.2.2.2.2.2.2.2 H locs pc ls hH hF ?_)
  exact ⟨hty, hd⟩
theorem aw_vret (hd : decode M.2.1 pc = .ok (.return_, 1)) (hty : M.2.2.2 = none) (hr : r = none) (hh : h' = h) : AW sc M d pc L [] h r h' := by
  subst hr; subst hh
  refine ⟨am_le.rf _, ?_⟩
  intro E mc ms p l e R s m args below meth c Z ok H locs cells slots ls hl hH hF hc hs
  refine W.widen (by omega) (by omega) (ok.2.2.2.2.2.2.2.2.2 H locs pc ls hH hF ?_)
  exact ⟨hty, hd⟩
end AMR
end
section
/-! THE AM's ROWS: fields, arrays, new, calls -/
theorem am_nar (E : am_E) (ty : FieldType) (v : Value) (h : narrow ty v = v) : narrow ty (am_v E v) = am_v E v := by
  cases v with
  | ref k => cases ty <;> rfl
  | _ => exact h
theorem am_fit (E : am_E) (ty : FieldType) (v : Value) (h : fits ty v = true) : fits ty (am_v E v) = true := by
  cases v with
  | ref k => cases ty <;> first | rfl | exact h
  | _ => exact h
def am_fl (own : String) (idx ci k : Nat) : Prop := ∃ (C : String) (T : u_T) (N : Nat), am_cl[ci]? = some (C, T, N) ∧ k < N ∧ (∀ w ∈ u_ws C T N, w ∈ am_T) ∧ Cond.fieldLink own idx C (T k).2.1 (T k).2.2.1 ∈ am_T ∧ (T k).1 = C
def am_fn (own : String) (idx ci k : Nat) : Prop := ∃ (C : String) (T : u_T) (N : Nat) (host : String), am_cl[ci]? = some (C, T, N) ∧ k < N ∧ (∀ w ∈ u_ws C T N, w ∈ am_T) ∧ (own, idx, C, (T k).2.1, (T k).2.2.1, host) ∈ am_nf ∧ (T k).1 = C
/-- what a class's table gives: its types, its names apart -/
def am_tb (ci : Nat) (ty0 : Nat → FieldType) : Prop := ∃ (C : String) (T : u_T) (N : Nat), am_cl[ci]? = some (C, T, N) ∧ (∀ w ∈ u_ws C T N, w ∈ am_T) ∧ (∀ k, k < N → parseFieldDescriptor (T k).2.2.1 = some (ty0 k)) ∧ ∀ a, a < N → ∀ b, b < N → a ≠ b → (T a).2.1 ≠ (T b).2.1
def am_fin (ci k : Nat) (fin : Bool) : Prop := ∃ (C : String) (T : u_T) (N : Nat), am_cl[ci]? = some (C, T, N) ∧ (T k).2.2.2 = fin
theorem am_one {E : am_E} {o ci : Nat} {fs : List Value} {H : Heap} {h : List am_C} (hH : am_H E h H) (ho : h[o]? = some (.inr (ci, fs))) : va_P E.2.2.1 am_cl [(E.2.1 + o, .inr (ci, fs.map (am_v E)))] H := by
  obtain ⟨rr, q1, q2, q3⟩ := hH.2 o _ ho
  intro j q hj
  match j, hj with
  | 0, hj => cases hj; exact ⟨rr, q1, q3⟩
  | j + 1, hj => simp at hj
theorem am_oneA {E : am_E} {o t : Nat} {x : vp_A} {H : Heap} {h : List am_C} (hH : am_H E h H) (ho : h[o]? = some (.inl (t, x))) : va_P E.2.2.1 am_cl [(E.2.1 + o, .inl (E.2.2.2 t, am_g E x))] H := by
  have h0 := hH.2 o _ ho
  intro j q hj
  match j, hj with
  | 0, hj => cases hj; exact h0
  | j + 1, hj => simp at hj
theorem am_KA {E : am_E} {U : State} {t : Nat} {ty : FieldType} (hK : am_K E U) (ht : am_ty[t]? = some ty) : ArrOfT U (E.2.2.2 t) ty := (hK.2.1 t ty ht).1
theorem am_rcv {E : am_E} {s : State} {H : Heap} {h : List am_C} {o ci NN : Nat} {fs : List Value} {T : u_T} {C : String} (hK : am_K E s) (hH : am_H E h H) (ho : h[o]? = some (.inr (ci, fs))) (hci : am_cl[ci]? = some (C, T, NN)) : ∃ cell : Cell, H[E.2.1 + o]? = some cell ∧ cell.vm.isStatics = false ∧ s.vm.findClass C = some cell.cls :=
  va_recv (D := E.2.2.1) (cl := am_cl) (tys := []) (q := (C, T, NN)) (q0 := 0) ⟨hK.1, fun _ _ h => by simp at h⟩ (am_one hH ho) hci rfl
section AMH
variable {sc : am_S} {M : am_M} {d pc : Nat} {L : List (Option Value)} {st : List Value} {h : List am_C} {r : Option Value} {h' : List am_C}
theorem aw_get {idx ci o : Nat} {fs : List Value} {v : Value} (k : Nat) (hd : decode M.2.1 pc = .ok (.getfield idx, 3)) (hf : am_fl M.1.cls idx ci k) (ho : h[o]? = some (.inr (ci, fs))) (hv : fs[k]? = some v) (kk : AW sc M d (pc + 3) L (v :: st) h r h') : AW sc M d pc L (.ref (o + 1) :: st) h r h' := by
  refine ⟨kk.1, ?_⟩
  intro E mc ms p l e R s m args below meth c Z ok H locs cells slots ls hl hH hF hc hs
  obtain ⟨hx, hb, hml, hown, hin, hts, hK, hX, hR, hZ⟩ := id ok
  obtain ⟨C, T, N, f1, f2, f3, f4, f5⟩ := hf
  refine va_get (D := E.2.2.1) (cl := am_cl) (tys := []) (ci := ci) (C := C) (T := T) (N := N) (ref := C) (fs := fs.map (am_v E)) (v := am_v E v) hx hb hts f3 hown ⟨hK.1, fun _ _ h => by simp at h⟩ (am_one hH ho) 0 rfl f1 k f2 (hts _ f4) (fun x h => by rw [f5] at h; exact h) (by rw [List.getElem?_map, hv]; rfl) hd ?_
  exact kk.2 E mc ms p l e R s m args below meth c Z ok H locs cells slots ls hl hH hF hc hs
theorem aw_getN {idx ci o : Nat} {fs : List Value} {v : Value} (k : Nat) (hd : decode M.2.1 pc = .ok (.getfield idx, 3)) (hf : am_fn M.1.cls idx ci k) (ho : h[o]? = some (.inr (ci, fs))) (hv : fs[k]? = some v) (kk : AW sc M d (pc + 3) L (v :: st) h r h') : AW sc M d pc L (.ref (o + 1) :: st) h r h' := by
  refine ⟨kk.1, ?_⟩
  intro E mc ms p l e R s m args below meth c Z ok H locs cells slots ls hl hH hF hc hs
  obtain ⟨hx, hb, hml, hown, hin, hts, hK, hX, hR, hZ⟩ := id ok
  obtain ⟨C, T, N, host, f1, f2, f3, f4, f5⟩ := hf
  refine va_getN (D := E.2.2.1) (cl := am_cl) (tys := []) (ci := ci) (C := C) (T := T) (N := N) (ref := C) (host := host) (fs := fs.map (am_v E)) (v := am_v E v) hx hb hts f3 hown ⟨hK.1, fun _ _ h => by simp at h⟩ (am_one hH ho) 0 rfl f1 k f2 ((hK.2.2.2 _ f4).use rfl) (fun x h => by rw [f5] at h; exact h) (by rw [List.getElem?_map, hv]; rfl) hd ?_
  exact kk.2 E mc ms p l e R s m args below meth c Z ok H locs cells slots ls hl hH hF hc hs
theorem aw_put {idx ci o : Nat} {fs : List Value} {v : Value} (k : Nat) {ty0 : Nat → FieldType} (hd : decode M.2.1 pc = .ok (.putfield idx, 3)) (hf : am_fl M.1.cls idx ci k) (hT : am_tb ci ty0) (hfin : am_fin ci k false) (hn : narrow (ty0 k) v = v) (hfit : fits (ty0 k) v = true) (ho : h[o]? = some (.inr (ci, fs))) (kk : AW sc M d (pc + 3) L st (h.set o (.inr (ci, fs.set k v))) r h') : AW sc M d pc L (v :: .ref (o + 1) :: st) h r h' := by
  refine ⟨kk.1.put ho (by simp [am_s1]), ?_⟩
  intro E mc ms p l e R s m args below meth c Z ok H locs cells slots ls hl hH hF hc hs
  obtain ⟨hx, hb, hml, hown, hin, hts, hK, hX, hR, hZ⟩ := id ok
  obtain ⟨C, T, N, f1, f2, f3, f4, f5⟩ := hf
  obtain ⟨C1, T1, N1, g1, -, hty, hnm⟩ := hT
  cases f1.symm.trans g1
  obtain ⟨C2, T2, N2, g2, hfi⟩ := hfin
  cases f1.symm.trans g2
  obtain ⟨rr, q1, q2, cell, w1, w2, w3, w4⟩ := hH.2 o _ ho
  cases f1.symm.trans q1
  have hap := va_apart (own := M.1.cls) (D := E.2.2.1) (cl := am_cl) (tys := []) hts f3 ty0 hty hnm ⟨hK.1, fun _ _ h => by simp at h⟩ f1
  obtain ⟨hS, hfc, kC, hkC, hkind⟩ := hK.1 ci _ f1
  obtain ⟨cf, kf, fi, f, hi', hsl⟩ := hS k f2
  have hlay := hts _ (f3 _ (u_in_lay f2))
  unfold u_lay at hlay
  rw [if_neg (by rw [hfi]; decide)] at hlay
  have hst := (u_facts hfc hkC (u_lays hts f3 f2) hi').1
  have hi2 : s.fieldFound? C (T k).2.1 (T k).2.2.1 = some (cf, kf, fi, f) := by rw [f5] at hi'; exact hi'
  have hlen : k < fs.length := by
    have e0 : fs.length = N := q2
    omega
  have h6 := u_store hfc hkC hkind hlay hi' (hty k f2) (am_nar E _ _ hn) (am_fit E _ _ hfit)
  refine W.putK hx hb (f := f) ⟨hown, hts _ f4, ⟨_, _, _, hi2⟩, hst⟩ (by rw [w2]; exact h6) w1 w3 (by rw [hsl]; exact k2_hasslot (w4 k f2)) rfl rfl hd fun H' e1 e2 e3 => ?_
  rw [hsl] at e1
  have hat : am_at E (E.2.1 + o) (.inr (ci, fs.set k v)) H' := ⟨_, f1, by rw [List.length_set]; exact q2, t_OB.to (V := updV (vp_V (fs.map (am_v E))) k (am_v E v)) ⟨_, e1, w2, w3, t_set w4 hap f2 _⟩ (fun j _ => by rw [vp_updV_set (by rw [List.length_map]; exact hlen), List.map_set])⟩
  exact kk.2 E mc ms p l e R s m args below meth c Z ok H' _ cells slots ls hl (hH.put ho e2 hat e3) (hF.put e3 (Nat.le_add_right _ _)) (by rw [List.length_set]; exact hc) (by rw [am_sz_set _ _ _ _ ho (by simp [am_s1])]; exact hs)
theorem aw_putF {idx ci o : Nat} {fs : List Value} {v : Value} (k : Nat) {ty0 : Nat → FieldType} (hd : decode M.2.1 pc = .ok (.putfield idx, 3)) (hf : am_fl M.1.cls idx ci k) (hT : am_tb ci ty0) (hfin : am_fin ci k true) (hi : M.1.name = "<init>") (how : ∀ (C : String) (T : u_T) (N : Nat), am_cl[ci]? = some (C, T, N) → C = M.1.cls) (hn : narrow (ty0 k) v = v) (hfit : fits (ty0 k) v = true) (ho : h[o]? = some (.inr (ci, fs))) (kk : AW sc M d (pc + 3) L st (h.set o (.inr (ci, fs.set k v))) r h') : AW sc M d pc L (v :: .ref (o + 1) :: st) h r h' := by
  refine ⟨kk.1.put ho (by simp [am_s1]), ?_⟩
  intro E mc ms p l e R s m args below meth c Z ok H locs cells slots ls hl hH hF hc hs
  obtain ⟨hx, hb, hml, hown, hin, hts, hK, hX, hR, hZ⟩ := id ok
  obtain ⟨C, T, N, f1, f2, f3, f4, f5⟩ := hf
  obtain ⟨C1, T1, N1, g1, -, hty, hnm⟩ := hT
  cases f1.symm.trans g1
  obtain ⟨C2, T2, N2, g2, hfi⟩ := hfin
  cases f1.symm.trans g2
  obtain ⟨rr, q1, q2, cell, w1, w2, w3, w4⟩ := hH.2 o _ ho
  cases f1.symm.trans q1
  have hap := va_apart (own := M.1.cls) (D := E.2.2.1) (cl := am_cl) (tys := []) hts f3 ty0 hty hnm ⟨hK.1, fun _ _ h => by simp at h⟩ f1
  obtain ⟨hS, hfc, kC, hkC, hkind⟩ := hK.1 ci _ f1
  obtain ⟨cf, kf, fi, f, hi', hsl⟩ := hS k f2
  have hlay := hts _ (f3 _ (u_in_lay f2))
  unfold u_lay at hlay
  rw [if_pos hfi] at hlay
  have hst := (u_facts hfc hkC (u_lays hts f3 f2) hi').1
  have hi2 : s.fieldFound? C (T k).2.1 (T k).2.2.1 = some (cf, kf, fi, f) := by rw [f5] at hi'; exact hi'
  have hlen : k < fs.length := by
    have e0 : fs.length = N := q2
    omega
  have hcf : m.cls = cf := by
    obtain ⟨_, _, c', _, _, _, -, -, hf', -, -, -, hown2, -⟩ := Cond.laysFinal_spec hlay
    have e1 : c' = cf := by have := hi'.symm.trans hf'; simp at this; exact this.1.symm
    rw [f5, how C T N f1] at hown2
    rw [← e1]; exact Option.some.inj (hown.symm.trans hown2)
  have h6 := u_fits hfc hkC hkind (Or.inr hlay) hi' (hty k f2) (am_nar E _ _ hn) (am_fit E _ _ hfit)
  refine W.putFinK hx hb hown (hts _ f4) hi2 hst hcf (hin.trans hi) (by rw [w2]; exact h6) w1 w3 (by rw [hsl]; exact k2_hasslot (w4 k f2)) rfl rfl hd fun H' e1 e2 e3 => ?_
  rw [hsl] at e1
  have hat : am_at E (E.2.1 + o) (.inr (ci, fs.set k v)) H' := ⟨_, f1, by rw [List.length_set]; exact q2, t_OB.to (V := updV (vp_V (fs.map (am_v E))) k (am_v E v)) ⟨_, e1, w2, w3, t_set w4 hap f2 _⟩ (fun j _ => by rw [vp_updV_set (by rw [List.length_map]; exact hlen), List.map_set])⟩
  exact kk.2 E mc ms p l e R s m args below meth c Z ok H' _ cells slots ls hl (hH.put ho e2 hat e3) (hF.put e3 (Nat.le_add_right _ _)) (by rw [List.length_set]; exact hc) (by rw [am_sz_set _ _ _ _ ho (by simp [am_s1])]; exact hs)
theorem aw_putN {idx ci o : Nat} {fs : List Value} {v : Value} (k : Nat) {ty0 : Nat → FieldType} (hd : decode M.2.1 pc = .ok (.putfield idx, 3)) (hf : am_fn M.1.cls idx ci k) (hT : am_tb ci ty0) (hfin : am_fin ci k false) (hn : narrow (ty0 k) v = v) (hfit : fits (ty0 k) v = true) (ho : h[o]? = some (.inr (ci, fs))) (kk : AW sc M d (pc + 3) L st (h.set o (.inr (ci, fs.set k v))) r h') : AW sc M d pc L (v :: .ref (o + 1) :: st) h r h' := by
  refine ⟨kk.1.put ho (by simp [am_s1]), ?_⟩
  intro E mc ms p l e R s m args below meth c Z ok H locs cells slots ls hl hH hF hc hs
  obtain ⟨hx, hb, hml, hown, hin, hts, hK, hX, hR, hZ⟩ := id ok
  obtain ⟨C, T, N, host, f1, f2, f3, f4, f5⟩ := hf
  obtain ⟨C1, T1, N1, g1, -, hty, hnm⟩ := hT
  cases f1.symm.trans g1
  obtain ⟨C2, T2, N2, g2, hfi⟩ := hfin
  cases f1.symm.trans g2
  obtain ⟨rr, q1, q2, cell, w1, w2, w3, w4⟩ := hH.2 o _ ho
  cases f1.symm.trans q1
  have hap := va_apart (own := M.1.cls) (D := E.2.2.1) (cl := am_cl) (tys := []) hts f3 ty0 hty hnm ⟨hK.1, fun _ _ h => by simp at h⟩ f1
  obtain ⟨hS, hfc, kC, hkC, hkind⟩ := hK.1 ci _ f1
  obtain ⟨cf, kf, fi, f, hi', hsl⟩ := hS k f2
  have hlay := hts _ (f3 _ (u_in_lay f2))
  unfold u_lay at hlay
  rw [if_neg (by rw [hfi]; decide)] at hlay
  have hst := (u_facts hfc hkC (u_lays hts f3 f2) hi').1
  have hi2 : s.fieldFound? C (T k).2.1 (T k).2.2.1 = some (cf, kf, fi, f) := by rw [f5] at hi'; exact hi'
  have hlen : k < fs.length := by
    have e0 : fs.length = N := q2
    omega
  have h6 := u_store hfc hkC hkind hlay hi' (hty k f2) (am_nar E _ _ hn) (am_fit E _ _ hfit)
  refine va_WputK hx hb (f := f) (host := host) hown ((hK.2.2.2 _ f4).use rfl) hi2 hst (by rw [w2]; exact h6) w1 w3 (by rw [hsl]; exact k2_hasslot (w4 k f2)) rfl rfl hd fun H' e1 e2 e3 => ?_
  rw [hsl] at e1
  have hat : am_at E (E.2.1 + o) (.inr (ci, fs.set k v)) H' := ⟨_, f1, by rw [List.length_set]; exact q2, t_OB.to (V := updV (vp_V (fs.map (am_v E))) k (am_v E v)) ⟨_, e1, w2, w3, t_set w4 hap f2 _⟩ (fun j _ => by rw [vp_updV_set (by rw [List.length_map]; exact hlen), List.map_set])⟩
  exact kk.2 E mc ms p l e R s m args below meth c Z ok H' _ cells slots ls hl (hH.put ho e2 hat e3) (hF.put e3 (Nat.le_add_right _ _)) (by rw [List.length_set]; exact hc) (by rw [am_sz_set _ _ _ _ ho (by simp [am_s1])]; exact hs)
theorem aw_iald {o n t : Nat} {f : Nat → Int32} {i : Int32} (hd : decode M.2.1 pc = .ok (.iaload, 1)) (ht : am_ty[t]? = some .int) (ho : h[o]? = some (.inl (t, n, .inl f))) (hi : vp_in i n) (kk : AW sc M d (pc + 1) L (.int (f i.toNatClampNeg) :: st) h r h') : AW sc M d pc L (.int i :: .ref (o + 1) :: st) h r h' := by
  refine ⟨kk.1, ?_⟩
  intro E mc ms p l e R s m args below meth c Z ok H locs cells slots ls hl hH hF hc hs
  obtain ⟨hx, hb, hml, hown, hin, hts, hK, hX, hR, hZ⟩ := id ok
  refine va_iald (D := E.2.2.1) (cl := am_cl) (tys := [(E.2.2.2 t, .int)]) hx hb ⟨hK.1, fun k q hk => ?_⟩ (am_oneA hH ho) 0 0 rfl rfl hi hd ?_
  · match k, hk with
    | 0, hk => cases hk; exact ⟨am_KA hK ht, (hK.2.1 t _ ht).2⟩
    | k + 1, hk => simp at hk
  · exact kk.2 E mc ms p l e R s m args below meth c Z ok H locs cells slots ls hl hH hF hc hs
theorem aw_zald {o n t : Nat} {f : Nat → Int32} {i : Int32} (hd : decode M.2.1 pc = .ok (.baload, 1)) (ht : am_ty[t]? = some .boolean) (ho : h[o]? = some (.inl (t, n, .inl f))) (hi : vp_in i n) (kk : AW sc M d (pc + 1) L (.int (f i.toNatClampNeg) :: st) h r h') : AW sc M d pc L (.int i :: .ref (o + 1) :: st) h r h' := by
  refine ⟨kk.1, ?_⟩
  intro E mc ms p l e R s m args below meth c Z ok H locs cells slots ls hl hH hF hc hs
  obtain ⟨hx, hb, hml, hown, hin, hts, hK, hX, hR, hZ⟩ := id ok
  refine va_zald (D := E.2.2.1) (cl := am_cl) (tys := [(E.2.2.2 t, .boolean)]) hx hb ⟨hK.1, fun k q hk => ?_⟩ (am_oneA hH ho) 0 0 rfl rfl hi hd ?_
  · match k, hk with
    | 0, hk => cases hk; exact ⟨am_KA hK ht, (hK.2.1 t _ ht).2⟩
    | k + 1, hk => simp at hk
  · exact kk.2 E mc ms p l e R s m args below meth c Z ok H locs cells slots ls hl hH hF hc hs
theorem aw_lald {o n t : Nat} {f : Nat → Int64} {i : Int32} (hd : decode M.2.1 pc = .ok (.laload, 1)) (ht : am_ty[t]? = some .long) (ho : h[o]? = some (.inl (t, n, .inr (.inl f)))) (hi : vp_in i n) (kk : AW sc M d (pc + 1) L (.long (f i.toNatClampNeg) :: st) h r h') : AW sc M d pc L (.int i :: .ref (o + 1) :: st) h r h' := by
  refine ⟨kk.1, ?_⟩
  intro E mc ms p l e R s m args below meth c Z ok H locs cells slots ls hl hH hF hc hs
  obtain ⟨hx, hb, hml, hown, hin, hts, hK, hX, hR, hZ⟩ := id ok
  refine va_lald (D := E.2.2.1) (cl := am_cl) (tys := [(E.2.2.2 t, .long)]) hx hb ⟨hK.1, fun k q hk => ?_⟩ (am_oneA hH ho) 0 0 rfl rfl hi hd ?_
  · match k, hk with
    | 0, hk => cases hk; exact ⟨am_KA hK ht, (hK.2.1 t _ ht).2⟩
    | k + 1, hk => simp at hk
  · exact kk.2 E mc ms p l e R s m args below meth c Z ok H locs cells slots ls hl hH hF hc hs
theorem aw_aald {o n t : Nat} {f : Nat → Option Nat} {i : Int32} {ty : FieldType} (hd : decode M.2.1 pc = .ok (.aaload, 1)) (ht : am_ty[t]? = some ty) (href : ty.isReference = true) (ho : h[o]? = some (.inl (t, n, .inr (.inr (.inr (.inr f)))))) (hi : vp_in i n) (kk : AW sc M d (pc + 1) L (va_rf (f i.toNatClampNeg) :: st) h r h') : AW sc M d pc L (.int i :: .ref (o + 1) :: st) h r h' := by
  refine ⟨kk.1, ?_⟩
  intro E mc ms p l e R s m args below meth c Z ok H locs cells slots ls hl hH hF hc hs
  obtain ⟨hx, hb, hml, hown, hin, hts, hK, hX, hR, hZ⟩ := id ok
  have hcell : H[E.2.1 + o]? = some (vp_cell (E.2.2.2 t) (n, .inr (.inr (.inr (.inr (fun j => (f j).map (am_a E))))))) := hH.2 o _ ho
  have hlt : i.toNatClampNeg < n := Nat.not_le.mp fun q => hi (Or.inr q)
  refine W.aald (v := am_v E (va_rf (f i.toNatClampNeg))) (ty := ty) hx hb hcell (am_KA hK ht n _) href (fun q => by cases q) (by show ¬ (i < 0 ∨ (arrV _ _ _).slots.size ≤ _); rw [arrV_size]; exact hi) (by show (arrV _ _ _).slots[_]? = _; rw [arrV_read _ _ hlt, am_v_rf]) rfl rfl hd ?_
  exact kk.2 E mc ms p l e R s m args below meth c Z ok H locs cells slots ls hl hH hF hc hs
theorem aw_iast {o n t : Nat} {f : Nat → Int32} {i : Int32} {x : Int32} (hd : decode M.2.1 pc = .ok (.iastore, 1)) (ht : am_ty[t]? = some .int) (ho : h[o]? = some (.inl (t, n, .inl f))) (hi : vp_in i n) (kk : AW sc M d (pc + 1) L st (h.set o (.inl (t, n, .inl (upd f i.toNatClampNeg x)))) r h') : AW sc M d pc L (.int x :: .int i :: .ref (o + 1) :: st) h r h' := by
  refine ⟨am_le.put (c := .inl (t, n, .inl (upd f i.toNatClampNeg x))) ho rfl kk.1, ?_⟩
  intro E mc ms p l e R s m args below meth c Z ok H locs cells slots ls hl hH hF hc hs
  obtain ⟨hx, hb, hml, hown, hin, hts, hK, hX, hR, hZ⟩ := id ok
  have hcell : H[E.2.1 + o]? = some (vp_cell (E.2.2.2 t) (n, .inl f)) := hH.2 o _ ho
  refine W.iast hx hb hcell (am_KA hK ht n _) (fun q => by cases q) (by show ¬ (i < 0 ∨ (arrV _ _ _).slots.size ≤ _); rw [arrV_size]; exact hi) rfl rfl hd fun H1 e1 e2 e3 => ?_
  have hat : am_at E (E.2.1 + o) (.inl (t, n, .inl (upd f i.toNatClampNeg x))) H1 := by
    show H1[E.2.1 + o]? = some (vp_cell (E.2.2.2 t) (n, .inl (upd f i.toNatClampNeg x)))
    rw [e1, vp_cell_i, vp_cell_i, arrV_store]
    congr 2
    funext q
    by_cases hq : q = i.toNatClampNeg
    · subst hq
      simp [updV, upd]
    · simp [updV, upd, hq]
  exact kk.2 E mc ms p l e R s m args below meth c Z ok H1 _ cells slots ls hl (hH.put ho e2 hat e3) (hF.put e3 (Nat.le_add_right _ _)) (by rw [List.length_set]; exact hc) (by rw [am_sz_set _ _ (.inl (t, n, .inl (upd f i.toNatClampNeg x))) _ ho rfl]; exact hs)
theorem aw_last {o n t : Nat} {f : Nat → Int64} {i : Int32} {x : Int64} (hd : decode M.2.1 pc = .ok (.lastore, 1)) (ht : am_ty[t]? = some .long) (ho : h[o]? = some (.inl (t, n, .inr (.inl f)))) (hi : vp_in i n) (kk : AW sc M d (pc + 1) L st (h.set o (.inl (t, n, .inr (.inl (vp_updL f i.toNatClampNeg x))))) r h') : AW sc M d pc L (.long x :: .int i :: .ref (o + 1) :: st) h r h' := by
  refine ⟨am_le.put (c := .inl (t, n, .inr (.inl (vp_updL f i.toNatClampNeg x)))) ho rfl kk.1, ?_⟩
  intro E mc ms p l e R s m args below meth c Z ok H locs cells slots ls hl hH hF hc hs
  obtain ⟨hx, hb, hml, hown, hin, hts, hK, hX, hR, hZ⟩ := id ok
  have hcell : H[E.2.1 + o]? = some (vp_cell (E.2.2.2 t) (n, .inr (.inl f))) := hH.2 o _ ho
  refine W.last hx hb hcell (am_KA hK ht n _) (fun q => by cases q) (by show ¬ (i < 0 ∨ (arrV _ _ _).slots.size ≤ _); rw [arrV_size]; exact hi) rfl rfl hd fun H1 e1 e2 e3 => ?_
  have hat : am_at E (E.2.1 + o) (.inl (t, n, .inr (.inl (vp_updL f i.toNatClampNeg x)))) H1 := by
    show H1[E.2.1 + o]? = some (vp_cell (E.2.2.2 t) (n, .inr (.inl (vp_updL f i.toNatClampNeg x))))
    rw [e1, vp_cell_l, vp_cell_l, arrV_store]
    congr 2
    funext q
    by_cases hq : q = i.toNatClampNeg
    · subst hq
      simp [updV, vp_updL]
    · simp [updV, vp_updL, hq]
  exact kk.2 E mc ms p l e R s m args below meth c Z ok H1 _ cells slots ls hl (hH.put ho e2 hat e3) (hF.put e3 (Nat.le_add_right _ _)) (by rw [List.length_set]; exact hc) (by rw [am_sz_set _ _ (.inl (t, n, .inr (.inl (vp_updL f i.toNatClampNeg x)))) _ ho rfl]; exact hs)
theorem aw_zast {o n t : Nat} {f : Nat → Int32} {i : Int32} {x : Int32} (hd : decode M.2.1 pc = .ok (.bastore, 1)) (ht : am_ty[t]? = some .boolean) (ho : h[o]? = some (.inl (t, n, .inl f))) (hi : vp_in i n) (hnx : narrow .boolean (.int x) = .int x) (kk : AW sc M d (pc + 1) L st (h.set o (.inl (t, n, .inl (upd f i.toNatClampNeg x)))) r h') : AW sc M d pc L (.int x :: .int i :: .ref (o + 1) :: st) h r h' := by
  refine ⟨am_le.put (c := .inl (t, n, .inl (upd f i.toNatClampNeg x))) ho rfl kk.1, ?_⟩
  intro E mc ms p l e R s m args below meth c Z ok H locs cells slots ls hl hH hF hc hs
  obtain ⟨hx, hb, hml, hown, hin, hts, hK, hX, hR, hZ⟩ := id ok
  have hcell : H[E.2.1 + o]? = some (vp_cell (E.2.2.2 t) (n, .inl f)) := hH.2 o _ ho
  refine W.zast hx hb hcell (am_KA hK ht n _) (fun q => by cases q) (by show ¬ (i < 0 ∨ (arrV _ _ _).slots.size ≤ _); rw [arrV_size]; exact hi) rfl rfl hd fun H1 e1 e2 e3 => ?_
  rw [hnx] at e1
  have hat : am_at E (E.2.1 + o) (.inl (t, n, .inl (upd f i.toNatClampNeg x))) H1 := by
    show H1[E.2.1 + o]? = some (vp_cell (E.2.2.2 t) (n, .inl (upd f i.toNatClampNeg x)))
    rw [e1, vp_cell_i, vp_cell_i, arrV_store]
    congr 2
    funext q
    by_cases hq : q = i.toNatClampNeg
    · subst hq
      simp [updV, upd]
    · simp [updV, upd, hq]
  exact kk.2 E mc ms p l e R s m args below meth c Z ok H1 _ cells slots ls hl (hH.put ho e2 hat e3) (hF.put e3 (Nat.le_add_right _ _)) (by rw [List.length_set]; exact hc) (by rw [am_sz_set _ _ (.inl (t, n, .inl (upd f i.toNatClampNeg x))) _ ho rfl]; exact hs)
theorem aw_alen {o t : Nat} {x : vp_A} {ty : FieldType} (v : Int32) (hd : decode M.2.1 pc = .ok (.arraylength, 1)) (ht : am_ty[t]? = some ty) (ho : h[o]? = some (.inl (t, x))) (hv : Int32.ofNat x.1 = v) (kk : AW sc M d (pc + 1) L (.int v :: st) h r h') : AW sc M d pc L (.ref (o + 1) :: st) h r h' := by
  refine ⟨kk.1, ?_⟩
  intro E mc ms p l e R s m args below meth c Z ok H locs cells slots ls hl hH hF hc hs
  obtain ⟨hx, hb, hml, hown, hin, hts, hK, hX, hR, hZ⟩ := id ok
  have hcell : H[E.2.1 + o]? = some (vp_cell (E.2.2.2 t) (am_g E x)) := hH.2 o _ ho
  have hcv : ∃ z : Nat → Value, vp_cell (E.2.2.2 t) (am_g E x) = arrV (E.2.2.2 t) x.1 z := by
    obtain ⟨n, y⟩ := x
    rcases y with f | f | f | f | f <;> first | exact ⟨_, vp_cell_i _ _ _⟩ | exact ⟨_, vp_cell_l _ _ _⟩ | exact ⟨_, vp_cell_f _ _ _⟩ | exact ⟨_, vp_cell_d _ _ _⟩ | exact ⟨_, vp_cell_q _ _ _⟩
  obtain ⟨z, hz⟩ := hcv
  rw [hz] at hcell
  refine W.alen (n := v) hx hb hcell (am_KA hK ht x.1 z) (by rw [arrV_size]; exact hv) rfl rfl hd ?_
  exact kk.2 E mc ms p l e R s m args below meth c Z ok H locs cells slots ls hl hH hF hc hs
theorem aw_sld {i : Int32} (hd : decode M.2.1 pc = .ok (.iaload, 1)) (hi : vp_in i sc.1) (kk : AW sc M d (pc + 1) L (.int (sc.2 i.toNatClampNeg) :: st) h r h') : AW sc M d pc L (.int i :: .ref 0 :: st) h r h' := by
  refine ⟨kk.1, ?_⟩
  intro E mc ms p l e R s m args below meth c Z ok H locs cells slots ls hl hH hF hc hs
  obtain ⟨hx, hb, hml, hown, hin, hts, hK, hX, hR, hZ⟩ := id ok
  obtain ⟨scr, k1, k2, k3, k4, k5⟩ := hX.1.kept (hF.1 _ hX.2.1)
  have hlt : i.toNatClampNeg < sc.1 := Nat.not_le.mp fun q => hi (Or.inr q)
  exact W.iald (v := .int (sc.2 i.toNatClampNeg)) hx hb k1 k2 k3 (by rw [k4]; exact hi) (k5 _ hlt) rfl rfl hd (kk.2 E mc ms p l e R s m args below meth c Z ok H locs cells slots ls hl hH hF hc hs)
theorem aw_slen (hd : decode M.2.1 pc = .ok (.arraylength, 1)) (kk : AW sc M d (pc + 1) L (.int (Int32.ofNat sc.1) :: st) h r h') : AW sc M d pc L (.ref 0 :: st) h r h' := by
  refine ⟨kk.1, ?_⟩
  intro E mc ms p l e R s m args below meth c Z ok H locs cells slots ls hl hH hF hc hs
  obtain ⟨hx, hb, hml, hown, hin, hts, hK, hX, hR, hZ⟩ := id ok
  obtain ⟨scr, k1, k2, k3, k4, k5⟩ := hX.1.kept (hF.1 _ hX.2.1)
  exact W.alen (n := Int32.ofNat sc.1) hx hb k1 k2 (by rw [k4]) rfl rfl hd (kk.2 E mc ms p l e R s m args below meth c Z ok H locs cells slots ls hl hH hF hc hs)
def am_fc (own : String) (idx ci : Nat) (fs : List Value) : Prop := ∃ (C : String) (T : u_T) (N : Nat) (ty0 : Nat → FieldType), am_cl[ci]? = some (C, T, N) ∧ (∀ w ∈ u_ws C T N, w ∈ am_T) ∧ (∀ k, k < N → parseFieldDescriptor (T k).2.2.1 = some (ty0 k)) ∧ Cond.classLink own idx C ∈ am_T ∧ Cond.instantiable C N ∈ am_T ∧ Cond.initialized C ∈ am_T ∧ fs = (List.range N).map (fun j => defaultValue (ty0 j))
theorem am_defs (E : am_E) (N : Nat) (ty0 : Nat → FieldType) : ((List.range N).map (fun j => defaultValue (ty0 j))).map (am_v E) = (List.range N).map (fun j => defaultValue (ty0 j)) := by
  rw [List.map_map]
  exact List.map_congr_left (fun j _ => am_v_def E (ty0 j))
theorem aw_new {idx ci : Nat} {fs : List Value} (n : Nat) (hd : decode M.2.1 pc = .ok (.new idx, 3)) (hf : am_fc M.1.cls idx ci fs) (hlen : h.length = n) (kk : AW sc M d (pc + 3) L (.ref (n + 1) :: st) (h ++ [.inr (ci, fs)]) r h') : AW sc M d pc L st h r h' := by
  subst hlen
  obtain ⟨h1, h2⟩ := kk.1.push
  simp only [am_s1] at h2
  refine ⟨kk.1.pop, ?_⟩
  intro E mc ms p l e R s m args below meth c Z ok H locs cells slots ls hl hH hF hc hs
  obtain ⟨hx, hb, hml, hown, hin, hts, hK, hX, hR, hZ⟩ := id ok
  obtain ⟨C, T, N, ty0, f1, f3, hty, f4, f5, f6, f7⟩ := hf
  have hfl : fs.length = N := by rw [f7, List.length_map, List.length_range]
  have hKn := hK.1 ci _ f1
  refine W.newcK hx hb hown (hts _ f4) (hts _ f5) (hts _ f6) rfl hd (by omega) (by omega) hKn.2.1 hH.1 fun H1 kC hkC e1 z1 o1 => ?_
  have z2 : H1.size = H.size + 1 := by rw [z1, hH.1]
  have hat : am_at E H.size (.inr (ci, fs)) H1 := by
    refine ⟨_, f1, hfl, ?_⟩
    rw [hH.1]
    refine (u_born ty0 hts f3 hKn hkC e1 hty).to (fun j hj => ?_)
    rw [f7, am_defs]
    simp [vp_V, hj]
  exact kk.2 E mc ms p l e R s m args below meth c Z ok H1 locs (cells + 1) (slots + N) ls hl (hH.push z2 hat (fun q hq => o1 q (by rw [← hH.1]; exact hq))) (hF.push (fun q hq => o1 q (by rw [← hH.1]; exact hq)) (by rw [hH.1]; omega)) (by rw [List.length_append]; simp; omega) (by rw [am_sz_app]; simp only [am_s1]; omega)
theorem aw_newi {t N : Nat} {i : Int32} (n : Nat) (hd : decode M.2.1 pc = .ok (.newarray .int, 2)) (hw : Cond.arrayClass .int ∈ am_T) (ht : am_ty[t]? = some .int) (hi : ¬ i < 0) (hN : i.toNatClampNeg = N) (hb0 : N * 8 ≤ 536870912) (hlen : h.length = n) (kk : AW sc M d (pc + 2) L (.ref (n + 1) :: st) (h ++ [.inl (t, N, .inl (fun _ => 0))]) r h') : AW sc M d pc L (.int i :: st) h r h' := by
  subst hlen
  obtain ⟨h1, h2⟩ := kk.1.push
  simp only [am_s1] at h2
  refine ⟨kk.1.pop, ?_⟩
  intro E mc ms p l e R s m args below meth c Z ok H locs cells slots ls hl hH hF hc hs
  obtain ⟨hx, hb, hml, hown, hin, hts, hK, hX, hR, hZ⟩ := id ok
  refine va_newaK (atype := .int) hx hb (hts _ hw) rfl hd rfl hi hN (by show N * _ ≤ _; exact Nat.le_trans (Nat.mul_le_mul_left N (by decide)) hb0) (by omega) (by omega) hH.1 fun H1 cA e1 z1 o1 hAr hfc => ?_
  have z2 : H1.size = H.size + 1 := by rw [z1, hH.1]
  have hcA : cA = E.2.2.2 t := Option.some.inj (hfc.symm.trans (hK.2.1 t _ ht).2)
  subst hcA
  have hat : am_at E H.size (.inl (t, N, .inl (fun _ => 0))) H1 := by
    show H1[H.size]? = some (vp_cell (E.2.2.2 t) (N, .inl (fun _ => 0)))
    rw [hH.1]
    exact e1
  exact kk.2 E mc ms p l e R s m args below meth c Z ok H1 locs (cells + 1) (slots + N) ls hl (hH.push z2 hat (fun q hq => o1 q (by rw [← hH.1]; exact hq))) (hF.push (fun q hq => o1 q (by rw [← hH.1]; exact hq)) (by rw [hH.1]; omega)) (by rw [List.length_append]; simp; omega) (by rw [am_sz_app]; simp only [am_s1]; omega)
theorem aw_newl {t N : Nat} {i : Int32} (n : Nat) (hd : decode M.2.1 pc = .ok (.newarray .long, 2)) (hw : Cond.arrayClass .long ∈ am_T) (ht : am_ty[t]? = some .long) (hi : ¬ i < 0) (hN : i.toNatClampNeg = N) (hb0 : N * 8 ≤ 536870912) (hlen : h.length = n) (kk : AW sc M d (pc + 2) L (.ref (n + 1) :: st) (h ++ [.inl (t, N, .inr (.inl (fun _ => 0)))]) r h') : AW sc M d pc L (.int i :: st) h r h' := by
  subst hlen
  obtain ⟨h1, h2⟩ := kk.1.push
  simp only [am_s1] at h2
  refine ⟨kk.1.pop, ?_⟩
  intro E mc ms p l e R s m args below meth c Z ok H locs cells slots ls hl hH hF hc hs
  obtain ⟨hx, hb, hml, hown, hin, hts, hK, hX, hR, hZ⟩ := id ok
  refine va_newaK (atype := .long) hx hb (hts _ hw) rfl hd rfl hi hN (by show N * _ ≤ _; exact Nat.le_trans (Nat.mul_le_mul_left N (by decide)) hb0) (by omega) (by omega) hH.1 fun H1 cA e1 z1 o1 hAr hfc => ?_
  have z2 : H1.size = H.size + 1 := by rw [z1, hH.1]
  have hcA : cA = E.2.2.2 t := Option.some.inj (hfc.symm.trans (hK.2.1 t _ ht).2)
  subst hcA
  have hat : am_at E H.size (.inl (t, N, .inr (.inl (fun _ => 0)))) H1 := by
    show H1[H.size]? = some (vp_cell (E.2.2.2 t) (N, .inr (.inl (fun _ => 0))))
    rw [hH.1]
    exact e1
  exact kk.2 E mc ms p l e R s m args below meth c Z ok H1 locs (cells + 1) (slots + N) ls hl (hH.push z2 hat (fun q hq => o1 q (by rw [← hH.1]; exact hq))) (hF.push (fun q hq => o1 q (by rw [← hH.1]; exact hq)) (by rw [hH.1]; omega)) (by rw [List.length_append]; simp; omega) (by rw [am_sz_app]; simp only [am_s1]; omega)
theorem aw_newz {t N : Nat} {i : Int32} (n : Nat) (hd : decode M.2.1 pc = .ok (.newarray .boolean, 2)) (hw : Cond.arrayClass .boolean ∈ am_T) (ht : am_ty[t]? = some .boolean) (hi : ¬ i < 0) (hN : i.toNatClampNeg = N) (hb0 : N * 8 ≤ 536870912) (hlen : h.length = n) (kk : AW sc M d (pc + 2) L (.ref (n + 1) :: st) (h ++ [.inl (t, N, .inl (fun _ => 0))]) r h') : AW sc M d pc L (.int i :: st) h r h' := by
  subst hlen
  obtain ⟨h1, h2⟩ := kk.1.push
  simp only [am_s1] at h2
  refine ⟨kk.1.pop, ?_⟩
  intro E mc ms p l e R s m args below meth c Z ok H locs cells slots ls hl hH hF hc hs
  obtain ⟨hx, hb, hml, hown, hin, hts, hK, hX, hR, hZ⟩ := id ok
  refine va_newaK (atype := .boolean) hx hb (hts _ hw) rfl hd rfl hi hN (by show N * _ ≤ _; exact Nat.le_trans (Nat.mul_le_mul_left N (by decide)) hb0) (by omega) (by omega) hH.1 fun H1 cA e1 z1 o1 hAr hfc => ?_
  have z2 : H1.size = H.size + 1 := by rw [z1, hH.1]
  have hcA : cA = E.2.2.2 t := Option.some.inj (hfc.symm.trans (hK.2.1 t _ ht).2)
  subst hcA
  have hat : am_at E H.size (.inl (t, N, .inl (fun _ => 0))) H1 := by
    show H1[H.size]? = some (vp_cell (E.2.2.2 t) (N, .inl (fun _ => 0)))
    rw [hH.1]
    exact e1
  exact kk.2 E mc ms p l e R s m args below meth c Z ok H1 locs (cells + 1) (slots + N) ls hl (hH.push z2 hat (fun q hq => o1 q (by rw [← hH.1]; exact hq))) (hF.push (fun q hq => o1 q (by rw [← hH.1]; exact hq)) (by rw [hH.1]; omega)) (by rw [List.length_append]; simp; omega) (by rw [am_sz_app]; simp only [am_s1]; omega)
theorem aw_obj {idx : Nat} {o : Nat} (hd : decode M.2.1 pc = .ok (.invokespecial idx, 3)) (hw : Cond.methodLink M.1.cls idx objectInit ∈ am_T) (hw2 : Cond.instanceMethod objectInit ∈ am_T) (hw3 : Cond.code objectInit ⟨#[0xb1]⟩ 1 none ∈ am_T) (hd1 : 1 ≤ d) (hst : (st.map fun v => v.category).sum ≤ 8) (kk : AW sc M d (pc + 3) L st h r h') : AW sc M d pc L (.ref o :: st) h r h' := by
  refine ⟨kk.1, ?_⟩
  intro E mc ms p l e R s m args below meth c Z ok H locs cells slots ls hl hH hF hc hs
  obtain ⟨hx, hb, hml, hown, hin, hts, hK, hX, hR, hZ⟩ := id ok
  have hk : am_k ≤ am_k * d := Nat.le_mul_of_pos_right am_k hd1
  have hk0 : 20 ≤ am_k := by decide
  refine W.objInit hx hb hown (hts _ hw) (hts _ hw2) (hts _ hw3) rfl (by rw [hml]; exact hl.2.1) rfl hd (by omega) ?_ ?_
  · have h8 := lv_room (m := m) (pc := pc) (ls := ls) (rest := (Value.ref o :: st).map (am_v E)) (st := st.map (am_v E)) (by rw [am_cats]; exact hst)
    exact Nat.le_trans (Nat.add_le_add_right h8 12) (by omega)
  · exact kk.2 E mc ms p l e R s m args below meth c Z ok H locs cells slots ls hl hH hF hc hs
end AMH
/-! calls: what a call site rests on -/
def am_cB (own : String) (idx : Nat) (M1 : am_M) (n : Nat) : Prop := Cond.code M1.1 M1.2.1 M1.2.2.1 M1.2.2.2 ∈ am_T ∧ Cond.initialized M1.1.cls ∈ am_T ∧ (M1.1.cls ≠ "java/lang/invoke/MethodHandle" ∧ M1.1.cls ≠ "java/lang/invoke/VarHandle" ∧ (parseMethodDescriptor M1.1.desc).map (fun d => d.parameters.length) = some n) ∧ 8 + (M1.2.2.1 + 11) ≤ am_k
def am_cL (own : String) (idx : Nat) (M1 : am_M) : Prop := Cond.methodLink own idx M1.1 ∈ am_T
def am_cN (own : String) (idx : Nat) (M1 : am_M) : Prop := ∃ host : String, (own, idx, M1.1, host) ∈ am_nm
theorem am_goods (M1 : am_M) (hc : Cond.code M1.1 M1.2.1 M1.2.2.1 M1.2.2.2 ∈ am_T) : GoodIn am_T (am_ws M1) := by
  intro w hw
  rcases List.mem_cons.mp hw with rfl | hw
  · exact ⟨hc, am_good _ hc⟩
  · exact ⟨hw, am_good _ hw⟩
theorem am_len {M1 : am_M} {n : Nat} (h : (parseMethodDescriptor M1.1.desc).map (fun d => d.parameters.length) = some n) : ∀ sig, parseMethodDescriptor M1.1.desc = some sig → n = sig.parameters.length := by
  intro sig hs
  rw [hs] at h
  exact (Option.some.inj h).symm
theorem am_room {R : Room} {d d1 mL : Nat} (hd : d1 + 1 ≤ d) (h1 : d ≤ R.frames) (h2 : am_k * d ≤ R.locals) (hk : 8 + (mL + 11) ≤ am_k) : d1 + 1 ≤ R.frames ∧ 8 + (mL + 11) + am_k * d1 ≤ R.locals := by
  have h3 := Nat.mul_le_mul_left am_k hd
  rw [Nat.mul_succ] at h3
  omega
section AMCALL
variable {sc : am_S} {M M1 : am_M} {d d1 pc n : Nat} {L : List (Option Value)} {st As : List Value} {h h1 : List am_C} {r r1 : Option Value} {h' : List am_C}
theorem aw_callV {o ci : Nat} {fs : List Value} {T : u_T} {NN : Nat} {idx : Nat} {st0 : List Value} (hd : decode M.2.1 pc = .ok (.invokevirtual idx, 3)) (hB : am_cB M.1.cls idx M1 n) (hlk : am_cL M.1.cls idx M1) (hv : Cond.instanceMethod M1.1 ∈ am_T ∧ Cond.selects M1.1.cls M1.1 M1.1 ∈ am_T) (hci : am_cl[ci]? = some (M1.1.cls, T, NN)) (ho : h[o]? = some (.inr (ci, fs))) (hd1 : d1 + 1 ≤ d) (hA : As.length = n) (hst : st0 = As.reverse ++ .ref (o + 1) :: st) (hcat : (st.map fun v => v.category).sum ≤ 8) (hM : AM sc M1 d1 (.ref (o + 1) :: As) h r1 h1) (kk : AW sc M d (pc + 3) L (r1.toList ++ st) h1 r h') : AW sc M d pc L st0 h r h' := by
  obtain ⟨hh1, hh2⟩ := kk.1
  refine ⟨hM.1.tr kk.1, ?_⟩
  intro E mc ms p l e R s m args below meth c Z ok H locs cells slots ls hl hH hF hc hs
  obtain ⟨hx, hb, hml, hown, hin, hts, hK, hX, hR, hZ⟩ := id ok
  obtain ⟨c1, c2, c3, c4⟩ := hB
  obtain ⟨⟨g1, g2⟩, hMet⟩ := hM
  have hroom := am_room hd1 hR.1 hR.2.1 c4
  have hrl : ((st.map (am_v E)).map fun v => v.category).sum ≤ 8 := by rw [am_cats]; exact hcat
  refine am_go (sc := sc) (E := E) (r1 := r1) (h1 := h1) (va_runV (As := As.map (am_v E)) (rest := st.map (am_v E)) (bytes := M1.2.1) (maxL := M1.2.2.1) (ret := M1.2.2.2) (b := E.2.1 + o) (C := M1.1.cls) (n := n) (Ts := am_T) (own := M.1.cls) ⟨hx, hb, hml, hown, hts⟩ (hMet l E) ⟨⟨rfl, rfl, hroom.1, hroom.2, pay_in hts (am_goods M1 c1), List.mem_cons_self, hts _ c1, hts _ c2, ⟨c3.1, c3.2.1⟩, am_len c3.2.2, hts _ hlk⟩, hts _ hv.1, hts _ hv.2⟩ ⟨am_blind, am_rcv hK hH ho hci, fun U hU hW => ⟨rfl, hK.warm hW, ⟨va_X.moved hW.alike (by rw [hU]; exact hX.1.kept (hF.1 _ hX.2.1)), hX.2.1⟩, by rw [hU]; exact hH⟩⟩ rfl (by rw [List.length_map]; exact hA) hl.2.1 (by rw [hst, List.map_append, List.map_reverse]; rfl) (lv_room hrl) hd ⟨by omega, by omega⟩) hF (fun H1 locs1 hH1 hF1 => ?_)
  · have e3 : (r1.map (am_v E)).toList ++ st.map (am_v E) = (r1.toList ++ st).map (am_v E) := by cases r1 <;> rfl
    rw [e3]
    exact kk.2 E mc ms p l e R s m args below meth c Z ok H1 locs1 _ _ ls hl hH1 hF1 (by omega) (by omega)
theorem aw_callS {idx : Nat} {st0 : List Value} (hd : decode M.2.1 pc = .ok (.invokestatic idx, 3)) (hB : am_cB M.1.cls idx M1 n) (hlk : am_cL M.1.cls idx M1) (hv : Cond.static M1.1 ∈ am_T) (hd1 : d1 + 1 ≤ d) (hA : As.length = n) (hst : st0 = As.reverse ++ st) (hcat : (st.map fun v => v.category).sum ≤ 8) (hM : AM sc M1 d1 As h r1 h1) (kk : AW sc M d (pc + 3) L (r1.toList ++ st) h1 r h') : AW sc M d pc L st0 h r h' := by
  obtain ⟨hh1, hh2⟩ := kk.1
  refine ⟨hM.1.tr kk.1, ?_⟩
  intro E mc ms p l e R s m args below meth c Z ok H locs cells slots ls hl hH hF hc hs
  obtain ⟨hx, hb, hml, hown, hin, hts, hK, hX, hR, hZ⟩ := id ok
  obtain ⟨c1, c2, c3, c4⟩ := hB
  obtain ⟨⟨g1, g2⟩, hMet⟩ := hM
  have hroom := am_room hd1 hR.1 hR.2.1 c4
  have hrl : ((st.map (am_v E)).map fun v => v.category).sum ≤ 8 := by rw [am_cats]; exact hcat
  refine am_go (sc := sc) (E := E) (r1 := r1) (h1 := h1) (va_runS (As := As.map (am_v E)) (rest := st.map (am_v E)) (bytes := M1.2.1) (maxL := M1.2.2.1) (ret := M1.2.2.2) (n := n) (Ts := am_T) (own := M.1.cls) ⟨hx, hb, hml, hown, hts⟩ (hMet l E) ⟨⟨rfl, rfl, hroom.1, hroom.2, pay_in hts (am_goods M1 c1), List.mem_cons_self, hts _ c1, hts _ c2, ⟨c3.1, c3.2.1⟩, am_len c3.2.2, hts _ hlk⟩, hts _ hv⟩ ⟨am_blind, fun U hU hW => ⟨rfl, hK.warm hW, ⟨va_X.moved hW.alike (by rw [hU]; exact hX.1.kept (hF.1 _ hX.2.1)), hX.2.1⟩, by rw [hU]; exact hH⟩⟩ rfl (by rw [List.length_map]; exact hA) hl.2.1 (by rw [hst, List.map_append, List.map_reverse]) (lv_room hrl) hd ⟨by omega, by omega⟩) hF (fun H1 locs1 hH1 hF1 => ?_)
  · have e3 : (r1.map (am_v E)).toList ++ st.map (am_v E) = (r1.toList ++ st).map (am_v E) := by cases r1 <;> rfl
    rw [e3]
    exact kk.2 E mc ms p l e R s m args below meth c Z ok H1 locs1 _ _ ls hl hH1 hF1 (by omega) (by omega)
theorem aw_callI {o : Nat} {idx : Nat} {st0 : List Value} (hd : decode M.2.1 pc = .ok (.invokespecial idx, 3)) (hB : am_cB M.1.cls idx M1 n) (hlk : am_cL M.1.cls idx M1) (hv : M1.1.name = "<init>" ∧ Cond.instanceMethod M1.1 ∈ am_T) (hret : M1.2.2.2 = none) (hd1 : d1 + 1 ≤ d) (hA : As.length = n) (hst : st0 = As.reverse ++ .ref (o + 1) :: st) (hcat : (st.map fun v => v.category).sum ≤ 8) (hM : AM sc M1 d1 (.ref (o + 1) :: As) h r1 h1) (kk : AW sc M d (pc + 3) L (r1.toList ++ st) h1 r h') : AW sc M d pc L st0 h r h' := by
  obtain ⟨hh1, hh2⟩ := kk.1
  refine ⟨hM.1.tr kk.1, ?_⟩
  intro E mc ms p l e R s m args below meth c Z ok H locs cells slots ls hl hH hF hc hs
  obtain ⟨hx, hb, hml, hown, hin, hts, hK, hX, hR, hZ⟩ := id ok
  obtain ⟨c1, c2, c3, c4⟩ := hB
  obtain ⟨⟨g1, g2⟩, hMet⟩ := hM
  have hroom := am_room hd1 hR.1 hR.2.1 c4
  have hrl : ((st.map (am_v E)).map fun v => v.category).sum ≤ 8 := by rw [am_cats]; exact hcat
  have hretc : Cond.code M1.1 M1.2.1 M1.2.2.1 none ∈ am_ws M1 := by rw [← hret]; exact List.mem_cons_self
  have c1' : Cond.code M1.1 M1.2.1 M1.2.2.1 none ∈ am_T := by rw [← hret]; exact c1
  refine am_go (sc := sc) (E := E) (r1 := r1) (h1 := h1) (va_runI (As := As.map (am_v E)) (rest := st.map (am_v E)) (bytes := M1.2.1) (maxL := M1.2.2.1) (b := E.2.1 + o) (n := n) (Ts := am_T) (own := M.1.cls) ⟨hx, hb, hml, hown, hts⟩ (hMet l E) ⟨⟨rfl, rfl, hroom.1, hroom.2, pay_in hts (am_goods M1 c1), hretc, hts _ c1', hts _ c2, ⟨c3.1, c3.2.1⟩, am_len c3.2.2, hts _ hlk⟩, hv.1, hts _ hv.2⟩ ⟨am_blind, fun U hU hW => ⟨rfl, hK.warm hW, ⟨va_X.moved hW.alike (by rw [hU]; exact hX.1.kept (hF.1 _ hX.2.1)), hX.2.1⟩, by rw [hU]; exact hH⟩⟩ rfl (by rw [List.length_map]; exact hA) hl.2.1 (by rw [hst, List.map_append, List.map_reverse]; rfl) (lv_room hrl) hd ⟨by omega, by omega⟩) hF (fun H1 locs1 hH1 hF1 => ?_)
  · have e3 : (r1.map (am_v E)).toList ++ st.map (am_v E) = (r1.toList ++ st).map (am_v E) := by cases r1 <;> rfl
    rw [e3]
    exact kk.2 E mc ms p l e R s m args below meth c Z ok H1 locs1 _ _ ls hl hH1 hF1 (by omega) (by omega)
theorem aw_callVN {o ci : Nat} {fs : List Value} {T : u_T} {NN : Nat} {idx : Nat} {st0 : List Value} (hd : decode M.2.1 pc = .ok (.invokevirtual idx, 3)) (hB : am_cB M.1.cls idx M1 n) (hlk : am_cN M.1.cls idx M1) (hv : Cond.instanceMethod M1.1 ∈ am_T ∧ Cond.selects M1.1.cls M1.1 M1.1 ∈ am_T) (hci : am_cl[ci]? = some (M1.1.cls, T, NN)) (ho : h[o]? = some (.inr (ci, fs))) (hd1 : d1 + 1 ≤ d) (hA : As.length = n) (hst : st0 = As.reverse ++ .ref (o + 1) :: st) (hcat : (st.map fun v => v.category).sum ≤ 8) (hM : AM sc M1 d1 (.ref (o + 1) :: As) h r1 h1) (kk : AW sc M d (pc + 3) L (r1.toList ++ st) h1 r h') : AW sc M d pc L st0 h r h' := by
  obtain ⟨hh1, hh2⟩ := kk.1
  refine ⟨hM.1.tr kk.1, ?_⟩
  intro E mc ms p l e R s m args below meth c Z ok H locs cells slots ls hl hH hF hc hs
  obtain ⟨hx, hb, hml, hown, hin, hts, hK, hX, hR, hZ⟩ := id ok
  obtain ⟨c1, c2, c3, c4⟩ := hB
  obtain ⟨host, hlk⟩ := hlk
  obtain ⟨⟨g1, g2⟩, hMet⟩ := hM
  have hroom := am_room hd1 hR.1 hR.2.1 c4
  have hrl : ((st.map (am_v E)).map fun v => v.category).sum ≤ 8 := by rw [am_cats]; exact hcat
  refine am_go (sc := sc) (E := E) (r1 := r1) (h1 := h1) (va_runVN (As := As.map (am_v E)) (rest := st.map (am_v E)) (bytes := M1.2.1) (maxL := M1.2.2.1) (ret := M1.2.2.2) (b := E.2.1 + o) (C := M1.1.cls) (n := n) (Ts := am_T) (own := M.1.cls) ⟨hx, hb, hml, hown, hts⟩ (hMet l E) ⟨⟨⟨rfl, rfl, hroom.1, hroom.2, pay_in hts (am_goods M1 c1), List.mem_cons_self⟩, hts _ c1, hts _ c2, ⟨c3.1, c3.2.1⟩, am_len c3.2.2, (hK.2.2.1 _ hlk).use rfl⟩, hts _ hv.1, hts _ hv.2⟩ ⟨am_blind, am_rcv hK hH ho hci, fun U hU hW => ⟨rfl, hK.warm hW, ⟨va_X.moved hW.alike (by rw [hU]; exact hX.1.kept (hF.1 _ hX.2.1)), hX.2.1⟩, by rw [hU]; exact hH⟩⟩ rfl (by rw [List.length_map]; exact hA) hl.2.1 (by rw [hst, List.map_append, List.map_reverse]; rfl) (lv_room hrl) hd ⟨by omega, by omega⟩) hF (fun H1 locs1 hH1 hF1 => ?_)
  · have e3 : (r1.map (am_v E)).toList ++ st.map (am_v E) = (r1.toList ++ st).map (am_v E) := by cases r1 <;> rfl
    rw [e3]
    exact kk.2 E mc ms p l e R s m args below meth c Z ok H1 locs1 _ _ ls hl hH1 hF1 (by omega) (by omega)
theorem aw_callSN {idx : Nat} {st0 : List Value} (hd : decode M.2.1 pc = .ok (.invokestatic idx, 3)) (hB : am_cB M.1.cls idx M1 n) (hlk : am_cN M.1.cls idx M1) (hv : Cond.static M1.1 ∈ am_T) (hd1 : d1 + 1 ≤ d) (hA : As.length = n) (hst : st0 = As.reverse ++ st) (hcat : (st.map fun v => v.category).sum ≤ 8) (hM : AM sc M1 d1 As h r1 h1) (kk : AW sc M d (pc + 3) L (r1.toList ++ st) h1 r h') : AW sc M d pc L st0 h r h' := by
  obtain ⟨hh1, hh2⟩ := kk.1
  refine ⟨hM.1.tr kk.1, ?_⟩
  intro E mc ms p l e R s m args below meth c Z ok H locs cells slots ls hl hH hF hc hs
  obtain ⟨hx, hb, hml, hown, hin, hts, hK, hX, hR, hZ⟩ := id ok
  obtain ⟨c1, c2, c3, c4⟩ := hB
  obtain ⟨host, hlk⟩ := hlk
  obtain ⟨⟨g1, g2⟩, hMet⟩ := hM
  have hroom := am_room hd1 hR.1 hR.2.1 c4
  have hrl : ((st.map (am_v E)).map fun v => v.category).sum ≤ 8 := by rw [am_cats]; exact hcat
  refine am_go (sc := sc) (E := E) (r1 := r1) (h1 := h1) (va_runSN (As := As.map (am_v E)) (rest := st.map (am_v E)) (bytes := M1.2.1) (maxL := M1.2.2.1) (ret := M1.2.2.2) (n := n) (Ts := am_T) (own := M.1.cls) ⟨hx, hb, hml, hown, hts⟩ (hMet l E) ⟨⟨⟨rfl, rfl, hroom.1, hroom.2, pay_in hts (am_goods M1 c1), List.mem_cons_self⟩, hts _ c1, hts _ c2, ⟨c3.1, c3.2.1⟩, am_len c3.2.2, (hK.2.2.1 _ hlk).use rfl⟩, hts _ hv, trivial⟩ ⟨am_blind, fun U hU hW => ⟨rfl, hK.warm hW, ⟨va_X.moved hW.alike (by rw [hU]; exact hX.1.kept (hF.1 _ hX.2.1)), hX.2.1⟩, by rw [hU]; exact hH⟩⟩ rfl (by rw [List.length_map]; exact hA) hl.2.1 (by rw [hst, List.map_append, List.map_reverse]) (lv_room hrl) hd ⟨by omega, by omega⟩) hF (fun H1 locs1 hH1 hF1 => ?_)
  · have e3 : (r1.map (am_v E)).toList ++ st.map (am_v E) = (r1.toList ++ st).map (am_v E) := by cases r1 <;> rfl
    rw [e3]
    exact kk.2 E mc ms p l e R s m args below meth c Z ok H1 locs1 _ _ ls hl hH1 hF1 (by omega) (by omega)
theorem aw_callIN {o : Nat} {idx : Nat} {st0 : List Value} (hd : decode M.2.1 pc = .ok (.invokespecial idx, 3)) (hB : am_cB M.1.cls idx M1 n) (hlk : am_cN M.1.cls idx M1) (hv : M1.1.name = "<init>" ∧ Cond.instanceMethod M1.1 ∈ am_T) (hret : M1.2.2.2 = none) (hd1 : d1 + 1 ≤ d) (hA : As.length = n) (hst : st0 = As.reverse ++ .ref (o + 1) :: st) (hcat : (st.map fun v => v.category).sum ≤ 8) (hM : AM sc M1 d1 (.ref (o + 1) :: As) h r1 h1) (kk : AW sc M d (pc + 3) L (r1.toList ++ st) h1 r h') : AW sc M d pc L st0 h r h' := by
  obtain ⟨hh1, hh2⟩ := kk.1
  refine ⟨hM.1.tr kk.1, ?_⟩
  intro E mc ms p l e R s m args below meth c Z ok H locs cells slots ls hl hH hF hc hs
  obtain ⟨hx, hb, hml, hown, hin, hts, hK, hX, hR, hZ⟩ := id ok
  obtain ⟨c1, c2, c3, c4⟩ := hB
  obtain ⟨host, hlk⟩ := hlk
  obtain ⟨⟨g1, g2⟩, hMet⟩ := hM
  have hroom := am_room hd1 hR.1 hR.2.1 c4
  have hrl : ((st.map (am_v E)).map fun v => v.category).sum ≤ 8 := by rw [am_cats]; exact hcat
  have hretc : Cond.code M1.1 M1.2.1 M1.2.2.1 none ∈ am_ws M1 := by rw [← hret]; exact List.mem_cons_self
  have c1' : Cond.code M1.1 M1.2.1 M1.2.2.1 none ∈ am_T := by rw [← hret]; exact c1
  refine am_go (sc := sc) (E := E) (r1 := r1) (h1 := h1) (va_runIN (As := As.map (am_v E)) (rest := st.map (am_v E)) (bytes := M1.2.1) (maxL := M1.2.2.1) (b := E.2.1 + o) (n := n) (Ts := am_T) (own := M.1.cls) ⟨hx, hb, hml, hown, hts⟩ (hMet l E) ⟨⟨⟨rfl, rfl, hroom.1, hroom.2, pay_in hts (am_goods M1 c1), hretc⟩, hts _ c1', hts _ c2, ⟨c3.1, c3.2.1⟩, am_len c3.2.2, (hK.2.2.1 _ hlk).use rfl⟩, hv.1, hts _ hv.2⟩ ⟨am_blind, fun U hU hW => ⟨rfl, hK.warm hW, ⟨va_X.moved hW.alike (by rw [hU]; exact hX.1.kept (hF.1 _ hX.2.1)), hX.2.1⟩, by rw [hU]; exact hH⟩⟩ rfl (by rw [List.length_map]; exact hA) hl.2.1 (by rw [hst, List.map_append, List.map_reverse]; rfl) (lv_room hrl) hd ⟨by omega, by omega⟩) hF (fun H1 locs1 hH1 hF1 => ?_)
  · have e3 : (r1.map (am_v E)).toList ++ st.map (am_v E) = (r1.toList ++ st).map (am_v E) := by cases r1 <;> rfl
    rw [e3]
    exact kk.2 E mc ms p l e R s m args below meth c Z ok H1 locs1 _ _ ls hl hH1 hF1 (by omega) (by omega)
def am_lk (own : String) (idx : Nat) (M1 : am_M) : Prop := am_cL own idx M1 ∨ am_cN own idx M1
def am_sV (own : String) (idx : Nat) (M1 : am_M) (n ci : Nat) : Prop := am_cB own idx M1 n ∧ am_lk own idx M1 ∧ (Cond.instanceMethod M1.1 ∈ am_T ∧ Cond.selects M1.1.cls M1.1 M1.1 ∈ am_T) ∧ ∃ (T : u_T) (NN : Nat), am_cl[ci]? = some (M1.1.cls, T, NN)
def am_sS (own : String) (idx : Nat) (M1 : am_M) (n : Nat) : Prop := am_cB own idx M1 n ∧ am_lk own idx M1 ∧ Cond.static M1.1 ∈ am_T
def am_sI (own : String) (idx : Nat) (M1 : am_M) (n : Nat) : Prop := am_cB own idx M1 n ∧ am_lk own idx M1 ∧ (M1.1.name = "<init>" ∧ Cond.instanceMethod M1.1 ∈ am_T) ∧ M1.2.2.2 = none
theorem aw_V0 {v : Value} {o ci idx : Nat} {fs : List Value} (hd : decode M.2.1 pc = .ok (.invokevirtual idx, 3)) (hs : am_sV M.1.cls idx M1 0 ci) (ho : h[o]? = some (.inr (ci, fs))) (hd1 : d1 + 1 ≤ d) (hcat : (st.map fun v => v.category).sum ≤ 8) (hM : AM sc M1 d1 (.ref (o + 1) :: []) h (some v) h1) (kk : AW sc M d (pc + 3) L (v :: st) h1 r h') : AW sc M d pc L (.ref (o + 1) :: st) h r h' := by
  obtain ⟨hB, hlk, hv, T, NN, hci⟩ := hs
  rcases hlk with hlk | hlk
  · exact aw_callV (As := []) hd hB hlk hv hci ho hd1 rfl rfl hcat hM kk
  · exact aw_callVN (As := []) hd hB hlk hv hci ho hd1 rfl rfl hcat hM kk
theorem aw_S0 {v : Value} {idx : Nat} (hd : decode M.2.1 pc = .ok (.invokestatic idx, 3)) (hs : am_sS M.1.cls idx M1 0) (hd1 : d1 + 1 ≤ d) (hcat : (st.map fun v => v.category).sum ≤ 8) (hM : AM sc M1 d1 [] h (some v) h1) (kk : AW sc M d (pc + 3) L (v :: st) h1 r h') : AW sc M d pc L (st) h r h' := by
  obtain ⟨hB, hlk, hv⟩ := hs
  rcases hlk with hlk | hlk
  · exact aw_callS (As := []) hd hB hlk hv hd1 rfl rfl hcat hM kk
  · exact aw_callSN (As := []) hd hB hlk hv hd1 rfl rfl hcat hM kk
theorem aw_V0v {o ci idx : Nat} {fs : List Value} (hd : decode M.2.1 pc = .ok (.invokevirtual idx, 3)) (hs : am_sV M.1.cls idx M1 0 ci) (ho : h[o]? = some (.inr (ci, fs))) (hd1 : d1 + 1 ≤ d) (hcat : (st.map fun v => v.category).sum ≤ 8) (hM : AM sc M1 d1 (.ref (o + 1) :: []) h none h1) (kk : AW sc M d (pc + 3) L (st) h1 r h') : AW sc M d pc L (.ref (o + 1) :: st) h r h' := by
  obtain ⟨hB, hlk, hv, T, NN, hci⟩ := hs
  rcases hlk with hlk | hlk
  · exact aw_callV (As := []) hd hB hlk hv hci ho hd1 rfl rfl hcat hM kk
  · exact aw_callVN (As := []) hd hB hlk hv hci ho hd1 rfl rfl hcat hM kk
theorem aw_S0v {idx : Nat} (hd : decode M.2.1 pc = .ok (.invokestatic idx, 3)) (hs : am_sS M.1.cls idx M1 0) (hd1 : d1 + 1 ≤ d) (hcat : (st.map fun v => v.category).sum ≤ 8) (hM : AM sc M1 d1 [] h none h1) (kk : AW sc M d (pc + 3) L (st) h1 r h') : AW sc M d pc L (st) h r h' := by
  obtain ⟨hB, hlk, hv⟩ := hs
  rcases hlk with hlk | hlk
  · exact aw_callS (As := []) hd hB hlk hv hd1 rfl rfl hcat hM kk
  · exact aw_callSN (As := []) hd hB hlk hv hd1 rfl rfl hcat hM kk
theorem aw_I0 {o idx : Nat} (hd : decode M.2.1 pc = .ok (.invokespecial idx, 3)) (hs : am_sI M.1.cls idx M1 0) (hd1 : d1 + 1 ≤ d) (hcat : (st.map fun v => v.category).sum ≤ 8) (hM : AM sc M1 d1 (.ref (o + 1) :: []) h none h1) (kk : AW sc M d (pc + 3) L st h1 r h') : AW sc M d pc L (.ref (o + 1) :: st) h r h' := by
  obtain ⟨hB, hlk, hv, hret⟩ := hs
  rcases hlk with hlk | hlk
  · exact aw_callI (As := []) hd hB hlk hv hret hd1 rfl rfl hcat hM kk
  · exact aw_callIN (As := []) hd hB hlk hv hret hd1 rfl rfl hcat hM kk
theorem aw_V1 {a0 : Value} {v : Value} {o ci idx : Nat} {fs : List Value} (hd : decode M.2.1 pc = .ok (.invokevirtual idx, 3)) (hs : am_sV M.1.cls idx M1 1 ci) (ho : h[o]? = some (.inr (ci, fs))) (hd1 : d1 + 1 ≤ d) (hcat : (st.map fun v => v.category).sum ≤ 8) (hM : AM sc M1 d1 (.ref (o + 1) :: [a0]) h (some v) h1) (kk : AW sc M d (pc + 3) L (v :: st) h1 r h') : AW sc M d pc L (a0 :: .ref (o + 1) :: st) h r h' := by
  obtain ⟨hB, hlk, hv, T, NN, hci⟩ := hs
  rcases hlk with hlk | hlk
  · exact aw_callV (As := [a0]) hd hB hlk hv hci ho hd1 rfl rfl hcat hM kk
  · exact aw_callVN (As := [a0]) hd hB hlk hv hci ho hd1 rfl rfl hcat hM kk
theorem aw_S1 {a0 : Value} {v : Value} {idx : Nat} (hd : decode M.2.1 pc = .ok (.invokestatic idx, 3)) (hs : am_sS M.1.cls idx M1 1) (hd1 : d1 + 1 ≤ d) (hcat : (st.map fun v => v.category).sum ≤ 8) (hM : AM sc M1 d1 [a0] h (some v) h1) (kk : AW sc M d (pc + 3) L (v :: st) h1 r h') : AW sc M d pc L (a0 :: st) h r h' := by
  obtain ⟨hB, hlk, hv⟩ := hs
  rcases hlk with hlk | hlk
  · exact aw_callS (As := [a0]) hd hB hlk hv hd1 rfl rfl hcat hM kk
  · exact aw_callSN (As := [a0]) hd hB hlk hv hd1 rfl rfl hcat hM kk
theorem aw_V1v {a0 : Value} {o ci idx : Nat} {fs : List Value} (hd : decode M.2.1 pc = .ok (.invokevirtual idx, 3)) (hs : am_sV M.1.cls idx M1 1 ci) (ho : h[o]? = some (.inr (ci, fs))) (hd1 : d1 + 1 ≤ d) (hcat : (st.map fun v => v.category).sum ≤ 8) (hM : AM sc M1 d1 (.ref (o + 1) :: [a0]) h none h1) (kk : AW sc M d (pc + 3) L (st) h1 r h') : AW sc M d pc L (a0 :: .ref (o + 1) :: st) h r h' := by
  obtain ⟨hB, hlk, hv, T, NN, hci⟩ := hs
  rcases hlk with hlk | hlk
  · exact aw_callV (As := [a0]) hd hB hlk hv hci ho hd1 rfl rfl hcat hM kk
  · exact aw_callVN (As := [a0]) hd hB hlk hv hci ho hd1 rfl rfl hcat hM kk
theorem aw_S1v {a0 : Value} {idx : Nat} (hd : decode M.2.1 pc = .ok (.invokestatic idx, 3)) (hs : am_sS M.1.cls idx M1 1) (hd1 : d1 + 1 ≤ d) (hcat : (st.map fun v => v.category).sum ≤ 8) (hM : AM sc M1 d1 [a0] h none h1) (kk : AW sc M d (pc + 3) L (st) h1 r h') : AW sc M d pc L (a0 :: st) h r h' := by
  obtain ⟨hB, hlk, hv⟩ := hs
  rcases hlk with hlk | hlk
  · exact aw_callS (As := [a0]) hd hB hlk hv hd1 rfl rfl hcat hM kk
  · exact aw_callSN (As := [a0]) hd hB hlk hv hd1 rfl rfl hcat hM kk
theorem aw_I1 {a0 : Value} {o idx : Nat} (hd : decode M.2.1 pc = .ok (.invokespecial idx, 3)) (hs : am_sI M.1.cls idx M1 1) (hd1 : d1 + 1 ≤ d) (hcat : (st.map fun v => v.category).sum ≤ 8) (hM : AM sc M1 d1 (.ref (o + 1) :: [a0]) h none h1) (kk : AW sc M d (pc + 3) L st h1 r h') : AW sc M d pc L (a0 :: .ref (o + 1) :: st) h r h' := by
  obtain ⟨hB, hlk, hv, hret⟩ := hs
  rcases hlk with hlk | hlk
  · exact aw_callI (As := [a0]) hd hB hlk hv hret hd1 rfl rfl hcat hM kk
  · exact aw_callIN (As := [a0]) hd hB hlk hv hret hd1 rfl rfl hcat hM kk
theorem aw_V2 {a0 a1 : Value} {v : Value} {o ci idx : Nat} {fs : List Value} (hd : decode M.2.1 pc = .ok (.invokevirtual idx, 3)) (hs : am_sV M.1.cls idx M1 2 ci) (ho : h[o]? = some (.inr (ci, fs))) (hd1 : d1 + 1 ≤ d) (hcat : (st.map fun v => v.category).sum ≤ 8) (hM : AM sc M1 d1 (.ref (o + 1) :: [a0, a1]) h (some v) h1) (kk : AW sc M d (pc + 3) L (v :: st) h1 r h') : AW sc M d pc L (a1 :: a0 :: .ref (o + 1) :: st) h r h' := by
  obtain ⟨hB, hlk, hv, T, NN, hci⟩ := hs
  rcases hlk with hlk | hlk
  · exact aw_callV (As := [a0, a1]) hd hB hlk hv hci ho hd1 rfl rfl hcat hM kk
  · exact aw_callVN (As := [a0, a1]) hd hB hlk hv hci ho hd1 rfl rfl hcat hM kk
theorem aw_S2 {a0 a1 : Value} {v : Value} {idx : Nat} (hd : decode M.2.1 pc = .ok (.invokestatic idx, 3)) (hs : am_sS M.1.cls idx M1 2) (hd1 : d1 + 1 ≤ d) (hcat : (st.map fun v => v.category).sum ≤ 8) (hM : AM sc M1 d1 [a0, a1] h (some v) h1) (kk : AW sc M d (pc + 3) L (v :: st) h1 r h') : AW sc M d pc L (a1 :: a0 :: st) h r h' := by
  obtain ⟨hB, hlk, hv⟩ := hs
  rcases hlk with hlk | hlk
  · exact aw_callS (As := [a0, a1]) hd hB hlk hv hd1 rfl rfl hcat hM kk
  · exact aw_callSN (As := [a0, a1]) hd hB hlk hv hd1 rfl rfl hcat hM kk
theorem aw_V2v {a0 a1 : Value} {o ci idx : Nat} {fs : List Value} (hd : decode M.2.1 pc = .ok (.invokevirtual idx, 3)) (hs : am_sV M.1.cls idx M1 2 ci) (ho : h[o]? = some (.inr (ci, fs))) (hd1 : d1 + 1 ≤ d) (hcat : (st.map fun v => v.category).sum ≤ 8) (hM : AM sc M1 d1 (.ref (o + 1) :: [a0, a1]) h none h1) (kk : AW sc M d (pc + 3) L (st) h1 r h') : AW sc M d pc L (a1 :: a0 :: .ref (o + 1) :: st) h r h' := by
  obtain ⟨hB, hlk, hv, T, NN, hci⟩ := hs
  rcases hlk with hlk | hlk
  · exact aw_callV (As := [a0, a1]) hd hB hlk hv hci ho hd1 rfl rfl hcat hM kk
  · exact aw_callVN (As := [a0, a1]) hd hB hlk hv hci ho hd1 rfl rfl hcat hM kk
theorem aw_S2v {a0 a1 : Value} {idx : Nat} (hd : decode M.2.1 pc = .ok (.invokestatic idx, 3)) (hs : am_sS M.1.cls idx M1 2) (hd1 : d1 + 1 ≤ d) (hcat : (st.map fun v => v.category).sum ≤ 8) (hM : AM sc M1 d1 [a0, a1] h none h1) (kk : AW sc M d (pc + 3) L (st) h1 r h') : AW sc M d pc L (a1 :: a0 :: st) h r h' := by
  obtain ⟨hB, hlk, hv⟩ := hs
  rcases hlk with hlk | hlk
  · exact aw_callS (As := [a0, a1]) hd hB hlk hv hd1 rfl rfl hcat hM kk
  · exact aw_callSN (As := [a0, a1]) hd hB hlk hv hd1 rfl rfl hcat hM kk
theorem aw_I2 {a0 a1 : Value} {o idx : Nat} (hd : decode M.2.1 pc = .ok (.invokespecial idx, 3)) (hs : am_sI M.1.cls idx M1 2) (hd1 : d1 + 1 ≤ d) (hcat : (st.map fun v => v.category).sum ≤ 8) (hM : AM sc M1 d1 (.ref (o + 1) :: [a0, a1]) h none h1) (kk : AW sc M d (pc + 3) L st h1 r h') : AW sc M d pc L (a1 :: a0 :: .ref (o + 1) :: st) h r h' := by
  obtain ⟨hB, hlk, hv, hret⟩ := hs
  rcases hlk with hlk | hlk
  · exact aw_callI (As := [a0, a1]) hd hB hlk hv hret hd1 rfl rfl hcat hM kk
  · exact aw_callIN (As := [a0, a1]) hd hB hlk hv hret hd1 rfl rfl hcat hM kk
theorem aw_V3 {a0 a1 a2 : Value} {v : Value} {o ci idx : Nat} {fs : List Value} (hd : decode M.2.1 pc = .ok (.invokevirtual idx, 3)) (hs : am_sV M.1.cls idx M1 3 ci) (ho : h[o]? = some (.inr (ci, fs))) (hd1 : d1 + 1 ≤ d) (hcat : (st.map fun v => v.category).sum ≤ 8) (hM : AM sc M1 d1 (.ref (o + 1) :: [a0, a1, a2]) h (some v) h1) (kk : AW sc M d (pc + 3) L (v :: st) h1 r h') : AW sc M d pc L (a2 :: a1 :: a0 :: .ref (o + 1) :: st) h r h' := by
  obtain ⟨hB, hlk, hv, T, NN, hci⟩ := hs
  rcases hlk with hlk | hlk
  · exact aw_callV (As := [a0, a1, a2]) hd hB hlk hv hci ho hd1 rfl rfl hcat hM kk
  · exact aw_callVN (As := [a0, a1, a2]) hd hB hlk hv hci ho hd1 rfl rfl hcat hM kk
theorem aw_S3 {a0 a1 a2 : Value} {v : Value} {idx : Nat} (hd : decode M.2.1 pc = .ok (.invokestatic idx, 3)) (hs : am_sS M.1.cls idx M1 3) (hd1 : d1 + 1 ≤ d) (hcat : (st.map fun v => v.category).sum ≤ 8) (hM : AM sc M1 d1 [a0, a1, a2] h (some v) h1) (kk : AW sc M d (pc + 3) L (v :: st) h1 r h') : AW sc M d pc L (a2 :: a1 :: a0 :: st) h r h' := by
  obtain ⟨hB, hlk, hv⟩ := hs
  rcases hlk with hlk | hlk
  · exact aw_callS (As := [a0, a1, a2]) hd hB hlk hv hd1 rfl rfl hcat hM kk
  · exact aw_callSN (As := [a0, a1, a2]) hd hB hlk hv hd1 rfl rfl hcat hM kk
theorem aw_V3v {a0 a1 a2 : Value} {o ci idx : Nat} {fs : List Value} (hd : decode M.2.1 pc = .ok (.invokevirtual idx, 3)) (hs : am_sV M.1.cls idx M1 3 ci) (ho : h[o]? = some (.inr (ci, fs))) (hd1 : d1 + 1 ≤ d) (hcat : (st.map fun v => v.category).sum ≤ 8) (hM : AM sc M1 d1 (.ref (o + 1) :: [a0, a1, a2]) h none h1) (kk : AW sc M d (pc + 3) L (st) h1 r h') : AW sc M d pc L (a2 :: a1 :: a0 :: .ref (o + 1) :: st) h r h' := by
  obtain ⟨hB, hlk, hv, T, NN, hci⟩ := hs
  rcases hlk with hlk | hlk
  · exact aw_callV (As := [a0, a1, a2]) hd hB hlk hv hci ho hd1 rfl rfl hcat hM kk
  · exact aw_callVN (As := [a0, a1, a2]) hd hB hlk hv hci ho hd1 rfl rfl hcat hM kk
theorem aw_S3v {a0 a1 a2 : Value} {idx : Nat} (hd : decode M.2.1 pc = .ok (.invokestatic idx, 3)) (hs : am_sS M.1.cls idx M1 3) (hd1 : d1 + 1 ≤ d) (hcat : (st.map fun v => v.category).sum ≤ 8) (hM : AM sc M1 d1 [a0, a1, a2] h none h1) (kk : AW sc M d (pc + 3) L (st) h1 r h') : AW sc M d pc L (a2 :: a1 :: a0 :: st) h r h' := by
  obtain ⟨hB, hlk, hv⟩ := hs
  rcases hlk with hlk | hlk
  · exact aw_callS (As := [a0, a1, a2]) hd hB hlk hv hd1 rfl rfl hcat hM kk
  · exact aw_callSN (As := [a0, a1, a2]) hd hB hlk hv hd1 rfl rfl hcat hM kk
theorem aw_I3 {a0 a1 a2 : Value} {o idx : Nat} (hd : decode M.2.1 pc = .ok (.invokespecial idx, 3)) (hs : am_sI M.1.cls idx M1 3) (hd1 : d1 + 1 ≤ d) (hcat : (st.map fun v => v.category).sum ≤ 8) (hM : AM sc M1 d1 (.ref (o + 1) :: [a0, a1, a2]) h none h1) (kk : AW sc M d (pc + 3) L st h1 r h') : AW sc M d pc L (a2 :: a1 :: a0 :: .ref (o + 1) :: st) h r h' := by
  obtain ⟨hB, hlk, hv, hret⟩ := hs
  rcases hlk with hlk | hlk
  · exact aw_callI (As := [a0, a1, a2]) hd hB hlk hv hret hd1 rfl rfl hcat hM kk
  · exact aw_callIN (As := [a0, a1, a2]) hd hB hlk hv hret hd1 rfl rfl hcat hM kk
theorem aw_V4 {a0 a1 a2 a3 : Value} {v : Value} {o ci idx : Nat} {fs : List Value} (hd : decode M.2.1 pc = .ok (.invokevirtual idx, 3)) (hs : am_sV M.1.cls idx M1 4 ci) (ho : h[o]? = some (.inr (ci, fs))) (hd1 : d1 + 1 ≤ d) (hcat : (st.map fun v => v.category).sum ≤ 8) (hM : AM sc M1 d1 (.ref (o + 1) :: [a0, a1, a2, a3]) h (some v) h1) (kk : AW sc M d (pc + 3) L (v :: st) h1 r h') : AW sc M d pc L (a3 :: a2 :: a1 :: a0 :: .ref (o + 1) :: st) h r h' := by
  obtain ⟨hB, hlk, hv, T, NN, hci⟩ := hs
  rcases hlk with hlk | hlk
  · exact aw_callV (As := [a0, a1, a2, a3]) hd hB hlk hv hci ho hd1 rfl rfl hcat hM kk
  · exact aw_callVN (As := [a0, a1, a2, a3]) hd hB hlk hv hci ho hd1 rfl rfl hcat hM kk
theorem aw_S4 {a0 a1 a2 a3 : Value} {v : Value} {idx : Nat} (hd : decode M.2.1 pc = .ok (.invokestatic idx, 3)) (hs : am_sS M.1.cls idx M1 4) (hd1 : d1 + 1 ≤ d) (hcat : (st.map fun v => v.category).sum ≤ 8) (hM : AM sc M1 d1 [a0, a1, a2, a3] h (some v) h1) (kk : AW sc M d (pc + 3) L (v :: st) h1 r h') : AW sc M d pc L (a3 :: a2 :: a1 :: a0 :: st) h r h' := by
  obtain ⟨hB, hlk, hv⟩ := hs
  rcases hlk with hlk | hlk
  · exact aw_callS (As := [a0, a1, a2, a3]) hd hB hlk hv hd1 rfl rfl hcat hM kk
  · exact aw_callSN (As := [a0, a1, a2, a3]) hd hB hlk hv hd1 rfl rfl hcat hM kk
theorem aw_V4v {a0 a1 a2 a3 : Value} {o ci idx : Nat} {fs : List Value} (hd : decode M.2.1 pc = .ok (.invokevirtual idx, 3)) (hs : am_sV M.1.cls idx M1 4 ci) (ho : h[o]? = some (.inr (ci, fs))) (hd1 : d1 + 1 ≤ d) (hcat : (st.map fun v => v.category).sum ≤ 8) (hM : AM sc M1 d1 (.ref (o + 1) :: [a0, a1, a2, a3]) h none h1) (kk : AW sc M d (pc + 3) L (st) h1 r h') : AW sc M d pc L (a3 :: a2 :: a1 :: a0 :: .ref (o + 1) :: st) h r h' := by
  obtain ⟨hB, hlk, hv, T, NN, hci⟩ := hs
  rcases hlk with hlk | hlk
  · exact aw_callV (As := [a0, a1, a2, a3]) hd hB hlk hv hci ho hd1 rfl rfl hcat hM kk
  · exact aw_callVN (As := [a0, a1, a2, a3]) hd hB hlk hv hci ho hd1 rfl rfl hcat hM kk
theorem aw_S4v {a0 a1 a2 a3 : Value} {idx : Nat} (hd : decode M.2.1 pc = .ok (.invokestatic idx, 3)) (hs : am_sS M.1.cls idx M1 4) (hd1 : d1 + 1 ≤ d) (hcat : (st.map fun v => v.category).sum ≤ 8) (hM : AM sc M1 d1 [a0, a1, a2, a3] h none h1) (kk : AW sc M d (pc + 3) L (st) h1 r h') : AW sc M d pc L (a3 :: a2 :: a1 :: a0 :: st) h r h' := by
  obtain ⟨hB, hlk, hv⟩ := hs
  rcases hlk with hlk | hlk
  · exact aw_callS (As := [a0, a1, a2, a3]) hd hB hlk hv hd1 rfl rfl hcat hM kk
  · exact aw_callSN (As := [a0, a1, a2, a3]) hd hB hlk hv hd1 rfl rfl hcat hM kk
theorem aw_I4 {a0 a1 a2 a3 : Value} {o idx : Nat} (hd : decode M.2.1 pc = .ok (.invokespecial idx, 3)) (hs : am_sI M.1.cls idx M1 4) (hd1 : d1 + 1 ≤ d) (hcat : (st.map fun v => v.category).sum ≤ 8) (hM : AM sc M1 d1 (.ref (o + 1) :: [a0, a1, a2, a3]) h none h1) (kk : AW sc M d (pc + 3) L st h1 r h') : AW sc M d pc L (a3 :: a2 :: a1 :: a0 :: .ref (o + 1) :: st) h r h' := by
  obtain ⟨hB, hlk, hv, hret⟩ := hs
  rcases hlk with hlk | hlk
  · exact aw_callI (As := [a0, a1, a2, a3]) hd hB hlk hv hret hd1 rfl rfl hcat hM kk
  · exact aw_callIN (As := [a0, a1, a2, a3]) hd hB hlk hv hret hd1 rfl rfl hcat hM kk
theorem aw_V5 {a0 a1 a2 a3 a4 : Value} {v : Value} {o ci idx : Nat} {fs : List Value} (hd : decode M.2.1 pc = .ok (.invokevirtual idx, 3)) (hs : am_sV M.1.cls idx M1 5 ci) (ho : h[o]? = some (.inr (ci, fs))) (hd1 : d1 + 1 ≤ d) (hcat : (st.map fun v => v.category).sum ≤ 8) (hM : AM sc M1 d1 (.ref (o + 1) :: [a0, a1, a2, a3, a4]) h (some v) h1) (kk : AW sc M d (pc + 3) L (v :: st) h1 r h') : AW sc M d pc L (a4 :: a3 :: a2 :: a1 :: a0 :: .ref (o + 1) :: st) h r h' := by
  obtain ⟨hB, hlk, hv, T, NN, hci⟩ := hs
  rcases hlk with hlk | hlk
  · exact aw_callV (As := [a0, a1, a2, a3, a4]) hd hB hlk hv hci ho hd1 rfl rfl hcat hM kk
  · exact aw_callVN (As := [a0, a1, a2, a3, a4]) hd hB hlk hv hci ho hd1 rfl rfl hcat hM kk
theorem aw_S5 {a0 a1 a2 a3 a4 : Value} {v : Value} {idx : Nat} (hd : decode M.2.1 pc = .ok (.invokestatic idx, 3)) (hs : am_sS M.1.cls idx M1 5) (hd1 : d1 + 1 ≤ d) (hcat : (st.map fun v => v.category).sum ≤ 8) (hM : AM sc M1 d1 [a0, a1, a2, a3, a4] h (some v) h1) (kk : AW sc M d (pc + 3) L (v :: st) h1 r h') : AW sc M d pc L (a4 :: a3 :: a2 :: a1 :: a0 :: st) h r h' := by
  obtain ⟨hB, hlk, hv⟩ := hs
  rcases hlk with hlk | hlk
  · exact aw_callS (As := [a0, a1, a2, a3, a4]) hd hB hlk hv hd1 rfl rfl hcat hM kk
  · exact aw_callSN (As := [a0, a1, a2, a3, a4]) hd hB hlk hv hd1 rfl rfl hcat hM kk
theorem aw_V5v {a0 a1 a2 a3 a4 : Value} {o ci idx : Nat} {fs : List Value} (hd : decode M.2.1 pc = .ok (.invokevirtual idx, 3)) (hs : am_sV M.1.cls idx M1 5 ci) (ho : h[o]? = some (.inr (ci, fs))) (hd1 : d1 + 1 ≤ d) (hcat : (st.map fun v => v.category).sum ≤ 8) (hM : AM sc M1 d1 (.ref (o + 1) :: [a0, a1, a2, a3, a4]) h none h1) (kk : AW sc M d (pc + 3) L (st) h1 r h') : AW sc M d pc L (a4 :: a3 :: a2 :: a1 :: a0 :: .ref (o + 1) :: st) h r h' := by
  obtain ⟨hB, hlk, hv, T, NN, hci⟩ := hs
  rcases hlk with hlk | hlk
  · exact aw_callV (As := [a0, a1, a2, a3, a4]) hd hB hlk hv hci ho hd1 rfl rfl hcat hM kk
  · exact aw_callVN (As := [a0, a1, a2, a3, a4]) hd hB hlk hv hci ho hd1 rfl rfl hcat hM kk
theorem aw_S5v {a0 a1 a2 a3 a4 : Value} {idx : Nat} (hd : decode M.2.1 pc = .ok (.invokestatic idx, 3)) (hs : am_sS M.1.cls idx M1 5) (hd1 : d1 + 1 ≤ d) (hcat : (st.map fun v => v.category).sum ≤ 8) (hM : AM sc M1 d1 [a0, a1, a2, a3, a4] h none h1) (kk : AW sc M d (pc + 3) L (st) h1 r h') : AW sc M d pc L (a4 :: a3 :: a2 :: a1 :: a0 :: st) h r h' := by
  obtain ⟨hB, hlk, hv⟩ := hs
  rcases hlk with hlk | hlk
  · exact aw_callS (As := [a0, a1, a2, a3, a4]) hd hB hlk hv hd1 rfl rfl hcat hM kk
  · exact aw_callSN (As := [a0, a1, a2, a3, a4]) hd hB hlk hv hd1 rfl rfl hcat hM kk
theorem aw_I5 {a0 a1 a2 a3 a4 : Value} {o idx : Nat} (hd : decode M.2.1 pc = .ok (.invokespecial idx, 3)) (hs : am_sI M.1.cls idx M1 5) (hd1 : d1 + 1 ≤ d) (hcat : (st.map fun v => v.category).sum ≤ 8) (hM : AM sc M1 d1 (.ref (o + 1) :: [a0, a1, a2, a3, a4]) h none h1) (kk : AW sc M d (pc + 3) L st h1 r h') : AW sc M d pc L (a4 :: a3 :: a2 :: a1 :: a0 :: .ref (o + 1) :: st) h r h' := by
  obtain ⟨hB, hlk, hv, hret⟩ := hs
  rcases hlk with hlk | hlk
  · exact aw_callI (As := [a0, a1, a2, a3, a4]) hd hB hlk hv hret hd1 rfl rfl hcat hM kk
  · exact aw_callIN (As := [a0, a1, a2, a3, a4]) hd hB hlk hv hret hd1 rfl rfl hcat hM kk
end AMCALL
end
section
theorem iw_W : ∀ w ∈ u_ws "WorksBudget$Works" F_W 15, w ∈ am_T := List.forall_mem_cons.mpr ⟨(am_in1 (i := 76) rfl rfl), List.forall_mem_cons.mpr ⟨(am_in1 (i := 78) rfl rfl), List.forall_mem_cons.mpr ⟨(am_in1 (i := 80) rfl rfl), List.forall_mem_cons.mpr ⟨(am_in1 (i := 82) rfl rfl), List.forall_mem_cons.mpr ⟨(am_in1 (i := 84) rfl rfl), List.forall_mem_cons.mpr ⟨(am_in1 (i := 86) rfl rfl), List.forall_mem_cons.mpr ⟨(am_in1 (i := 88) rfl rfl), List.forall_mem_cons.mpr ⟨(am_in1 (i := 90) rfl rfl), List.forall_mem_cons.mpr ⟨(am_in1 (i := 92) rfl rfl), List.forall_mem_cons.mpr ⟨(am_in1 (i := 94) rfl rfl), List.forall_mem_cons.mpr ⟨(am_in1 (i := 96) rfl rfl), List.forall_mem_cons.mpr ⟨(am_in1 (i := 98) rfl rfl), List.forall_mem_cons.mpr ⟨(am_in1 (i := 100) rfl rfl), List.forall_mem_cons.mpr ⟨(am_in1 (i := 102) rfl rfl), List.forall_mem_cons.mpr ⟨(am_in1 (i := 104) rfl rfl), fun _ h => absurd h List.not_mem_nil⟩⟩⟩⟩⟩⟩⟩⟩⟩⟩⟩⟩⟩⟩⟩
theorem tb_W : am_tb 0 t_W := ⟨_, F_W, 15, rfl, iw_W, by decide +kernel, by decide +kernel⟩
theorem iw_S : ∀ w ∈ u_ws "WorksBudget$Search" F_S 20, w ∈ am_T := List.forall_mem_cons.mpr ⟨(am_in1 (i := 136) rfl rfl), List.forall_mem_cons.mpr ⟨(am_in1 (i := 138) rfl rfl), List.forall_mem_cons.mpr ⟨(am_in1 (i := 140) rfl rfl), List.forall_mem_cons.mpr ⟨(am_in1 (i := 142) rfl rfl), List.forall_mem_cons.mpr ⟨(am_in1 (i := 144) rfl rfl), List.forall_mem_cons.mpr ⟨(am_in1 (i := 146) rfl rfl), List.forall_mem_cons.mpr ⟨(am_in1 (i := 148) rfl rfl), List.forall_mem_cons.mpr ⟨(am_in1 (i := 150) rfl rfl), List.forall_mem_cons.mpr ⟨(am_in1 (i := 152) rfl rfl), List.forall_mem_cons.mpr ⟨(am_in1 (i := 154) rfl rfl), List.forall_mem_cons.mpr ⟨(am_in1 (i := 156) rfl rfl), List.forall_mem_cons.mpr ⟨(am_in1 (i := 158) rfl rfl), List.forall_mem_cons.mpr ⟨(am_in1 (i := 160) rfl rfl), List.forall_mem_cons.mpr ⟨(am_in1 (i := 162) rfl rfl), List.forall_mem_cons.mpr ⟨(am_in1 (i := 164) rfl rfl), List.forall_mem_cons.mpr ⟨(am_in1 (i := 166) rfl rfl), List.forall_mem_cons.mpr ⟨(am_in1 (i := 168) rfl rfl), List.forall_mem_cons.mpr ⟨(am_in1 (i := 170) rfl rfl), List.forall_mem_cons.mpr ⟨(am_in1 (i := 172) rfl rfl), List.forall_mem_cons.mpr ⟨(am_in1 (i := 174) rfl rfl), fun _ h => absurd h List.not_mem_nil⟩⟩⟩⟩⟩⟩⟩⟩⟩⟩⟩⟩⟩⟩⟩⟩⟩⟩⟩⟩
theorem tb_S : am_tb 1 t_S := ⟨_, F_S, 20, rfl, iw_S, by decide +kernel, by decide +kernel⟩
theorem iw_N : ∀ w ∈ u_ws "WorksBudget$Bounds" F_N 1, w ∈ am_T := List.forall_mem_cons.mpr ⟨(am_in1 (i := 184) rfl rfl), fun _ h => absurd h List.not_mem_nil⟩
theorem tb_N : am_tb 2 t_N := ⟨_, F_N, 1, rfl, iw_N, by decide +kernel, by decide +kernel⟩
theorem iw_P : ∀ w ∈ u_ws "WorksBudget$Policies" F_P 2, w ∈ am_T := List.forall_mem_cons.mpr ⟨(am_in1 (i := 195) rfl rfl), List.forall_mem_cons.mpr ⟨(am_in1 (i := 197) rfl rfl), fun _ h => absurd h List.not_mem_nil⟩⟩
theorem tb_P : am_tb 3 t_P := ⟨_, F_P, 2, rfl, iw_P, by decide +kernel, by decide +kernel⟩
theorem iw_B : ∀ w ∈ u_ws "WorksBudget" F_B 11, w ∈ am_T := List.forall_mem_cons.mpr ⟨(am_in1 (i := 211) rfl rfl), List.forall_mem_cons.mpr ⟨(am_in1 (i := 213) rfl rfl), List.forall_mem_cons.mpr ⟨(am_in1 (i := 215) rfl rfl), List.forall_mem_cons.mpr ⟨(am_in1 (i := 217) rfl rfl), List.forall_mem_cons.mpr ⟨(am_in1 (i := 219) rfl rfl), List.forall_mem_cons.mpr ⟨(am_in1 (i := 221) rfl rfl), List.forall_mem_cons.mpr ⟨(am_in1 (i := 223) rfl rfl), List.forall_mem_cons.mpr ⟨(am_in1 (i := 225) rfl rfl), List.forall_mem_cons.mpr ⟨(am_in1 (i := 227) rfl rfl), List.forall_mem_cons.mpr ⟨(am_in1 (i := 229) rfl rfl), List.forall_mem_cons.mpr ⟨(am_in1 (i := 231) rfl rfl), fun _ h => absurd h List.not_mem_nil⟩⟩⟩⟩⟩⟩⟩⟩⟩⟩⟩
theorem tb_B : am_tb 4 t_B := ⟨_, F_B, 11, rfl, iw_B, by decide +kernel, by decide +kernel⟩
theorem iw_M : ∀ w ∈ u_ws "WorksBudgetModel" F_M 23, w ∈ am_T := List.forall_mem_cons.mpr ⟨(am_in3 (i := 151) rfl rfl), List.forall_mem_cons.mpr ⟨(am_in3 (i := 153) rfl rfl), List.forall_mem_cons.mpr ⟨(am_in3 (i := 155) rfl rfl), List.forall_mem_cons.mpr ⟨(am_in3 (i := 157) rfl rfl), List.forall_mem_cons.mpr ⟨(am_in3 (i := 159) rfl rfl), List.forall_mem_cons.mpr ⟨(am_in3 (i := 161) rfl rfl), List.forall_mem_cons.mpr ⟨(am_in3 (i := 163) rfl rfl), List.forall_mem_cons.mpr ⟨(am_in3 (i := 165) rfl rfl), List.forall_mem_cons.mpr ⟨(am_in3 (i := 167) rfl rfl), List.forall_mem_cons.mpr ⟨(am_in3 (i := 169) rfl rfl), List.forall_mem_cons.mpr ⟨(am_in3 (i := 171) rfl rfl), List.forall_mem_cons.mpr ⟨(am_in3 (i := 173) rfl rfl), List.forall_mem_cons.mpr ⟨(am_in3 (i := 175) rfl rfl), List.forall_mem_cons.mpr ⟨(am_in3 (i := 177) rfl rfl), List.forall_mem_cons.mpr ⟨(am_in3 (i := 179) rfl rfl), List.forall_mem_cons.mpr ⟨(am_in3 (i := 181) rfl rfl), List.forall_mem_cons.mpr ⟨(am_in3 (i := 183) rfl rfl), List.forall_mem_cons.mpr ⟨(am_in3 (i := 185) rfl rfl), List.forall_mem_cons.mpr ⟨(am_in3 (i := 187) rfl rfl), List.forall_mem_cons.mpr ⟨(am_in3 (i := 189) rfl rfl), List.forall_mem_cons.mpr ⟨(am_in3 (i := 191) rfl rfl), List.forall_mem_cons.mpr ⟨(am_in3 (i := 193) rfl rfl), List.forall_mem_cons.mpr ⟨(am_in3 (i := 195) rfl rfl), fun _ h => absurd h List.not_mem_nil⟩⟩⟩⟩⟩⟩⟩⟩⟩⟩⟩⟩⟩⟩⟩⟩⟩⟩⟩⟩⟩⟩⟩
theorem tb_M : am_tb 5 t_M := ⟨_, F_M, 23, rfl, iw_M, by decide +kernel, by decide +kernel⟩
def m_B_init : am_M := (⟨"WorksBudget", "<init>", "(I)V"⟩, prog_1_method_1_code, 2, none)
def m_JM_min_III : am_M := (⟨"java/lang/Math", "min", "(II)I"⟩, prog_10_method_69_code, 2, some .int)
def m_JM_max_III : am_M := (⟨"java/lang/Math", "max", "(II)I"⟩, prog_10_method_65_code, 2, some .int)
def m_W_init : am_M := (⟨"WorksBudget$Works", "<init>", "(I)V"⟩, prog_5_method_1_code, 2, none)
def m_S_init : am_M := (⟨"WorksBudget$Search", "<init>", "(LWorksBudget$Works;)V"⟩, prog_4_method_1_code, 2, none)
def m_N_init : am_M := (⟨"WorksBudget$Bounds", "<init>", "(LWorksBudget$Works;)V"⟩, prog_2_method_1_code, 2, none)
def m_P_init : am_M := (⟨"WorksBudget$Policies", "<init>", "(LWorksBudget$Works;)V"⟩, prog_3_method_1_code, 2, none)
def m_B_thing : am_M := (⟨"WorksBudget", "thing", "(I)I"⟩, prog_1_method_2_code, 2, some .int)
def m_B_forget : am_M := (⟨"WorksBudget", "forget", "()V"⟩, prog_1_method_27_code, 1, none)
def m_W_addThing : am_M := (⟨"WorksBudget$Works", "addThing", "(I)I"⟩, prog_5_method_6_code, 2, some .int)
def m_B_choice : am_M := (⟨"WorksBudget", "choice", "(IIJJ)I"⟩, prog_1_method_3_code, 7, some .int)
def m_W_isThing : am_M := (⟨"WorksBudget$Works", "isThing", "(I)Z"⟩, prog_5_method_3_code, 2, some .boolean)
def m_W_isYear : am_M := (⟨"WorksBudget$Works", "isYear", "(I)Z"⟩, prog_5_method_2_code, 2, some .boolean)
def m_B_isWithin : am_M := (⟨"WorksBudget", "isWithin", "(JJ)Z"⟩, prog_1_method_32_code, 4, some .boolean)
def m_W_addChoice : am_M := (⟨"WorksBudget$Works", "addChoice", "(IIJJ)I"⟩, prog_5_method_7_code, 7, some .int)
def m_B_must : am_M := (⟨"WorksBudget", "must", "(I)Z"⟩, prog_1_method_4_code, 2, some .boolean)
def m_W_isChoice : am_M := (⟨"WorksBudget$Works", "isChoice", "(I)Z"⟩, prog_5_method_4_code, 2, some .boolean)
def m_B_isIn : am_M := (⟨"WorksBudget", "isIn", "(II)Z"⟩, prog_1_method_35_code, 2, some .boolean)
def m_B_budget : am_M := (⟨"WorksBudget", "budget", "(IJ)Z"⟩, prog_1_method_5_code, 4, some .boolean)
def m_B_join : am_M := (⟨"WorksBudget", "join", "(IIJ)Z"⟩, prog_1_method_6_code, 5, some .boolean)
def m_W_canJoin : am_M := (⟨"WorksBudget$Works", "canJoin", "(II)Z"⟩, prog_5_method_8_code, 3, some .boolean)
def m_W_addJoin : am_M := (⟨"WorksBudget$Works", "addJoin", "(IIJ)V"⟩, prog_5_method_9_code, 5, none)
def m_B_district : am_M := (⟨"WorksBudget", "district", "(II)Z"⟩, prog_1_method_7_code, 3, some .boolean)
def m_B_isDistrict : am_M := (⟨"WorksBudget", "isDistrict", "(I)Z"⟩, prog_1_method_33_code, 1, some .boolean)
def m_B_fair : am_M := (⟨"WorksBudget", "fair", "(J)Z"⟩, prog_1_method_8_code, 3, some .boolean)
def m_B_run : am_M := (⟨"WorksBudget", "run", "(J)I"⟩, prog_1_method_9_code, 4, some .int)
def m_B_isNodes : am_M := (⟨"WorksBudget", "isNodes", "(J)Z"⟩, prog_1_method_34_code, 2, some .boolean)
def m_S_bestPlan : am_M := (⟨"WorksBudget$Search", "bestPlan", "(J)I"⟩, prog_4_method_2_code, 3, some .int)
def m_S_prepare : am_M := (⟨"WorksBudget$Search", "prepare", "(JI)V"⟩, prog_4_method_6_code, 5, none)
def m_W_usedDistricts : am_M := (⟨"WorksBudget$Works", "usedDistricts", "()I"⟩, prog_5_method_19_code, 3, some .int)
def m_S_prepareRests : am_M := (⟨"WorksBudget$Search", "prepareRests", "()V"⟩, prog_4_method_7_code, 4, none)
def m_W_savesWith : am_M := (⟨"WorksBudget$Works", "savesWith", "(II)J"⟩, prog_5_method_10_code, 7, some .long)
def m_S_lookFrom : am_M := (⟨"WorksBudget$Search", "lookFrom", "(IJ)V"⟩, prog_4_method_8_code, 4, none)
def m_S_isHopeless : am_M := (⟨"WorksBudget$Search", "isHopeless", "(I)Z"⟩, prog_4_method_13_code, 4, some .boolean)
def m_S_countOfChanges : am_M := (⟨"WorksBudget$Search", "countOfChanges", "(I)I"⟩, prog_4_method_14_code, 2, some .int)
def m_JI_bitCount : am_M := (⟨"java/lang/Integer", "bitCount", "(I)I"⟩, prog_8_method_49_code, 1, some .int)
def m_S_weigh : am_M := (⟨"WorksBudget$Search", "weigh", "()V"⟩, prog_4_method_15_code, 2, none)
def m_S_isFair : am_M := (⟨"WorksBudget$Search", "isFair", "()Z"⟩, prog_4_method_17_code, 3, some .boolean)
def m_S_isBetter : am_M := (⟨"WorksBudget$Search", "isBetter", "(I)Z"⟩, prog_4_method_16_code, 2, some .boolean)
def m_S_lookWith : am_M := (⟨"WorksBudget$Search", "lookWith", "(IJ)V"⟩, prog_4_method_9_code, 4, none)
def m_S_pick : am_M := (⟨"WorksBudget$Search", "pick", "(II)V"⟩, prog_4_method_11_code, 6, none)
def m_W_districtOfChoice : am_M := (⟨"WorksBudget$Works", "districtOfChoice", "(I)I"⟩, prog_5_method_17_code, 2, some .int)
def m_S_isOverspent : am_M := (⟨"WorksBudget$Search", "isOverspent", "(I)Z"⟩, prog_4_method_12_code, 3, some .boolean)
def m_S_lookWithout : am_M := (⟨"WorksBudget$Search", "lookWithout", "(IJ)V"⟩, prog_4_method_10_code, 4, none)
def m_W_countOfSets : am_M := (⟨"WorksBudget$Works", "countOfSets", "()I"⟩, prog_5_method_5_code, 1, some .int)
def m_B_chosen : am_M := (⟨"WorksBudget", "chosen", "(I)Z"⟩, prog_1_method_10_code, 2, some .boolean)
def m_B_planOrNothing : am_M := (⟨"WorksBudget", "planOrNothing", "()I"⟩, prog_1_method_28_code, 1, some .int)
def m_B_worth : am_M := (⟨"WorksBudget", "worth", "()J"⟩, prog_1_method_11_code, 1, some .long)
def m_W_worthOfPlan : am_M := (⟨"WorksBudget$Works", "worthOfPlan", "(I)J"⟩, prog_5_method_16_code, 5, some .long)
def m_B_bound : am_M := (⟨"WorksBudget", "bound", "(I)J"⟩, prog_1_method_12_code, 2, some .long)
def m_N_byThings : am_M := (⟨"WorksBudget$Bounds", "byThings", "()J"⟩, prog_2_method_2_code, 4, some .long)
def m_W_mostWorth : am_M := (⟨"WorksBudget$Works", "mostWorth", "(I)J"⟩, prog_5_method_23_code, 2, some .long)
def m_W_mostWorthBy : am_M := (⟨"WorksBudget$Works", "mostWorthBy", "(II)J"⟩, prog_5_method_22_code, 6, some .long)
def m_JM_max_JJJ : am_M := (⟨"java/lang/Math", "max", "(JJ)J"⟩, prog_10_method_66_code, 4, some .long)
def m_N_byPrices : am_M := (⟨"WorksBudget$Bounds", "byPrices", "(J)J"⟩, prog_2_method_3_code, 10, some .long)
def m_N_byPrice : am_M := (⟨"WorksBudget$Bounds", "byPrice", "(JJJ)J"⟩, prog_2_method_4_code, 10, some .long)
def m_N_mostPartsOf : am_M := (⟨"WorksBudget$Bounds", "mostPartsOf", "(IJJ)J"⟩, prog_2_method_5_code, 11, some .long)
def m_W_savesOfAllJoins : am_M := (⟨"WorksBudget$Works", "savesOfAllJoins", "(I)J"⟩, prog_5_method_11_code, 2, some .long)
def m_JM_min_JJJ : am_M := (⟨"java/lang/Math", "min", "(JJ)J"⟩, prog_10_method_70_code, 4, some .long)
def m_B_clash : am_M := (⟨"WorksBudget", "clash", "(I)I"⟩, prog_1_method_13_code, 2, some .int)
def m_S_someHolds : am_M := (⟨"WorksBudget$Search", "someHolds", "(I)Z"⟩, prog_4_method_5_code, 2, some .boolean)
def m_B_clashingMusts : am_M := (⟨"WorksBudget", "clashingMusts", "()I"⟩, prog_1_method_30_code, 4, some .int)
def m_B_memberOf : am_M := (⟨"WorksBudget", "memberOf", "(II)I"⟩, prog_1_method_36_code, 4, some .int)
def m_B_proved : am_M := (⟨"WorksBudget", "proved", "()Z"⟩, prog_1_method_14_code, 1, some .boolean)
def m_B_price : am_M := (⟨"WorksBudget", "price", "(II)J"⟩, prog_1_method_15_code, 3, some .long)
def m_B_gainOfBest : am_M := (⟨"WorksBudget", "gainOfBest", "(I)J"⟩, prog_1_method_29_code, 3, some .long)
def m_S_bestPlanWithMore : am_M := (⟨"WorksBudget$Search", "bestPlanWithMore", "(IJ)I"⟩, prog_4_method_3_code, 4, some .int)
def m_B_old : am_M := (⟨"WorksBudget", "old", "(IZ)Z"⟩, prog_1_method_16_code, 3, some .boolean)
def m_B_changes : am_M := (⟨"WorksBudget", "changes", "(J)I"⟩, prog_1_method_17_code, 3, some .int)
def m_S_nearestPlan : am_M := (⟨"WorksBudget$Search", "nearestPlan", "(JI)I"⟩, prog_4_method_4_code, 4, some .int)
def m_B_changed : am_M := (⟨"WorksBudget", "changed", "(I)I"⟩, prog_1_method_18_code, 2, some .int)
def m_B_backlog : am_M := (⟨"WorksBudget", "backlog", "(I)J"⟩, prog_1_method_19_code, 5, some .long)
def m_W_isDoneBy : am_M := (⟨"WorksBudget$Works", "isDoneBy", "(III)Z"⟩, prog_5_method_21_code, 5, some .boolean)
def m_B_rank : am_M := (⟨"WorksBudget", "rank", "(I)I"⟩, prog_1_method_20_code, 3, some .int)
def m_B_countOfThingsBefore : am_M := (⟨"WorksBudget", "countOfThingsBefore", "(I)I"⟩, prog_1_method_31_code, 4, some .int)
def m_W_ranksBefore : am_M := (⟨"WorksBudget$Works", "ranksBefore", "(II)Z"⟩, prog_5_method_24_code, 7, some .boolean)
def m_B_share : am_M := (⟨"WorksBudget", "share", "(II)J"⟩, prog_1_method_21_code, 9, some .long)
def m_W_worthOfDistrict : am_M := (⟨"WorksBudget$Works", "worthOfDistrict", "(II)J"⟩, prog_5_method_18_code, 6, some .long)
def m_B_greatestDivisor : am_M := (⟨"WorksBudget", "greatestDivisor", "(JJ)J"⟩, prog_1_method_37_code, 11, some .long)
def m_B_policy : am_M := (⟨"WorksBudget", "policy", "(I)I"⟩, prog_1_method_22_code, 2, some .int)
def m_P_planBy : am_M := (⟨"WorksBudget$Policies", "planBy", "(I)I"⟩, prog_3_method_2_code, 5, some .int)
def m_P_isPossible : am_M := (⟨"WorksBudget$Policies", "isPossible", "(I)Z"⟩, prog_3_method_3_code, 2, some .boolean)
def m_W_isPlan : am_M := (⟨"WorksBudget$Works", "isPlan", "(I)Z"⟩, prog_5_method_15_code, 4, some .boolean)
def m_W_isWithinAllBudgets : am_M := (⟨"WorksBudget$Works", "isWithinAllBudgets", "(I)Z"⟩, prog_5_method_14_code, 3, some .boolean)
def m_W_isWithinBudget : am_M := (⟨"WorksBudget$Works", "isWithinBudget", "(II)Z"⟩, prog_5_method_13_code, 3, some .boolean)
def m_W_spentIn : am_M := (⟨"WorksBudget$Works", "spentIn", "(II)J"⟩, prog_5_method_12_code, 7, some .long)
def m_P_putInOrder : am_M := (⟨"WorksBudget$Policies", "putInOrder", "(I)V"⟩, prog_3_method_4_code, 5, none)
def m_P_goesBefore : am_M := (⟨"WorksBudget$Policies", "goesBefore", "(III)Z"⟩, prog_3_method_5_code, 6, some .boolean)
def m_P_leadByWorthByCost : am_M := (⟨"WorksBudget$Policies", "leadByWorthByCost", "(II)J"⟩, prog_3_method_6_code, 7, some .long)
def m_JL_compare : am_M := (⟨"java/lang/Long", "compare", "(JJ)I"⟩, prog_9_method_42_code, 4, some .int)
def m_B_compare : am_M := (⟨"WorksBudget", "compare", "(II)J"⟩, prog_1_method_23_code, 5, some .long)
def m_B_list : am_M := (⟨"WorksBudget", "list", "(II)I"⟩, prog_1_method_24_code, 7, some .int)
def m_W_partOf : am_M := (⟨"WorksBudget$Works", "partOf", "(III)I"⟩, prog_5_method_20_code, 6, some .int)
def m_B_earlier : am_M := (⟨"WorksBudget", "earlier", "(I)I"⟩, prog_1_method_25_code, 4, some .int)
def m_B_holds : am_M := (⟨"WorksBudget", "holds", "(I)Z"⟩, prog_1_method_26_code, 2, some .boolean)
def m_L_cell : am_M := (⟨"WorksBudgetLaw", "cell", "([II)I"⟩, method_2_code, 2, some .int)
def m_M_init : am_M := (⟨"WorksBudgetModel", "<init>", "(I)V"⟩, prog_7_method_1_code, 2, none)
def m_M_thing : am_M := (⟨"WorksBudgetModel", "thing", "(I)I"⟩, prog_7_method_5_code, 2, some .int)
def m_M_in : am_M := (⟨"WorksBudgetModel", "in", "(JJJ)Z"⟩, prog_7_method_3_code, 6, some .boolean)
def m_M_tell : am_M := (⟨"WorksBudgetModel", "tell", "()V"⟩, prog_7_method_2_code, 1, none)
def m_M_choice : am_M := (⟨"WorksBudgetModel", "choice", "(IIJJ)I"⟩, prog_7_method_6_code, 8, some .int)
def m_M_must : am_M := (⟨"WorksBudgetModel", "must", "(I)Z"⟩, prog_7_method_9_code, 2, some .boolean)
def m_M_isChoice : am_M := (⟨"WorksBudgetModel", "isChoice", "(I)Z"⟩, prog_7_method_7_code, 2, some .boolean)
def m_M_has : am_M := (⟨"WorksBudgetModel", "has", "(II)Z"⟩, prog_7_method_4_code, 2, some .boolean)
def m_M_budget : am_M := (⟨"WorksBudgetModel", "budget", "(IJ)Z"⟩, prog_7_method_10_code, 4, some .boolean)
def m_M_isYear : am_M := (⟨"WorksBudgetModel", "isYear", "(I)Z"⟩, prog_7_method_8_code, 2, some .boolean)
def m_M_join : am_M := (⟨"WorksBudgetModel", "join", "(IIJ)Z"⟩, prog_7_method_11_code, 6, some .boolean)
def m_M_district : am_M := (⟨"WorksBudgetModel", "district", "(II)Z"⟩, prog_7_method_12_code, 3, some .boolean)
def m_M_fair : am_M := (⟨"WorksBudgetModel", "fair", "(J)Z"⟩, prog_7_method_13_code, 3, some .boolean)
def m_M_run : am_M := (⟨"WorksBudgetModel", "run", "(J)I"⟩, prog_7_method_24_code, 4, some .int)
def m_M_best : am_M := (⟨"WorksBudgetModel", "best", "(J)I"⟩, prog_7_method_23_code, 6, some .int)
def m_M_setAt : am_M := (⟨"WorksBudgetModel", "setAt", "(I)I"⟩, prog_7_method_14_code, 4, some .int)
def m_M_holdsWith : am_M := (⟨"WorksBudgetModel", "holdsWith", "(II)Z"⟩, prog_7_method_19_code, 3, some .boolean)
def m_M_isPlan : am_M := (⟨"WorksBudgetModel", "isPlan", "(I)Z"⟩, prog_7_method_15_code, 5, some .boolean)
def m_M_isFair : am_M := (⟨"WorksBudgetModel", "isFair", "(I)Z"⟩, prog_7_method_18_code, 8, some .boolean)
def m_M_fits : am_M := (⟨"WorksBudgetModel", "fits", "(I)Z"⟩, prog_7_method_17_code, 4, some .boolean)
def m_M_spentIn : am_M := (⟨"WorksBudgetModel", "spentIn", "(II)J"⟩, prog_7_method_16_code, 6, some .long)
def m_M_isBetter : am_M := (⟨"WorksBudgetModel", "isBetter", "(II)Z"⟩, prog_7_method_22_code, 7, some .boolean)
def m_M_worthOf : am_M := (⟨"WorksBudgetModel", "worthOf", "(I)J"⟩, prog_7_method_20_code, 5, some .long)
def m_M_yearsOf : am_M := (⟨"WorksBudgetModel", "yearsOf", "(I)I"⟩, prog_7_method_21_code, 4, some .int)
def m_M_chosen : am_M := (⟨"WorksBudgetModel", "chosen", "(I)Z"⟩, prog_7_method_25_code, 2, some .boolean)
def m_M_worth : am_M := (⟨"WorksBudgetModel", "worth", "()J"⟩, prog_7_method_26_code, 1, some .long)
def m_M_bound : am_M := (⟨"WorksBudgetModel", "bound", "(I)J"⟩, prog_7_method_30_code, 7, some .long)
def m_M_mostWorth : am_M := (⟨"WorksBudgetModel", "mostWorth", "(II)J"⟩, prog_7_method_27_code, 6, some .long)
def m_M_byPrice : am_M := (⟨"WorksBudgetModel", "byPrice", "(JJ)J"⟩, prog_7_method_29_code, 13, some .long)
def m_M_savedBy : am_M := (⟨"WorksBudgetModel", "savedBy", "(I)J"⟩, prog_7_method_28_code, 5, some .long)
def m_M_clash : am_M := (⟨"WorksBudgetModel", "clash", "(I)I"⟩, prog_7_method_32_code, 5, some .int)
def m_M_someHolds : am_M := (⟨"WorksBudgetModel", "someHolds", "(I)Z"⟩, prog_7_method_31_code, 4, some .boolean)
def m_M_proved : am_M := (⟨"WorksBudgetModel", "proved", "()Z"⟩, prog_7_method_33_code, 1, some .boolean)
def m_M_price : am_M := (⟨"WorksBudgetModel", "price", "(II)J"⟩, prog_7_method_34_code, 7, some .long)
def m_M_old : am_M := (⟨"WorksBudgetModel", "old", "(IZ)Z"⟩, prog_7_method_35_code, 3, some .boolean)
def m_M_changes : am_M := (⟨"WorksBudgetModel", "changes", "(J)I"⟩, prog_7_method_37_code, 7, some .int)
def m_M_differ : am_M := (⟨"WorksBudgetModel", "differ", "(I)I"⟩, prog_7_method_36_code, 4, some .int)
def m_M_changed : am_M := (⟨"WorksBudgetModel", "changed", "(I)I"⟩, prog_7_method_38_code, 4, some .int)
def m_M_backlog : am_M := (⟨"WorksBudgetModel", "backlog", "(I)J"⟩, prog_7_method_39_code, 7, some .long)
def m_M_rank : am_M := (⟨"WorksBudgetModel", "rank", "(I)I"⟩, prog_7_method_40_code, 9, some .int)
def m_M_share : am_M := (⟨"WorksBudgetModel", "share", "(II)J"⟩, prog_7_method_41_code, 13, some .long)
def m_M_policy : am_M := (⟨"WorksBudgetModel", "policy", "(I)I"⟩, prog_7_method_44_code, 2, some .int)
def m_M_planBy : am_M := (⟨"WorksBudgetModel", "planBy", "(I)I"⟩, prog_7_method_43_code, 5, some .int)
def m_M_comesBefore : am_M := (⟨"WorksBudgetModel", "comesBefore", "(III)Z"⟩, prog_7_method_42_code, 8, some .boolean)
def m_M_compare : am_M := (⟨"WorksBudgetModel", "compare", "(II)J"⟩, prog_7_method_45_code, 5, some .long)
def m_M_list : am_M := (⟨"WorksBudgetModel", "list", "(II)I"⟩, prog_7_method_46_code, 6, some .int)
def m_M_earlier : am_M := (⟨"WorksBudgetModel", "earlier", "(I)I"⟩, prog_7_method_47_code, 4, some .int)
def m_M_holds : am_M := (⟨"WorksBudgetModel", "holds", "(I)Z"⟩, prog_7_method_48_code, 2, some .boolean)
def m_L_law : am_M := (⟨"WorksBudgetLaw", "law", "([I)Z"⟩, code, 4, some .boolean)
theorem fl_W_48 : am_fl "WorksBudget$Works" 48 0 0 := ⟨_, F_W, 15, rfl, by decide, iw_W, (am_in1 (i := 33) rfl rfl), rfl⟩
theorem fl_N_23 : am_fl "WorksBudget$Bounds" 23 0 0 := ⟨_, F_W, 15, rfl, by decide, iw_W, (am_in1 (i := 34) rfl rfl), rfl⟩
theorem fl_B_209 : am_fl "WorksBudget" 209 0 0 := ⟨_, F_W, 15, rfl, by decide, iw_W, (am_in1 (i := 35) rfl rfl), rfl⟩
theorem fl_W_9 : am_fl "WorksBudget$Works" 9 0 1 := ⟨_, F_W, 15, rfl, by decide, iw_W, (am_in1 (i := 36) rfl rfl), rfl⟩
theorem fl_N_26 : am_fl "WorksBudget$Bounds" 26 0 1 := ⟨_, F_W, 15, rfl, by decide, iw_W, (am_in1 (i := 37) rfl rfl), rfl⟩
theorem fl_B_96 : am_fl "WorksBudget" 96 0 1 := ⟨_, F_W, 15, rfl, by decide, iw_W, (am_in1 (i := 38) rfl rfl), rfl⟩
theorem fl_S_88 : am_fl "WorksBudget$Search" 88 0 1 := ⟨_, F_W, 15, rfl, by decide, iw_W, (am_in1 (i := 39) rfl rfl), rfl⟩
theorem fl_N_13 : am_fl "WorksBudget$Bounds" 13 0 2 := ⟨_, F_W, 15, rfl, by decide, iw_W, (am_in1 (i := 40) rfl rfl), rfl⟩
theorem fl_B_54 : am_fl "WorksBudget" 54 0 2 := ⟨_, F_W, 15, rfl, by decide, iw_W, (am_in1 (i := 41) rfl rfl), rfl⟩
theorem fl_W_52 : am_fl "WorksBudget$Works" 52 0 2 := ⟨_, F_W, 15, rfl, by decide, iw_W, (am_in1 (i := 42) rfl rfl), rfl⟩
theorem fl_W_15 : am_fl "WorksBudget$Works" 15 0 3 := ⟨_, F_W, 15, rfl, by decide, iw_W, (am_in1 (i := 43) rfl rfl), rfl⟩
theorem fl_W_19 : am_fl "WorksBudget$Works" 19 0 4 := ⟨_, F_W, 15, rfl, by decide, iw_W, (am_in1 (i := 44) rfl rfl), rfl⟩
theorem fl_B_113 : am_fl "WorksBudget" 113 0 4 := ⟨_, F_W, 15, rfl, by decide, iw_W, (am_in1 (i := 45) rfl rfl), rfl⟩
theorem fl_P_33 : am_fl "WorksBudget$Policies" 33 0 5 := ⟨_, F_W, 15, rfl, by decide, iw_W, (am_in1 (i := 46) rfl rfl), rfl⟩
theorem fl_B_71 : am_fl "WorksBudget" 71 0 5 := ⟨_, F_W, 15, rfl, by decide, iw_W, (am_in1 (i := 47) rfl rfl), rfl⟩
theorem fl_N_34 : am_fl "WorksBudget$Bounds" 34 0 5 := ⟨_, F_W, 15, rfl, by decide, iw_W, (am_in1 (i := 48) rfl rfl), rfl⟩
theorem fl_W_55 : am_fl "WorksBudget$Works" 55 0 5 := ⟨_, F_W, 15, rfl, by decide, iw_W, (am_in1 (i := 49) rfl rfl), rfl⟩
theorem fl_S_94 : am_fl "WorksBudget$Search" 94 0 5 := ⟨_, F_W, 15, rfl, by decide, iw_W, (am_in1 (i := 50) rfl rfl), rfl⟩
theorem fl_W_22 : am_fl "WorksBudget$Works" 22 0 6 := ⟨_, F_W, 15, rfl, by decide, iw_W, (am_in1 (i := 51) rfl rfl), rfl⟩
theorem fl_N_53 : am_fl "WorksBudget$Bounds" 53 0 6 := ⟨_, F_W, 15, rfl, by decide, iw_W, (am_in1 (i := 52) rfl rfl), rfl⟩
theorem fl_S_121 : am_fl "WorksBudget$Search" 121 0 6 := ⟨_, F_W, 15, rfl, by decide, iw_W, (am_in1 (i := 53) rfl rfl), rfl⟩
theorem fl_W_25 : am_fl "WorksBudget$Works" 25 0 7 := ⟨_, F_W, 15, rfl, by decide, iw_W, (am_in1 (i := 54) rfl rfl), rfl⟩
theorem fl_P_54 : am_fl "WorksBudget$Policies" 54 0 7 := ⟨_, F_W, 15, rfl, by decide, iw_W, (am_in1 (i := 55) rfl rfl), rfl⟩
theorem fl_S_100 : am_fl "WorksBudget$Search" 100 0 7 := ⟨_, F_W, 15, rfl, by decide, iw_W, (am_in1 (i := 56) rfl rfl), rfl⟩
theorem fl_B_216 : am_fl "WorksBudget" 216 0 7 := ⟨_, F_W, 15, rfl, by decide, iw_W, (am_in1 (i := 57) rfl rfl), rfl⟩
theorem fl_W_28 : am_fl "WorksBudget$Works" 28 0 8 := ⟨_, F_W, 15, rfl, by decide, iw_W, (am_in1 (i := 58) rfl rfl), rfl⟩
theorem fl_N_37 : am_fl "WorksBudget$Bounds" 37 0 8 := ⟨_, F_W, 15, rfl, by decide, iw_W, (am_in1 (i := 59) rfl rfl), rfl⟩
theorem fl_P_57 : am_fl "WorksBudget$Policies" 57 0 8 := ⟨_, F_W, 15, rfl, by decide, iw_W, (am_in1 (i := 60) rfl rfl), rfl⟩
theorem fl_S_135 : am_fl "WorksBudget$Search" 135 0 8 := ⟨_, F_W, 15, rfl, by decide, iw_W, (am_in1 (i := 61) rfl rfl), rfl⟩
theorem fl_W_31 : am_fl "WorksBudget$Works" 31 0 9 := ⟨_, F_W, 15, rfl, by decide, iw_W, (am_in1 (i := 62) rfl rfl), rfl⟩
theorem fl_N_40 : am_fl "WorksBudget$Bounds" 40 0 9 := ⟨_, F_W, 15, rfl, by decide, iw_W, (am_in1 (i := 63) rfl rfl), rfl⟩
theorem fl_P_50 : am_fl "WorksBudget$Policies" 50 0 9 := ⟨_, F_W, 15, rfl, by decide, iw_W, (am_in1 (i := 64) rfl rfl), rfl⟩
theorem fl_S_97 : am_fl "WorksBudget$Search" 97 0 9 := ⟨_, F_W, 15, rfl, by decide, iw_W, (am_in1 (i := 65) rfl rfl), rfl⟩
theorem fl_P_19 : am_fl "WorksBudget$Policies" 19 0 10 := ⟨_, F_W, 15, rfl, by decide, iw_W, (am_in1 (i := 66) rfl rfl), rfl⟩
theorem fl_S_33 : am_fl "WorksBudget$Search" 33 0 10 := ⟨_, F_W, 15, rfl, by decide, iw_W, (am_in1 (i := 67) rfl rfl), rfl⟩
theorem fl_B_87 : am_fl "WorksBudget" 87 0 10 := ⟨_, F_W, 15, rfl, by decide, iw_W, (am_in1 (i := 68) rfl rfl), rfl⟩
theorem fl_B_103 : am_fl "WorksBudget" 103 0 11 := ⟨_, F_W, 15, rfl, by decide, iw_W, (am_in1 (i := 69) rfl rfl), rfl⟩
theorem fl_W_62 : am_fl "WorksBudget$Works" 62 0 11 := ⟨_, F_W, 15, rfl, by decide, iw_W, (am_in1 (i := 70) rfl rfl), rfl⟩
theorem fl_W_34 : am_fl "WorksBudget$Works" 34 0 12 := ⟨_, F_W, 15, rfl, by decide, iw_W, (am_in1 (i := 71) rfl rfl), rfl⟩
theorem fl_W_39 : am_fl "WorksBudget$Works" 39 0 13 := ⟨_, F_W, 15, rfl, by decide, iw_W, (am_in1 (i := 72) rfl rfl), rfl⟩
theorem fl_W_44 : am_fl "WorksBudget$Works" 44 0 14 := ⟨_, F_W, 15, rfl, by decide, iw_W, (am_in1 (i := 73) rfl rfl), rfl⟩
theorem fl_B_121 : am_fl "WorksBudget" 121 0 14 := ⟨_, F_W, 15, rfl, by decide, iw_W, (am_in1 (i := 74) rfl rfl), rfl⟩
theorem fl_S_166 : am_fl "WorksBudget$Search" 166 0 14 := ⟨_, F_W, 15, rfl, by decide, iw_W, (am_in1 (i := 75) rfl rfl), rfl⟩
theorem fl_S_29 : am_fl "WorksBudget$Search" 29 1 0 := ⟨_, F_S, 20, rfl, by decide, iw_S, (am_in1 (i := 116) rfl rfl), rfl⟩
theorem fl_S_66 : am_fl "WorksBudget$Search" 66 1 1 := ⟨_, F_S, 20, rfl, by decide, iw_S, (am_in1 (i := 117) rfl rfl), rfl⟩
theorem fl_S_70 : am_fl "WorksBudget$Search" 70 1 2 := ⟨_, F_S, 20, rfl, by decide, iw_S, (am_in1 (i := 118) rfl rfl), rfl⟩
theorem fl_S_52 : am_fl "WorksBudget$Search" 52 1 3 := ⟨_, F_S, 20, rfl, by decide, iw_S, (am_in1 (i := 119) rfl rfl), rfl⟩
theorem fl_S_59 : am_fl "WorksBudget$Search" 59 1 4 := ⟨_, F_S, 20, rfl, by decide, iw_S, (am_in1 (i := 120) rfl rfl), rfl⟩
theorem fl_S_62 : am_fl "WorksBudget$Search" 62 1 5 := ⟨_, F_S, 20, rfl, by decide, iw_S, (am_in1 (i := 121) rfl rfl), rfl⟩
theorem fl_S_74 : am_fl "WorksBudget$Search" 74 1 6 := ⟨_, F_S, 20, rfl, by decide, iw_S, (am_in1 (i := 122) rfl rfl), rfl⟩
theorem fl_S_9 : am_fl "WorksBudget$Search" 9 1 7 := ⟨_, F_S, 20, rfl, by decide, iw_S, (am_in1 (i := 123) rfl rfl), rfl⟩
theorem fl_S_17 : am_fl "WorksBudget$Search" 17 1 8 := ⟨_, F_S, 20, rfl, by decide, iw_S, (am_in1 (i := 124) rfl rfl), rfl⟩
theorem fl_S_20 : am_fl "WorksBudget$Search" 20 1 9 := ⟨_, F_S, 20, rfl, by decide, iw_S, (am_in1 (i := 125) rfl rfl), rfl⟩
theorem fl_S_76 : am_fl "WorksBudget$Search" 76 1 10 := ⟨_, F_S, 20, rfl, by decide, iw_S, (am_in1 (i := 126) rfl rfl), rfl⟩
theorem fl_S_79 : am_fl "WorksBudget$Search" 79 1 11 := ⟨_, F_S, 20, rfl, by decide, iw_S, (am_in1 (i := 127) rfl rfl), rfl⟩
theorem fl_S_82 : am_fl "WorksBudget$Search" 82 1 12 := ⟨_, F_S, 20, rfl, by decide, iw_S, (am_in1 (i := 128) rfl rfl), rfl⟩
theorem fl_S_85 : am_fl "WorksBudget$Search" 85 1 13 := ⟨_, F_S, 20, rfl, by decide, iw_S, (am_in1 (i := 129) rfl rfl), rfl⟩
theorem fl_S_23 : am_fl "WorksBudget$Search" 23 1 14 := ⟨_, F_S, 20, rfl, by decide, iw_S, (am_in1 (i := 130) rfl rfl), rfl⟩
theorem fl_S_26 : am_fl "WorksBudget$Search" 26 1 15 := ⟨_, F_S, 20, rfl, by decide, iw_S, (am_in1 (i := 131) rfl rfl), rfl⟩
theorem fl_S_47 : am_fl "WorksBudget$Search" 47 1 16 := ⟨_, F_S, 20, rfl, by decide, iw_S, (am_in1 (i := 132) rfl rfl), rfl⟩
theorem fl_S_145 : am_fl "WorksBudget$Search" 145 1 17 := ⟨_, F_S, 20, rfl, by decide, iw_S, (am_in1 (i := 133) rfl rfl), rfl⟩
theorem fl_S_148 : am_fl "WorksBudget$Search" 148 1 18 := ⟨_, F_S, 20, rfl, by decide, iw_S, (am_in1 (i := 134) rfl rfl), rfl⟩
theorem fl_S_163 : am_fl "WorksBudget$Search" 163 1 19 := ⟨_, F_S, 20, rfl, by decide, iw_S, (am_in1 (i := 135) rfl rfl), rfl⟩
theorem fl_N_7 : am_fl "WorksBudget$Bounds" 7 2 0 := ⟨_, F_N, 1, rfl, by decide, iw_N, (am_in1 (i := 183) rfl rfl), rfl⟩
theorem fl_P_15 : am_fl "WorksBudget$Policies" 15 3 0 := ⟨_, F_P, 2, rfl, by decide, iw_P, (am_in1 (i := 193) rfl rfl), rfl⟩
theorem fl_P_9 : am_fl "WorksBudget$Policies" 9 3 1 := ⟨_, F_P, 2, rfl, by decide, iw_P, (am_in1 (i := 194) rfl rfl), rfl⟩
theorem fl_B_23 : am_fl "WorksBudget" 23 4 0 := ⟨_, F_B, 11, rfl, by decide, iw_B, (am_in1 (i := 200) rfl rfl), rfl⟩
theorem fl_B_32 : am_fl "WorksBudget" 32 4 1 := ⟨_, F_B, 11, rfl, by decide, iw_B, (am_in1 (i := 201) rfl rfl), rfl⟩
theorem fl_B_39 : am_fl "WorksBudget" 39 4 2 := ⟨_, F_B, 11, rfl, by decide, iw_B, (am_in1 (i := 202) rfl rfl), rfl⟩
theorem fl_B_46 : am_fl "WorksBudget" 46 4 3 := ⟨_, F_B, 11, rfl, by decide, iw_B, (am_in1 (i := 203) rfl rfl), rfl⟩
theorem fl_B_50 : am_fl "WorksBudget" 50 4 4 := ⟨_, F_B, 11, rfl, by decide, iw_B, (am_in1 (i := 204) rfl rfl), rfl⟩
theorem fl_B_176 : am_fl "WorksBudget" 176 4 5 := ⟨_, F_B, 11, rfl, by decide, iw_B, (am_in1 (i := 205) rfl rfl), rfl⟩
theorem fl_B_137 : am_fl "WorksBudget" 137 4 6 := ⟨_, F_B, 11, rfl, by decide, iw_B, (am_in1 (i := 206) rfl rfl), rfl⟩
theorem fl_B_222 : am_fl "WorksBudget" 222 4 7 := ⟨_, F_B, 11, rfl, by decide, iw_B, (am_in1 (i := 207) rfl rfl), rfl⟩
theorem fl_B_227 : am_fl "WorksBudget" 227 4 8 := ⟨_, F_B, 11, rfl, by decide, iw_B, (am_in1 (i := 208) rfl rfl), rfl⟩
theorem fl_B_156 : am_fl "WorksBudget" 156 4 9 := ⟨_, F_B, 11, rfl, by decide, iw_B, (am_in1 (i := 209) rfl rfl), rfl⟩
theorem fl_B_165 : am_fl "WorksBudget" 165 4 10 := ⟨_, F_B, 11, rfl, by decide, iw_B, (am_in1 (i := 210) rfl rfl), rfl⟩
theorem fl_M_63 : am_fl "WorksBudgetModel" 63 5 0 := ⟨_, F_M, 23, rfl, by decide, iw_M, (am_in3 (i := 128) rfl rfl), rfl⟩
theorem fl_M_76 : am_fl "WorksBudgetModel" 76 5 1 := ⟨_, F_M, 23, rfl, by decide, iw_M, (am_in3 (i := 129) rfl rfl), rfl⟩
theorem fl_M_7 : am_fl "WorksBudgetModel" 7 5 2 := ⟨_, F_M, 23, rfl, by decide, iw_M, (am_in3 (i := 130) rfl rfl), rfl⟩
theorem fl_M_13 : am_fl "WorksBudgetModel" 13 5 3 := ⟨_, F_M, 23, rfl, by decide, iw_M, (am_in3 (i := 131) rfl rfl), rfl⟩
theorem fl_M_84 : am_fl "WorksBudgetModel" 84 5 4 := ⟨_, F_M, 23, rfl, by decide, iw_M, (am_in3 (i := 132) rfl rfl), rfl⟩
theorem fl_M_16 : am_fl "WorksBudgetModel" 16 5 5 := ⟨_, F_M, 23, rfl, by decide, iw_M, (am_in3 (i := 133) rfl rfl), rfl⟩
theorem fl_M_19 : am_fl "WorksBudgetModel" 19 5 6 := ⟨_, F_M, 23, rfl, by decide, iw_M, (am_in3 (i := 134) rfl rfl), rfl⟩
theorem fl_M_22 : am_fl "WorksBudgetModel" 22 5 7 := ⟨_, F_M, 23, rfl, by decide, iw_M, (am_in3 (i := 135) rfl rfl), rfl⟩
theorem fl_M_26 : am_fl "WorksBudgetModel" 26 5 8 := ⟨_, F_M, 23, rfl, by decide, iw_M, (am_in3 (i := 136) rfl rfl), rfl⟩
theorem fl_M_91 : am_fl "WorksBudgetModel" 91 5 9 := ⟨_, F_M, 23, rfl, by decide, iw_M, (am_in3 (i := 137) rfl rfl), rfl⟩
theorem fl_M_29 : am_fl "WorksBudgetModel" 29 5 10 := ⟨_, F_M, 23, rfl, by decide, iw_M, (am_in3 (i := 138) rfl rfl), rfl⟩
theorem fl_M_103 : am_fl "WorksBudgetModel" 103 5 11 := ⟨_, F_M, 23, rfl, by decide, iw_M, (am_in3 (i := 139) rfl rfl), rfl⟩
theorem fl_M_32 : am_fl "WorksBudgetModel" 32 5 12 := ⟨_, F_M, 23, rfl, by decide, iw_M, (am_in3 (i := 140) rfl rfl), rfl⟩
theorem fl_M_35 : am_fl "WorksBudgetModel" 35 5 13 := ⟨_, F_M, 23, rfl, by decide, iw_M, (am_in3 (i := 141) rfl rfl), rfl⟩
theorem fl_M_38 : am_fl "WorksBudgetModel" 38 5 14 := ⟨_, F_M, 23, rfl, by decide, iw_M, (am_in3 (i := 142) rfl rfl), rfl⟩
theorem fl_M_43 : am_fl "WorksBudgetModel" 43 5 15 := ⟨_, F_M, 23, rfl, by decide, iw_M, (am_in3 (i := 143) rfl rfl), rfl⟩
theorem fl_M_47 : am_fl "WorksBudgetModel" 47 5 16 := ⟨_, F_M, 23, rfl, by decide, iw_M, (am_in3 (i := 144) rfl rfl), rfl⟩
theorem fl_M_164 : am_fl "WorksBudgetModel" 164 5 17 := ⟨_, F_M, 23, rfl, by decide, iw_M, (am_in3 (i := 145) rfl rfl), rfl⟩
theorem fl_M_66 : am_fl "WorksBudgetModel" 66 5 18 := ⟨_, F_M, 23, rfl, by decide, iw_M, (am_in3 (i := 146) rfl rfl), rfl⟩
theorem fl_M_51 : am_fl "WorksBudgetModel" 51 5 19 := ⟨_, F_M, 23, rfl, by decide, iw_M, (am_in3 (i := 147) rfl rfl), rfl⟩
theorem fl_M_54 : am_fl "WorksBudgetModel" 54 5 20 := ⟨_, F_M, 23, rfl, by decide, iw_M, (am_in3 (i := 148) rfl rfl), rfl⟩
theorem fl_M_57 : am_fl "WorksBudgetModel" 57 5 21 := ⟨_, F_M, 23, rfl, by decide, iw_M, (am_in3 (i := 149) rfl rfl), rfl⟩
theorem fl_M_60 : am_fl "WorksBudgetModel" 60 5 22 := ⟨_, F_M, 23, rfl, by decide, iw_M, (am_in3 (i := 150) rfl rfl), rfl⟩
theorem fi_W_0 : am_fin 0 0 true := ⟨_, F_W, 15, rfl, rfl⟩
theorem fi_W_1 : am_fin 0 1 true := ⟨_, F_W, 15, rfl, rfl⟩
theorem fi_W_2 : am_fin 0 2 false := ⟨_, F_W, 15, rfl, rfl⟩
theorem fi_W_3 : am_fin 0 3 true := ⟨_, F_W, 15, rfl, rfl⟩
theorem fi_W_4 : am_fin 0 4 true := ⟨_, F_W, 15, rfl, rfl⟩
theorem fi_W_5 : am_fin 0 5 false := ⟨_, F_W, 15, rfl, rfl⟩
theorem fi_W_6 : am_fin 0 6 true := ⟨_, F_W, 15, rfl, rfl⟩
theorem fi_W_7 : am_fin 0 7 true := ⟨_, F_W, 15, rfl, rfl⟩
theorem fi_W_8 : am_fin 0 8 true := ⟨_, F_W, 15, rfl, rfl⟩
theorem fi_W_9 : am_fin 0 9 true := ⟨_, F_W, 15, rfl, rfl⟩
theorem fi_W_10 : am_fin 0 10 false := ⟨_, F_W, 15, rfl, rfl⟩
theorem fi_W_11 : am_fin 0 11 false := ⟨_, F_W, 15, rfl, rfl⟩
theorem fi_W_12 : am_fin 0 12 true := ⟨_, F_W, 15, rfl, rfl⟩
theorem fi_W_13 : am_fin 0 13 true := ⟨_, F_W, 15, rfl, rfl⟩
theorem fi_W_14 : am_fin 0 14 false := ⟨_, F_W, 15, rfl, rfl⟩
theorem fi_S_0 : am_fin 1 0 true := ⟨_, F_S, 20, rfl, rfl⟩
theorem fi_S_1 : am_fin 1 1 false := ⟨_, F_S, 20, rfl, rfl⟩
theorem fi_S_2 : am_fin 1 2 false := ⟨_, F_S, 20, rfl, rfl⟩
theorem fi_S_3 : am_fin 1 3 false := ⟨_, F_S, 20, rfl, rfl⟩
theorem fi_S_4 : am_fin 1 4 false := ⟨_, F_S, 20, rfl, rfl⟩
theorem fi_S_5 : am_fin 1 5 false := ⟨_, F_S, 20, rfl, rfl⟩
theorem fi_S_6 : am_fin 1 6 false := ⟨_, F_S, 20, rfl, rfl⟩
theorem fi_S_7 : am_fin 1 7 true := ⟨_, F_S, 20, rfl, rfl⟩
theorem fi_S_8 : am_fin 1 8 true := ⟨_, F_S, 20, rfl, rfl⟩
theorem fi_S_9 : am_fin 1 9 true := ⟨_, F_S, 20, rfl, rfl⟩
theorem fi_S_10 : am_fin 1 10 false := ⟨_, F_S, 20, rfl, rfl⟩
theorem fi_S_11 : am_fin 1 11 false := ⟨_, F_S, 20, rfl, rfl⟩
theorem fi_S_12 : am_fin 1 12 false := ⟨_, F_S, 20, rfl, rfl⟩
theorem fi_S_13 : am_fin 1 13 false := ⟨_, F_S, 20, rfl, rfl⟩
theorem fi_S_14 : am_fin 1 14 true := ⟨_, F_S, 20, rfl, rfl⟩
theorem fi_S_15 : am_fin 1 15 true := ⟨_, F_S, 20, rfl, rfl⟩
theorem fi_S_16 : am_fin 1 16 false := ⟨_, F_S, 20, rfl, rfl⟩
theorem fi_S_17 : am_fin 1 17 false := ⟨_, F_S, 20, rfl, rfl⟩
theorem fi_S_18 : am_fin 1 18 false := ⟨_, F_S, 20, rfl, rfl⟩
theorem fi_S_19 : am_fin 1 19 false := ⟨_, F_S, 20, rfl, rfl⟩
theorem fi_N_0 : am_fin 2 0 true := ⟨_, F_N, 1, rfl, rfl⟩
theorem fi_P_0 : am_fin 3 0 true := ⟨_, F_P, 2, rfl, rfl⟩
theorem fi_P_1 : am_fin 3 1 true := ⟨_, F_P, 2, rfl, rfl⟩
theorem fi_B_0 : am_fin 4 0 true := ⟨_, F_B, 11, rfl, rfl⟩
theorem fi_B_1 : am_fin 4 1 true := ⟨_, F_B, 11, rfl, rfl⟩
theorem fi_B_2 : am_fin 4 2 true := ⟨_, F_B, 11, rfl, rfl⟩
theorem fi_B_3 : am_fin 4 3 true := ⟨_, F_B, 11, rfl, rfl⟩
theorem fi_B_4 : am_fin 4 4 false := ⟨_, F_B, 11, rfl, rfl⟩
theorem fi_B_5 : am_fin 4 5 false := ⟨_, F_B, 11, rfl, rfl⟩
theorem fi_B_6 : am_fin 4 6 false := ⟨_, F_B, 11, rfl, rfl⟩
theorem fi_B_7 : am_fin 4 7 false := ⟨_, F_B, 11, rfl, rfl⟩
theorem fi_B_8 : am_fin 4 8 false := ⟨_, F_B, 11, rfl, rfl⟩
theorem fi_B_9 : am_fin 4 9 false := ⟨_, F_B, 11, rfl, rfl⟩
theorem fi_B_10 : am_fin 4 10 false := ⟨_, F_B, 11, rfl, rfl⟩
theorem fi_M_0 : am_fin 5 0 true := ⟨_, F_M, 23, rfl, rfl⟩
theorem fi_M_1 : am_fin 5 1 false := ⟨_, F_M, 23, rfl, rfl⟩
theorem fi_M_2 : am_fin 5 2 true := ⟨_, F_M, 23, rfl, rfl⟩
theorem fi_M_3 : am_fin 5 3 true := ⟨_, F_M, 23, rfl, rfl⟩
theorem fi_M_4 : am_fin 5 4 false := ⟨_, F_M, 23, rfl, rfl⟩
theorem fi_M_5 : am_fin 5 5 true := ⟨_, F_M, 23, rfl, rfl⟩
theorem fi_M_6 : am_fin 5 6 true := ⟨_, F_M, 23, rfl, rfl⟩
theorem fi_M_7 : am_fin 5 7 true := ⟨_, F_M, 23, rfl, rfl⟩
theorem fi_M_8 : am_fin 5 8 true := ⟨_, F_M, 23, rfl, rfl⟩
theorem fi_M_9 : am_fin 5 9 false := ⟨_, F_M, 23, rfl, rfl⟩
theorem fi_M_10 : am_fin 5 10 true := ⟨_, F_M, 23, rfl, rfl⟩
theorem fi_M_11 : am_fin 5 11 false := ⟨_, F_M, 23, rfl, rfl⟩
theorem fi_M_12 : am_fin 5 12 true := ⟨_, F_M, 23, rfl, rfl⟩
theorem fi_M_13 : am_fin 5 13 true := ⟨_, F_M, 23, rfl, rfl⟩
theorem fi_M_14 : am_fin 5 14 true := ⟨_, F_M, 23, rfl, rfl⟩
theorem fi_M_15 : am_fin 5 15 false := ⟨_, F_M, 23, rfl, rfl⟩
theorem fi_M_16 : am_fin 5 16 false := ⟨_, F_M, 23, rfl, rfl⟩
theorem fi_M_17 : am_fin 5 17 false := ⟨_, F_M, 23, rfl, rfl⟩
theorem fi_M_18 : am_fin 5 18 false := ⟨_, F_M, 23, rfl, rfl⟩
theorem fi_M_19 : am_fin 5 19 true := ⟨_, F_M, 23, rfl, rfl⟩
theorem fi_M_20 : am_fin 5 20 true := ⟨_, F_M, 23, rfl, rfl⟩
theorem fi_M_21 : am_fin 5 21 true := ⟨_, F_M, 23, rfl, rfl⟩
theorem fi_M_22 : am_fin 5 22 true := ⟨_, F_M, 23, rfl, rfl⟩
theorem ow_W : ∀ (C : String) (T : u_T) (N : Nat), am_cl[0]? = some (C, T, N) → C = "WorksBudget$Works" := fun C T N h => by cases h; rfl
theorem ow_S : ∀ (C : String) (T : u_T) (N : Nat), am_cl[1]? = some (C, T, N) → C = "WorksBudget$Search" := fun C T N h => by cases h; rfl
theorem ow_N : ∀ (C : String) (T : u_T) (N : Nat), am_cl[2]? = some (C, T, N) → C = "WorksBudget$Bounds" := fun C T N h => by cases h; rfl
theorem ow_P : ∀ (C : String) (T : u_T) (N : Nat), am_cl[3]? = some (C, T, N) → C = "WorksBudget$Policies" := fun C T N h => by cases h; rfl
theorem ow_B : ∀ (C : String) (T : u_T) (N : Nat), am_cl[4]? = some (C, T, N) → C = "WorksBudget" := fun C T N h => by cases h; rfl
theorem ow_M : ∀ (C : String) (T : u_T) (N : Nat), am_cl[5]? = some (C, T, N) → C = "WorksBudgetModel" := fun C T N h => by cases h; rfl
theorem fc_L_7 : am_fc "WorksBudgetLaw" 7 4 [.null, .null, .null, .null, .int 0, .int 0, .int 0, .int 0, .int 0, .int 0, .int 0] := ⟨_, F_B, 11, t_B, rfl, iw_B, by decide +kernel, (am_in1 (i := 10) rfl rfl), (am_in1 (i := 11) rfl rfl), (am_in1 (i := 1) rfl rfl), rfl⟩
theorem fc_B_9 : am_fc "WorksBudget" 9 0 [.int 0, .null, .int 0, .null, .null, .int 0, .null, .null, .null, .null, .int 0, .int 0, .null, .null, .long 0] := ⟨_, F_W, 15, t_W, rfl, iw_W, by decide +kernel, (am_in1 (i := 18) rfl rfl), (am_in1 (i := 19) rfl rfl), (am_in1 (i := 2) rfl rfl), rfl⟩
theorem fc_B_27 : am_fc "WorksBudget" 27 1 [.null, .long 0, .int 0, .int 0, .int 0, .int 0, .int 0, .null, .null, .null, .int 0, .int 0, .int 0, .long 0, .null, .null, .int 0, .int 0, .long 0, .int 0] := ⟨_, F_S, 20, t_S, rfl, iw_S, by decide +kernel, (am_in1 (i := 109) rfl rfl), (am_in1 (i := 110) rfl rfl), (am_in1 (i := 4) rfl rfl), rfl⟩
theorem fc_B_36 : am_fc "WorksBudget" 36 2 [.null] := ⟨_, F_N, 1, t_N, rfl, iw_N, by decide +kernel, (am_in1 (i := 177) rfl rfl), (am_in1 (i := 178) rfl rfl), (am_in1 (i := 5) rfl rfl), rfl⟩
theorem fc_B_43 : am_fc "WorksBudget" 43 3 [.null, .null] := ⟨_, F_P, 2, t_P, rfl, iw_P, by decide +kernel, (am_in1 (i := 187) rfl rfl), (am_in1 (i := 188) rfl rfl), (am_in1 (i := 6) rfl rfl), rfl⟩
theorem fc_L_18 : am_fc "WorksBudgetLaw" 18 5 [.int 0, .int 0, .null, .null, .int 0, .null, .null, .null, .null, .int 0, .null, .int 0, .null, .null, .null, .long 0, .int 0, .int 0, .int 0, .null, .null, .null, .null] := ⟨_, F_M, 23, t_M, rfl, iw_M, by decide +kernel, (am_in3 (i := 121) rfl rfl), (am_in3 (i := 122) rfl rfl), (am_in1 (i := 7) rfl rfl), rfl⟩
theorem st_L_15 : am_sI "WorksBudgetLaw" 15 m_B_init 1 := ⟨⟨(am_in1 (i := 14) rfl rfl), (am_in1 (i := 1) rfl rfl), ⟨by decide, by decide, by decide +kernel⟩, by decide⟩, Or.inl (am_in1 (i := 12) rfl rfl), ⟨rfl, (am_in1 (i := 13) rfl rfl)⟩, rfl⟩
theorem st_B_11 : am_sS "WorksBudget" 11 m_JM_min_III 2 := ⟨⟨(am_in1 (i := 22) rfl rfl), (am_in1 (i := 3) rfl rfl), ⟨by decide, by decide, by decide +kernel⟩, by decide⟩, Or.inl (am_in1 (i := 20) rfl rfl), (am_in1 (i := 21) rfl rfl)⟩
theorem st_B_17 : am_sS "WorksBudget" 17 m_JM_max_III 2 := ⟨⟨(am_in1 (i := 25) rfl rfl), (am_in1 (i := 3) rfl rfl), ⟨by decide, by decide, by decide +kernel⟩, by decide⟩, Or.inl (am_in1 (i := 23) rfl rfl), (am_in1 (i := 24) rfl rfl)⟩
theorem st_B_20 : am_sI "WorksBudget" 20 m_W_init 1 := ⟨⟨(am_in1 (i := 28) rfl rfl), (am_in1 (i := 2) rfl rfl), ⟨by decide, by decide, by decide +kernel⟩, by decide⟩, Or.inl (am_in1 (i := 26) rfl rfl), ⟨rfl, (am_in1 (i := 27) rfl rfl)⟩, rfl⟩
theorem st_B_29 : am_sI "WorksBudget" 29 m_S_init 1 := ⟨⟨(am_in1 (i := 113) rfl rfl), (am_in1 (i := 4) rfl rfl), ⟨by decide, by decide, by decide +kernel⟩, by decide⟩, Or.inl (am_in1 (i := 111) rfl rfl), ⟨rfl, (am_in1 (i := 112) rfl rfl)⟩, rfl⟩
theorem st_B_38 : am_sI "WorksBudget" 38 m_N_init 1 := ⟨⟨(am_in1 (i := 181) rfl rfl), (am_in1 (i := 5) rfl rfl), ⟨by decide, by decide, by decide +kernel⟩, by decide⟩, Or.inl (am_in1 (i := 179) rfl rfl), ⟨rfl, (am_in1 (i := 180) rfl rfl)⟩, rfl⟩
theorem st_B_45 : am_sI "WorksBudget" 45 m_P_init 1 := ⟨⟨(am_in1 (i := 191) rfl rfl), (am_in1 (i := 6) rfl rfl), ⟨by decide, by decide, by decide +kernel⟩, by decide⟩, Or.inl (am_in1 (i := 189) rfl rfl), ⟨rfl, (am_in1 (i := 190) rfl rfl)⟩, rfl⟩
theorem st_L_21 : am_sV "WorksBudgetLaw" 21 m_B_thing 1 4 := ⟨⟨(am_in1 (i := 237) rfl rfl), (am_in1 (i := 1) rfl rfl), ⟨by decide, by decide, by decide +kernel⟩, by decide⟩, Or.inl (am_in1 (i := 234) rfl rfl), ⟨(am_in1 (i := 235) rfl rfl), (am_in1 (i := 236) rfl rfl)⟩, F_B, 11, rfl⟩
theorem st_B_57 : am_sV "WorksBudget" 57 m_B_forget 0 4 := ⟨⟨(am_in2 (i := 1) rfl rfl), (am_in1 (i := 1) rfl rfl), ⟨by decide, by decide, by decide +kernel⟩, by decide⟩, Or.inl (am_in1 (i := 238) rfl rfl), ⟨(am_in2 (i := 0) rfl rfl), (am_in0 (i := 0) rfl rfl)⟩, F_B, 11, rfl⟩
theorem st_B_60 : am_sV "WorksBudget" 60 m_W_addThing 1 0 := ⟨⟨(am_in2 (i := 5) rfl rfl), (am_in1 (i := 2) rfl rfl), ⟨by decide, by decide, by decide +kernel⟩, by decide⟩, Or.inl (am_in2 (i := 2) rfl rfl), ⟨(am_in2 (i := 3) rfl rfl), (am_in2 (i := 4) rfl rfl)⟩, F_W, 15, rfl⟩
theorem st_L_28 : am_sV "WorksBudgetLaw" 28 m_B_choice 4 4 := ⟨⟨(am_in2 (i := 9) rfl rfl), (am_in1 (i := 1) rfl rfl), ⟨by decide, by decide, by decide +kernel⟩, by decide⟩, Or.inl (am_in2 (i := 6) rfl rfl), ⟨(am_in2 (i := 7) rfl rfl), (am_in2 (i := 8) rfl rfl)⟩, F_B, 11, rfl⟩
theorem st_B_64 : am_sV "WorksBudget" 64 m_W_isThing 1 0 := ⟨⟨(am_in2 (i := 13) rfl rfl), (am_in1 (i := 2) rfl rfl), ⟨by decide, by decide, by decide +kernel⟩, by decide⟩, Or.inl (am_in2 (i := 10) rfl rfl), ⟨(am_in2 (i := 11) rfl rfl), (am_in2 (i := 12) rfl rfl)⟩, F_W, 15, rfl⟩
theorem st_B_68 : am_sV "WorksBudget" 68 m_W_isYear 1 0 := ⟨⟨(am_in2 (i := 17) rfl rfl), (am_in1 (i := 2) rfl rfl), ⟨by decide, by decide, by decide +kernel⟩, by decide⟩, Or.inl (am_in2 (i := 14) rfl rfl), ⟨(am_in2 (i := 15) rfl rfl), (am_in2 (i := 16) rfl rfl)⟩, F_W, 15, rfl⟩
theorem st_B_76 : am_sS "WorksBudget" 76 m_B_isWithin 2 := ⟨⟨(am_in2 (i := 21) rfl rfl), (am_in1 (i := 1) rfl rfl), ⟨by decide, by decide, by decide +kernel⟩, by decide⟩, Or.inl (am_in2 (i := 19) rfl rfl), (am_in2 (i := 20) rfl rfl)⟩
theorem st_B_80 : am_sV "WorksBudget" 80 m_W_addChoice 4 0 := ⟨⟨(am_in2 (i := 25) rfl rfl), (am_in1 (i := 2) rfl rfl), ⟨by decide, by decide, by decide +kernel⟩, by decide⟩, Or.inl (am_in2 (i := 22) rfl rfl), ⟨(am_in2 (i := 23) rfl rfl), (am_in2 (i := 24) rfl rfl)⟩, F_W, 15, rfl⟩
theorem st_L_33 : am_sV "WorksBudgetLaw" 33 m_B_must 1 4 := ⟨⟨(am_in2 (i := 29) rfl rfl), (am_in1 (i := 1) rfl rfl), ⟨by decide, by decide, by decide +kernel⟩, by decide⟩, Or.inl (am_in2 (i := 26) rfl rfl), ⟨(am_in2 (i := 27) rfl rfl), (am_in2 (i := 28) rfl rfl)⟩, F_B, 11, rfl⟩
theorem st_B_84 : am_sV "WorksBudget" 84 m_W_isChoice 1 0 := ⟨⟨(am_in2 (i := 33) rfl rfl), (am_in1 (i := 2) rfl rfl), ⟨by decide, by decide, by decide +kernel⟩, by decide⟩, Or.inl (am_in2 (i := 30) rfl rfl), ⟨(am_in2 (i := 31) rfl rfl), (am_in2 (i := 32) rfl rfl)⟩, F_W, 15, rfl⟩
theorem st_B_90 : am_sS "WorksBudget" 90 m_B_isIn 2 := ⟨⟨(am_in2 (i := 36) rfl rfl), (am_in1 (i := 1) rfl rfl), ⟨by decide, by decide, by decide +kernel⟩, by decide⟩, Or.inl (am_in2 (i := 34) rfl rfl), (am_in2 (i := 35) rfl rfl)⟩
theorem st_L_38 : am_sV "WorksBudgetLaw" 38 m_B_budget 2 4 := ⟨⟨(am_in2 (i := 40) rfl rfl), (am_in1 (i := 1) rfl rfl), ⟨by decide, by decide, by decide +kernel⟩, by decide⟩, Or.inl (am_in2 (i := 37) rfl rfl), ⟨(am_in2 (i := 38) rfl rfl), (am_in2 (i := 39) rfl rfl)⟩, F_B, 11, rfl⟩
theorem st_L_43 : am_sV "WorksBudgetLaw" 43 m_B_join 3 4 := ⟨⟨(am_in2 (i := 45) rfl rfl), (am_in1 (i := 1) rfl rfl), ⟨by decide, by decide, by decide +kernel⟩, by decide⟩, Or.inl (am_in2 (i := 42) rfl rfl), ⟨(am_in2 (i := 43) rfl rfl), (am_in2 (i := 44) rfl rfl)⟩, F_B, 11, rfl⟩
theorem st_B_100 : am_sV "WorksBudget" 100 m_W_canJoin 2 0 := ⟨⟨(am_in2 (i := 49) rfl rfl), (am_in1 (i := 2) rfl rfl), ⟨by decide, by decide, by decide +kernel⟩, by decide⟩, Or.inl (am_in2 (i := 46) rfl rfl), ⟨(am_in2 (i := 47) rfl rfl), (am_in2 (i := 48) rfl rfl)⟩, F_W, 15, rfl⟩
theorem st_W_58 : am_sS "WorksBudget$Works" 58 m_B_isIn 2 := ⟨⟨(am_in2 (i := 36) rfl rfl), (am_in1 (i := 1) rfl rfl), ⟨by decide, by decide, by decide +kernel⟩, by decide⟩, Or.inr ⟨"WorksBudget", by decide +kernel⟩, (am_in2 (i := 35) rfl rfl)⟩
theorem st_B_106 : am_sV "WorksBudget" 106 m_W_addJoin 3 0 := ⟨⟨(am_in2 (i := 54) rfl rfl), (am_in1 (i := 2) rfl rfl), ⟨by decide, by decide, by decide +kernel⟩, by decide⟩, Or.inl (am_in2 (i := 51) rfl rfl), ⟨(am_in2 (i := 52) rfl rfl), (am_in2 (i := 53) rfl rfl)⟩, F_W, 15, rfl⟩
theorem st_L_48 : am_sV "WorksBudgetLaw" 48 m_B_district 2 4 := ⟨⟨(am_in2 (i := 58) rfl rfl), (am_in1 (i := 1) rfl rfl), ⟨by decide, by decide, by decide +kernel⟩, by decide⟩, Or.inl (am_in2 (i := 55) rfl rfl), ⟨(am_in2 (i := 56) rfl rfl), (am_in2 (i := 57) rfl rfl)⟩, F_B, 11, rfl⟩
theorem st_B_110 : am_sS "WorksBudget" 110 m_B_isDistrict 1 := ⟨⟨(am_in2 (i := 61) rfl rfl), (am_in1 (i := 1) rfl rfl), ⟨by decide, by decide, by decide +kernel⟩, by decide⟩, Or.inl (am_in2 (i := 59) rfl rfl), (am_in2 (i := 60) rfl rfl)⟩
theorem st_L_53 : am_sV "WorksBudgetLaw" 53 m_B_fair 1 4 := ⟨⟨(am_in2 (i := 65) rfl rfl), (am_in1 (i := 1) rfl rfl), ⟨by decide, by decide, by decide +kernel⟩, by decide⟩, Or.inl (am_in2 (i := 62) rfl rfl), ⟨(am_in2 (i := 63) rfl rfl), (am_in2 (i := 64) rfl rfl)⟩, F_B, 11, rfl⟩
theorem st_L_58 : am_sV "WorksBudgetLaw" 58 m_B_run 1 4 := ⟨⟨(am_in2 (i := 71) rfl rfl), (am_in1 (i := 1) rfl rfl), ⟨by decide, by decide, by decide +kernel⟩, by decide⟩, Or.inl (am_in2 (i := 68) rfl rfl), ⟨(am_in2 (i := 69) rfl rfl), (am_in2 (i := 70) rfl rfl)⟩, F_B, 11, rfl⟩
theorem st_B_125 : am_sS "WorksBudget" 125 m_B_isNodes 1 := ⟨⟨(am_in2 (i := 74) rfl rfl), (am_in1 (i := 1) rfl rfl), ⟨by decide, by decide, by decide +kernel⟩, by decide⟩, Or.inl (am_in2 (i := 72) rfl rfl), (am_in2 (i := 73) rfl rfl)⟩
theorem st_B_129 : am_sV "WorksBudget" 129 m_S_bestPlan 1 1 := ⟨⟨(am_in2 (i := 79) rfl rfl), (am_in1 (i := 4) rfl rfl), ⟨by decide, by decide, by decide +kernel⟩, by decide⟩, Or.inl (am_in2 (i := 76) rfl rfl), ⟨(am_in2 (i := 77) rfl rfl), (am_in2 (i := 78) rfl rfl)⟩, F_S, 20, rfl⟩
theorem st_S_39 : am_sV "WorksBudget$Search" 39 m_S_prepare 2 1 := ⟨⟨(am_in2 (i := 83) rfl rfl), (am_in1 (i := 4) rfl rfl), ⟨by decide, by decide, by decide +kernel⟩, by decide⟩, Or.inl (am_in2 (i := 80) rfl rfl), ⟨(am_in2 (i := 82) rfl rfl), (am_in0 (i := 1) rfl rfl)⟩, F_S, 20, rfl⟩
theorem st_S_71 : am_sV "WorksBudget$Search" 71 m_W_usedDistricts 0 0 := ⟨⟨(am_in2 (i := 87) rfl rfl), (am_in1 (i := 2) rfl rfl), ⟨by decide, by decide, by decide +kernel⟩, by decide⟩, Or.inl (am_in2 (i := 84) rfl rfl), ⟨(am_in2 (i := 85) rfl rfl), (am_in2 (i := 86) rfl rfl)⟩, F_W, 15, rfl⟩
theorem st_S_91 : am_sV "WorksBudget$Search" 91 m_S_prepareRests 0 1 := ⟨⟨(am_in2 (i := 91) rfl rfl), (am_in1 (i := 4) rfl rfl), ⟨by decide, by decide, by decide +kernel⟩, by decide⟩, Or.inl (am_in2 (i := 88) rfl rfl), ⟨(am_in2 (i := 90) rfl rfl), (am_in0 (i := 2) rfl rfl)⟩, F_S, 20, rfl⟩
theorem st_S_104 : am_sV "WorksBudget$Search" 104 m_W_savesWith 2 0 := ⟨⟨(am_in2 (i := 95) rfl rfl), (am_in1 (i := 2) rfl rfl), ⟨by decide, by decide, by decide +kernel⟩, by decide⟩, Or.inl (am_in2 (i := 92) rfl rfl), ⟨(am_in2 (i := 93) rfl rfl), (am_in2 (i := 94) rfl rfl)⟩, F_W, 15, rfl⟩
theorem st_S_43 : am_sV "WorksBudget$Search" 43 m_S_lookFrom 2 1 := ⟨⟨(am_in2 (i := 99) rfl rfl), (am_in1 (i := 4) rfl rfl), ⟨by decide, by decide, by decide +kernel⟩, by decide⟩, Or.inl (am_in2 (i := 96) rfl rfl), ⟨(am_in2 (i := 98) rfl rfl), (am_in0 (i := 3) rfl rfl)⟩, F_S, 20, rfl⟩
theorem st_S_108 : am_sV "WorksBudget$Search" 108 m_S_isHopeless 1 1 := ⟨⟨(am_in2 (i := 103) rfl rfl), (am_in1 (i := 4) rfl rfl), ⟨by decide, by decide, by decide +kernel⟩, by decide⟩, Or.inl (am_in2 (i := 100) rfl rfl), ⟨(am_in2 (i := 102) rfl rfl), (am_in0 (i := 4) rfl rfl)⟩, F_S, 20, rfl⟩
theorem st_S_142 : am_sV "WorksBudget$Search" 142 m_S_countOfChanges 1 1 := ⟨⟨(am_in2 (i := 107) rfl rfl), (am_in1 (i := 4) rfl rfl), ⟨by decide, by decide, by decide +kernel⟩, by decide⟩, Or.inl (am_in2 (i := 104) rfl rfl), ⟨(am_in2 (i := 106) rfl rfl), (am_in0 (i := 5) rfl rfl)⟩, F_S, 20, rfl⟩
theorem st_S_151 : am_sS "WorksBudget$Search" 151 m_JI_bitCount 1 := ⟨⟨(am_in2 (i := 110) rfl rfl), (am_in1 (i := 8) rfl rfl), ⟨by decide, by decide, by decide +kernel⟩, by decide⟩, Or.inl (am_in2 (i := 108) rfl rfl), (am_in2 (i := 109) rfl rfl)⟩
theorem st_S_112 : am_sV "WorksBudget$Search" 112 m_S_weigh 0 1 := ⟨⟨(am_in2 (i := 117) rfl rfl), (am_in1 (i := 4) rfl rfl), ⟨by decide, by decide, by decide +kernel⟩, by decide⟩, Or.inl (am_in2 (i := 114) rfl rfl), ⟨(am_in2 (i := 116) rfl rfl), (am_in0 (i := 6) rfl rfl)⟩, F_S, 20, rfl⟩
theorem st_S_156 : am_sV "WorksBudget$Search" 156 m_S_isFair 0 1 := ⟨⟨(am_in2 (i := 121) rfl rfl), (am_in1 (i := 4) rfl rfl), ⟨by decide, by decide, by decide +kernel⟩, by decide⟩, Or.inl (am_in2 (i := 118) rfl rfl), ⟨(am_in2 (i := 120) rfl rfl), (am_in0 (i := 7) rfl rfl)⟩, F_S, 20, rfl⟩
theorem st_S_124 : am_sS "WorksBudget$Search" 124 m_B_isIn 2 := ⟨⟨(am_in2 (i := 36) rfl rfl), (am_in1 (i := 1) rfl rfl), ⟨by decide, by decide, by decide +kernel⟩, by decide⟩, Or.inr ⟨"WorksBudget", by decide +kernel⟩, (am_in2 (i := 35) rfl rfl)⟩
theorem st_S_160 : am_sV "WorksBudget$Search" 160 m_S_isBetter 1 1 := ⟨⟨(am_in2 (i := 127) rfl rfl), (am_in1 (i := 4) rfl rfl), ⟨by decide, by decide, by decide +kernel⟩, by decide⟩, Or.inl (am_in2 (i := 124) rfl rfl), ⟨(am_in2 (i := 126) rfl rfl), (am_in0 (i := 8) rfl rfl)⟩, F_S, 20, rfl⟩
theorem st_S_115 : am_sV "WorksBudget$Search" 115 m_S_lookWith 2 1 := ⟨⟨(am_in2 (i := 131) rfl rfl), (am_in1 (i := 4) rfl rfl), ⟨by decide, by decide, by decide +kernel⟩, by decide⟩, Or.inl (am_in2 (i := 128) rfl rfl), ⟨(am_in2 (i := 130) rfl rfl), (am_in0 (i := 9) rfl rfl)⟩, F_S, 20, rfl⟩
theorem st_S_128 : am_sV "WorksBudget$Search" 128 m_S_pick 2 1 := ⟨⟨(am_in2 (i := 135) rfl rfl), (am_in1 (i := 4) rfl rfl), ⟨by decide, by decide, by decide +kernel⟩, by decide⟩, Or.inl (am_in2 (i := 132) rfl rfl), ⟨(am_in2 (i := 134) rfl rfl), (am_in0 (i := 10) rfl rfl)⟩, F_S, 20, rfl⟩
theorem st_S_138 : am_sV "WorksBudget$Search" 138 m_W_districtOfChoice 1 0 := ⟨⟨(am_in2 (i := 139) rfl rfl), (am_in1 (i := 2) rfl rfl), ⟨by decide, by decide, by decide +kernel⟩, by decide⟩, Or.inl (am_in2 (i := 136) rfl rfl), ⟨(am_in2 (i := 137) rfl rfl), (am_in2 (i := 138) rfl rfl)⟩, F_W, 15, rfl⟩
theorem st_S_132 : am_sV "WorksBudget$Search" 132 m_S_isOverspent 1 1 := ⟨⟨(am_in2 (i := 143) rfl rfl), (am_in1 (i := 4) rfl rfl), ⟨by decide, by decide, by decide +kernel⟩, by decide⟩, Or.inl (am_in2 (i := 140) rfl rfl), ⟨(am_in2 (i := 142) rfl rfl), (am_in0 (i := 11) rfl rfl)⟩, F_S, 20, rfl⟩
theorem st_S_118 : am_sV "WorksBudget$Search" 118 m_S_lookWithout 2 1 := ⟨⟨(am_in2 (i := 147) rfl rfl), (am_in1 (i := 4) rfl rfl), ⟨by decide, by decide, by decide +kernel⟩, by decide⟩, Or.inl (am_in2 (i := 144) rfl rfl), ⟨(am_in2 (i := 146) rfl rfl), (am_in0 (i := 12) rfl rfl)⟩, F_S, 20, rfl⟩
theorem st_B_133 : am_sV "WorksBudget" 133 m_W_countOfSets 0 0 := ⟨⟨(am_in2 (i := 151) rfl rfl), (am_in1 (i := 2) rfl rfl), ⟨by decide, by decide, by decide +kernel⟩, by decide⟩, Or.inl (am_in2 (i := 148) rfl rfl), ⟨(am_in2 (i := 149) rfl rfl), (am_in2 (i := 150) rfl rfl)⟩, F_W, 15, rfl⟩
theorem st_L_63 : am_sV "WorksBudgetLaw" 63 m_B_chosen 1 4 := ⟨⟨(am_in2 (i := 155) rfl rfl), (am_in1 (i := 1) rfl rfl), ⟨by decide, by decide, by decide +kernel⟩, by decide⟩, Or.inl (am_in2 (i := 152) rfl rfl), ⟨(am_in2 (i := 153) rfl rfl), (am_in2 (i := 154) rfl rfl)⟩, F_B, 11, rfl⟩
theorem st_B_141 : am_sV "WorksBudget" 141 m_B_planOrNothing 0 4 := ⟨⟨(am_in2 (i := 159) rfl rfl), (am_in1 (i := 1) rfl rfl), ⟨by decide, by decide, by decide +kernel⟩, by decide⟩, Or.inl (am_in2 (i := 156) rfl rfl), ⟨(am_in2 (i := 158) rfl rfl), (am_in0 (i := 13) rfl rfl)⟩, F_B, 11, rfl⟩
theorem st_L_67 : am_sV "WorksBudgetLaw" 67 m_B_worth 0 4 := ⟨⟨(am_in2 (i := 163) rfl rfl), (am_in1 (i := 1) rfl rfl), ⟨by decide, by decide, by decide +kernel⟩, by decide⟩, Or.inl (am_in2 (i := 160) rfl rfl), ⟨(am_in2 (i := 161) rfl rfl), (am_in2 (i := 162) rfl rfl)⟩, F_B, 11, rfl⟩
theorem st_B_144 : am_sV "WorksBudget" 144 m_W_worthOfPlan 1 0 := ⟨⟨(am_in2 (i := 167) rfl rfl), (am_in1 (i := 2) rfl rfl), ⟨by decide, by decide, by decide +kernel⟩, by decide⟩, Or.inl (am_in2 (i := 164) rfl rfl), ⟨(am_in2 (i := 165) rfl rfl), (am_in2 (i := 166) rfl rfl)⟩, F_W, 15, rfl⟩
theorem st_L_72 : am_sV "WorksBudgetLaw" 72 m_B_bound 1 4 := ⟨⟨(am_in2 (i := 171) rfl rfl), (am_in1 (i := 1) rfl rfl), ⟨by decide, by decide, by decide +kernel⟩, by decide⟩, Or.inl (am_in2 (i := 168) rfl rfl), ⟨(am_in2 (i := 169) rfl rfl), (am_in2 (i := 170) rfl rfl)⟩, F_B, 11, rfl⟩
theorem st_B_148 : am_sV "WorksBudget" 148 m_N_byThings 0 2 := ⟨⟨(am_in2 (i := 175) rfl rfl), (am_in1 (i := 5) rfl rfl), ⟨by decide, by decide, by decide +kernel⟩, by decide⟩, Or.inl (am_in2 (i := 172) rfl rfl), ⟨(am_in2 (i := 173) rfl rfl), (am_in2 (i := 174) rfl rfl)⟩, F_N, 1, rfl⟩
theorem st_N_19 : am_sV "WorksBudget$Bounds" 19 m_W_mostWorth 1 0 := ⟨⟨(am_in2 (i := 179) rfl rfl), (am_in1 (i := 2) rfl rfl), ⟨by decide, by decide, by decide +kernel⟩, by decide⟩, Or.inl (am_in2 (i := 176) rfl rfl), ⟨(am_in2 (i := 177) rfl rfl), (am_in2 (i := 178) rfl rfl)⟩, F_W, 15, rfl⟩
theorem st_W_85 : am_sV "WorksBudget$Works" 85 m_W_mostWorthBy 2 0 := ⟨⟨(am_in2 (i := 183) rfl rfl), (am_in1 (i := 2) rfl rfl), ⟨by decide, by decide, by decide +kernel⟩, by decide⟩, Or.inl (am_in2 (i := 180) rfl rfl), ⟨(am_in2 (i := 181) rfl rfl), (am_in2 (i := 182) rfl rfl)⟩, F_W, 15, rfl⟩
theorem st_W_69 : am_sS "WorksBudget$Works" 69 m_JM_max_JJJ 2 := ⟨⟨(am_in2 (i := 186) rfl rfl), (am_in1 (i := 3) rfl rfl), ⟨by decide, by decide, by decide +kernel⟩, by decide⟩, Or.inl (am_in2 (i := 184) rfl rfl), (am_in2 (i := 185) rfl rfl)⟩
theorem st_B_152 : am_sV "WorksBudget" 152 m_N_byPrices 1 2 := ⟨⟨(am_in2 (i := 190) rfl rfl), (am_in1 (i := 5) rfl rfl), ⟨by decide, by decide, by decide +kernel⟩, by decide⟩, Or.inl (am_in2 (i := 187) rfl rfl), ⟨(am_in2 (i := 188) rfl rfl), (am_in2 (i := 189) rfl rfl)⟩, F_N, 1, rfl⟩
theorem st_N_30 : am_sV "WorksBudget$Bounds" 30 m_N_byPrice 3 2 := ⟨⟨(am_in2 (i := 194) rfl rfl), (am_in1 (i := 5) rfl rfl), ⟨by decide, by decide, by decide +kernel⟩, by decide⟩, Or.inl (am_in2 (i := 191) rfl rfl), ⟨(am_in2 (i := 193) rfl rfl), (am_in0 (i := 14) rfl rfl)⟩, F_N, 1, rfl⟩
theorem st_N_49 : am_sV "WorksBudget$Bounds" 49 m_N_mostPartsOf 3 2 := ⟨⟨(am_in2 (i := 198) rfl rfl), (am_in1 (i := 5) rfl rfl), ⟨by decide, by decide, by decide +kernel⟩, by decide⟩, Or.inl (am_in2 (i := 195) rfl rfl), ⟨(am_in2 (i := 197) rfl rfl), (am_in0 (i := 15) rfl rfl)⟩, F_N, 1, rfl⟩
theorem st_N_57 : am_sV "WorksBudget$Bounds" 57 m_W_savesOfAllJoins 1 0 := ⟨⟨(am_in2 (i := 202) rfl rfl), (am_in1 (i := 2) rfl rfl), ⟨by decide, by decide, by decide +kernel⟩, by decide⟩, Or.inl (am_in2 (i := 199) rfl rfl), ⟨(am_in2 (i := 200) rfl rfl), (am_in2 (i := 201) rfl rfl)⟩, F_W, 15, rfl⟩
theorem st_W_65 : am_sV "WorksBudget$Works" 65 m_W_savesWith 2 0 := ⟨⟨(am_in2 (i := 95) rfl rfl), (am_in1 (i := 2) rfl rfl), ⟨by decide, by decide, by decide +kernel⟩, by decide⟩, Or.inl (am_in2 (i := 203) rfl rfl), ⟨(am_in2 (i := 93) rfl rfl), (am_in2 (i := 94) rfl rfl)⟩, F_W, 15, rfl⟩
theorem st_N_60 : am_sS "WorksBudget$Bounds" 60 m_JM_max_JJJ 2 := ⟨⟨(am_in2 (i := 186) rfl rfl), (am_in1 (i := 3) rfl rfl), ⟨by decide, by decide, by decide +kernel⟩, by decide⟩, Or.inl (am_in2 (i := 204) rfl rfl), (am_in2 (i := 185) rfl rfl)⟩
theorem st_N_43 : am_sS "WorksBudget$Bounds" 43 m_JM_min_JJJ 2 := ⟨⟨(am_in2 (i := 207) rfl rfl), (am_in1 (i := 3) rfl rfl), ⟨by decide, by decide, by decide +kernel⟩, by decide⟩, Or.inl (am_in2 (i := 205) rfl rfl), (am_in2 (i := 206) rfl rfl)⟩
theorem st_L_77 : am_sV "WorksBudgetLaw" 77 m_B_clash 1 4 := ⟨⟨(am_in2 (i := 211) rfl rfl), (am_in1 (i := 1) rfl rfl), ⟨by decide, by decide, by decide +kernel⟩, by decide⟩, Or.inl (am_in2 (i := 208) rfl rfl), ⟨(am_in2 (i := 209) rfl rfl), (am_in2 (i := 210) rfl rfl)⟩, F_B, 11, rfl⟩
theorem st_B_159 : am_sV "WorksBudget" 159 m_S_someHolds 1 1 := ⟨⟨(am_in2 (i := 215) rfl rfl), (am_in1 (i := 4) rfl rfl), ⟨by decide, by decide, by decide +kernel⟩, by decide⟩, Or.inl (am_in2 (i := 212) rfl rfl), ⟨(am_in2 (i := 213) rfl rfl), (am_in2 (i := 214) rfl rfl)⟩, F_S, 20, rfl⟩
theorem st_B_162 : am_sV "WorksBudget" 162 m_B_clashingMusts 0 4 := ⟨⟨(am_in2 (i := 220) rfl rfl), (am_in1 (i := 1) rfl rfl), ⟨by decide, by decide, by decide +kernel⟩, by decide⟩, Or.inl (am_in2 (i := 217) rfl rfl), ⟨(am_in2 (i := 219) rfl rfl), (am_in0 (i := 16) rfl rfl)⟩, F_B, 11, rfl⟩
theorem st_B_168 : am_sS "WorksBudget" 168 m_B_memberOf 2 := ⟨⟨(am_in2 (i := 223) rfl rfl), (am_in1 (i := 1) rfl rfl), ⟨by decide, by decide, by decide +kernel⟩, by decide⟩, Or.inl (am_in2 (i := 221) rfl rfl), (am_in2 (i := 222) rfl rfl)⟩
theorem st_L_81 : am_sV "WorksBudgetLaw" 81 m_B_proved 0 4 := ⟨⟨(am_in2 (i := 227) rfl rfl), (am_in1 (i := 1) rfl rfl), ⟨by decide, by decide, by decide +kernel⟩, by decide⟩, Or.inl (am_in2 (i := 224) rfl rfl), ⟨(am_in2 (i := 225) rfl rfl), (am_in2 (i := 226) rfl rfl)⟩, F_B, 11, rfl⟩
theorem st_L_86 : am_sV "WorksBudgetLaw" 86 m_B_price 2 4 := ⟨⟨(am_in2 (i := 231) rfl rfl), (am_in1 (i := 1) rfl rfl), ⟨by decide, by decide, by decide +kernel⟩, by decide⟩, Or.inl (am_in2 (i := 228) rfl rfl), ⟨(am_in2 (i := 229) rfl rfl), (am_in2 (i := 230) rfl rfl)⟩, F_B, 11, rfl⟩
theorem st_B_171 : am_sV "WorksBudget" 171 m_B_gainOfBest 1 4 := ⟨⟨(am_in2 (i := 235) rfl rfl), (am_in1 (i := 1) rfl rfl), ⟨by decide, by decide, by decide +kernel⟩, by decide⟩, Or.inl (am_in2 (i := 232) rfl rfl), ⟨(am_in2 (i := 234) rfl rfl), (am_in0 (i := 17) rfl rfl)⟩, F_B, 11, rfl⟩
theorem st_B_230 : am_sV "WorksBudget" 230 m_S_bestPlanWithMore 2 1 := ⟨⟨(am_in3 (i := 1) rfl rfl), (am_in1 (i := 4) rfl rfl), ⟨by decide, by decide, by decide +kernel⟩, by decide⟩, Or.inl (am_in2 (i := 238) rfl rfl), ⟨(am_in2 (i := 239) rfl rfl), (am_in3 (i := 0) rfl rfl)⟩, F_S, 20, rfl⟩
theorem st_L_91 : am_sV "WorksBudgetLaw" 91 m_B_old 2 4 := ⟨⟨(am_in3 (i := 5) rfl rfl), (am_in1 (i := 1) rfl rfl), ⟨by decide, by decide, by decide +kernel⟩, by decide⟩, Or.inl (am_in3 (i := 2) rfl rfl), ⟨(am_in3 (i := 3) rfl rfl), (am_in3 (i := 4) rfl rfl)⟩, F_B, 11, rfl⟩
theorem st_L_96 : am_sV "WorksBudgetLaw" 96 m_B_changes 1 4 := ⟨⟨(am_in3 (i := 9) rfl rfl), (am_in1 (i := 1) rfl rfl), ⟨by decide, by decide, by decide +kernel⟩, by decide⟩, Or.inl (am_in3 (i := 6) rfl rfl), ⟨(am_in3 (i := 7) rfl rfl), (am_in3 (i := 8) rfl rfl)⟩, F_B, 11, rfl⟩
theorem st_B_179 : am_sV "WorksBudget" 179 m_S_nearestPlan 2 1 := ⟨⟨(am_in3 (i := 13) rfl rfl), (am_in1 (i := 4) rfl rfl), ⟨by decide, by decide, by decide +kernel⟩, by decide⟩, Or.inl (am_in3 (i := 10) rfl rfl), ⟨(am_in3 (i := 11) rfl rfl), (am_in3 (i := 12) rfl rfl)⟩, F_S, 20, rfl⟩
theorem st_S_55 : am_sV "WorksBudget$Search" 55 m_W_countOfSets 0 0 := ⟨⟨(am_in2 (i := 151) rfl rfl), (am_in1 (i := 2) rfl rfl), ⟨by decide, by decide, by decide +kernel⟩, by decide⟩, Or.inl (am_in3 (i := 14) rfl rfl), ⟨(am_in2 (i := 149) rfl rfl), (am_in2 (i := 150) rfl rfl)⟩, F_W, 15, rfl⟩
theorem st_B_183 : am_sS "WorksBudget" 183 m_JI_bitCount 1 := ⟨⟨(am_in2 (i := 110) rfl rfl), (am_in1 (i := 8) rfl rfl), ⟨by decide, by decide, by decide +kernel⟩, by decide⟩, Or.inl (am_in3 (i := 15) rfl rfl), (am_in2 (i := 109) rfl rfl)⟩
theorem st_L_100 : am_sV "WorksBudgetLaw" 100 m_B_changed 1 4 := ⟨⟨(am_in3 (i := 19) rfl rfl), (am_in1 (i := 1) rfl rfl), ⟨by decide, by decide, by decide +kernel⟩, by decide⟩, Or.inl (am_in3 (i := 16) rfl rfl), ⟨(am_in3 (i := 17) rfl rfl), (am_in3 (i := 18) rfl rfl)⟩, F_B, 11, rfl⟩
theorem st_L_104 : am_sV "WorksBudgetLaw" 104 m_B_backlog 1 4 := ⟨⟨(am_in3 (i := 23) rfl rfl), (am_in1 (i := 1) rfl rfl), ⟨by decide, by decide, by decide +kernel⟩, by decide⟩, Or.inl (am_in3 (i := 20) rfl rfl), ⟨(am_in3 (i := 21) rfl rfl), (am_in3 (i := 22) rfl rfl)⟩, F_B, 11, rfl⟩
theorem st_B_188 : am_sV "WorksBudget" 188 m_W_isDoneBy 3 0 := ⟨⟨(am_in3 (i := 27) rfl rfl), (am_in1 (i := 2) rfl rfl), ⟨by decide, by decide, by decide +kernel⟩, by decide⟩, Or.inl (am_in3 (i := 24) rfl rfl), ⟨(am_in3 (i := 25) rfl rfl), (am_in3 (i := 26) rfl rfl)⟩, F_W, 15, rfl⟩
theorem st_B_192 : am_sV "WorksBudget" 192 m_W_mostWorthBy 2 0 := ⟨⟨(am_in2 (i := 183) rfl rfl), (am_in1 (i := 2) rfl rfl), ⟨by decide, by decide, by decide +kernel⟩, by decide⟩, Or.inl (am_in3 (i := 28) rfl rfl), ⟨(am_in2 (i := 181) rfl rfl), (am_in2 (i := 182) rfl rfl)⟩, F_W, 15, rfl⟩
theorem st_L_108 : am_sV "WorksBudgetLaw" 108 m_B_rank 1 4 := ⟨⟨(am_in3 (i := 32) rfl rfl), (am_in1 (i := 1) rfl rfl), ⟨by decide, by decide, by decide +kernel⟩, by decide⟩, Or.inl (am_in3 (i := 29) rfl rfl), ⟨(am_in3 (i := 30) rfl rfl), (am_in3 (i := 31) rfl rfl)⟩, F_B, 11, rfl⟩
theorem st_B_196 : am_sV "WorksBudget" 196 m_B_countOfThingsBefore 1 4 := ⟨⟨(am_in3 (i := 36) rfl rfl), (am_in1 (i := 1) rfl rfl), ⟨by decide, by decide, by decide +kernel⟩, by decide⟩, Or.inl (am_in3 (i := 33) rfl rfl), ⟨(am_in3 (i := 35) rfl rfl), (am_in0 (i := 18) rfl rfl)⟩, F_B, 11, rfl⟩
theorem st_B_234 : am_sV "WorksBudget" 234 m_W_ranksBefore 2 0 := ⟨⟨(am_in3 (i := 40) rfl rfl), (am_in1 (i := 2) rfl rfl), ⟨by decide, by decide, by decide +kernel⟩, by decide⟩, Or.inl (am_in3 (i := 37) rfl rfl), ⟨(am_in3 (i := 38) rfl rfl), (am_in3 (i := 39) rfl rfl)⟩, F_W, 15, rfl⟩
theorem st_W_88 : am_sV "WorksBudget$Works" 88 m_W_mostWorth 1 0 := ⟨⟨(am_in2 (i := 179) rfl rfl), (am_in1 (i := 2) rfl rfl), ⟨by decide, by decide, by decide +kernel⟩, by decide⟩, Or.inl (am_in3 (i := 41) rfl rfl), ⟨(am_in2 (i := 177) rfl rfl), (am_in2 (i := 178) rfl rfl)⟩, F_W, 15, rfl⟩
theorem st_L_112 : am_sV "WorksBudgetLaw" 112 m_B_share 2 4 := ⟨⟨(am_in3 (i := 45) rfl rfl), (am_in1 (i := 1) rfl rfl), ⟨by decide, by decide, by decide +kernel⟩, by decide⟩, Or.inl (am_in3 (i := 42) rfl rfl), ⟨(am_in3 (i := 43) rfl rfl), (am_in3 (i := 44) rfl rfl)⟩, F_B, 11, rfl⟩
theorem st_B_199 : am_sV "WorksBudget" 199 m_W_worthOfDistrict 2 0 := ⟨⟨(am_in3 (i := 49) rfl rfl), (am_in1 (i := 2) rfl rfl), ⟨by decide, by decide, by decide +kernel⟩, by decide⟩, Or.inl (am_in3 (i := 46) rfl rfl), ⟨(am_in3 (i := 47) rfl rfl), (am_in3 (i := 48) rfl rfl)⟩, F_W, 15, rfl⟩
theorem st_W_81 : am_sV "WorksBudget$Works" 81 m_W_districtOfChoice 1 0 := ⟨⟨(am_in2 (i := 139) rfl rfl), (am_in1 (i := 2) rfl rfl), ⟨by decide, by decide, by decide +kernel⟩, by decide⟩, Or.inl (am_in3 (i := 50) rfl rfl), ⟨(am_in2 (i := 137) rfl rfl), (am_in2 (i := 138) rfl rfl)⟩, F_W, 15, rfl⟩
theorem st_B_202 : am_sS "WorksBudget" 202 m_B_greatestDivisor 2 := ⟨⟨(am_in3 (i := 53) rfl rfl), (am_in1 (i := 1) rfl rfl), ⟨by decide, by decide, by decide +kernel⟩, by decide⟩, Or.inl (am_in3 (i := 51) rfl rfl), (am_in3 (i := 52) rfl rfl)⟩
theorem st_L_116 : am_sV "WorksBudgetLaw" 116 m_B_policy 1 4 := ⟨⟨(am_in3 (i := 57) rfl rfl), (am_in1 (i := 1) rfl rfl), ⟨by decide, by decide, by decide +kernel⟩, by decide⟩, Or.inl (am_in3 (i := 54) rfl rfl), ⟨(am_in3 (i := 55) rfl rfl), (am_in3 (i := 56) rfl rfl)⟩, F_B, 11, rfl⟩
theorem st_B_206 : am_sV "WorksBudget" 206 m_P_planBy 1 3 := ⟨⟨(am_in3 (i := 61) rfl rfl), (am_in1 (i := 6) rfl rfl), ⟨by decide, by decide, by decide +kernel⟩, by decide⟩, Or.inl (am_in3 (i := 58) rfl rfl), ⟨(am_in3 (i := 59) rfl rfl), (am_in3 (i := 60) rfl rfl)⟩, F_P, 2, rfl⟩
theorem st_P_25 : am_sV "WorksBudget$Policies" 25 m_P_isPossible 1 3 := ⟨⟨(am_in3 (i := 65) rfl rfl), (am_in1 (i := 6) rfl rfl), ⟨by decide, by decide, by decide +kernel⟩, by decide⟩, Or.inl (am_in3 (i := 62) rfl rfl), ⟨(am_in3 (i := 64) rfl rfl), (am_in0 (i := 19) rfl rfl)⟩, F_P, 2, rfl⟩
theorem st_P_36 : am_sV "WorksBudget$Policies" 36 m_W_isPlan 1 0 := ⟨⟨(am_in3 (i := 69) rfl rfl), (am_in1 (i := 2) rfl rfl), ⟨by decide, by decide, by decide +kernel⟩, by decide⟩, Or.inl (am_in3 (i := 66) rfl rfl), ⟨(am_in3 (i := 67) rfl rfl), (am_in3 (i := 68) rfl rfl)⟩, F_W, 15, rfl⟩
theorem st_P_39 : am_sV "WorksBudget$Policies" 39 m_W_isWithinAllBudgets 1 0 := ⟨⟨(am_in3 (i := 73) rfl rfl), (am_in1 (i := 2) rfl rfl), ⟨by decide, by decide, by decide +kernel⟩, by decide⟩, Or.inl (am_in3 (i := 70) rfl rfl), ⟨(am_in3 (i := 71) rfl rfl), (am_in3 (i := 72) rfl rfl)⟩, F_W, 15, rfl⟩
theorem st_W_78 : am_sV "WorksBudget$Works" 78 m_W_isWithinBudget 2 0 := ⟨⟨(am_in3 (i := 77) rfl rfl), (am_in1 (i := 2) rfl rfl), ⟨by decide, by decide, by decide +kernel⟩, by decide⟩, Or.inl (am_in3 (i := 74) rfl rfl), ⟨(am_in3 (i := 75) rfl rfl), (am_in3 (i := 76) rfl rfl)⟩, F_W, 15, rfl⟩
theorem st_W_75 : am_sV "WorksBudget$Works" 75 m_W_spentIn 2 0 := ⟨⟨(am_in3 (i := 81) rfl rfl), (am_in1 (i := 2) rfl rfl), ⟨by decide, by decide, by decide +kernel⟩, by decide⟩, Or.inl (am_in3 (i := 78) rfl rfl), ⟨(am_in3 (i := 79) rfl rfl), (am_in3 (i := 80) rfl rfl)⟩, F_W, 15, rfl⟩
theorem st_P_29 : am_sV "WorksBudget$Policies" 29 m_P_putInOrder 1 3 := ⟨⟨(am_in3 (i := 85) rfl rfl), (am_in1 (i := 6) rfl rfl), ⟨by decide, by decide, by decide +kernel⟩, by decide⟩, Or.inl (am_in3 (i := 82) rfl rfl), ⟨(am_in3 (i := 84) rfl rfl), (am_in0 (i := 20) rfl rfl)⟩, F_P, 2, rfl⟩
theorem st_P_42 : am_sV "WorksBudget$Policies" 42 m_P_goesBefore 3 3 := ⟨⟨(am_in3 (i := 89) rfl rfl), (am_in1 (i := 6) rfl rfl), ⟨by decide, by decide, by decide +kernel⟩, by decide⟩, Or.inl (am_in3 (i := 86) rfl rfl), ⟨(am_in3 (i := 88) rfl rfl), (am_in0 (i := 21) rfl rfl)⟩, F_P, 2, rfl⟩
theorem st_P_46 : am_sV "WorksBudget$Policies" 46 m_P_leadByWorthByCost 2 3 := ⟨⟨(am_in3 (i := 93) rfl rfl), (am_in1 (i := 6) rfl rfl), ⟨by decide, by decide, by decide +kernel⟩, by decide⟩, Or.inl (am_in3 (i := 90) rfl rfl), ⟨(am_in3 (i := 92) rfl rfl), (am_in0 (i := 22) rfl rfl)⟩, F_P, 2, rfl⟩
theorem st_P_60 : am_sS "WorksBudget$Policies" 60 m_JL_compare 2 := ⟨⟨(am_in3 (i := 96) rfl rfl), (am_in1 (i := 9) rfl rfl), ⟨by decide, by decide, by decide +kernel⟩, by decide⟩, Or.inl (am_in3 (i := 94) rfl rfl), (am_in3 (i := 95) rfl rfl)⟩
theorem st_L_120 : am_sV "WorksBudgetLaw" 120 m_B_compare 2 4 := ⟨⟨(am_in3 (i := 100) rfl rfl), (am_in1 (i := 1) rfl rfl), ⟨by decide, by decide, by decide +kernel⟩, by decide⟩, Or.inl (am_in3 (i := 97) rfl rfl), ⟨(am_in3 (i := 98) rfl rfl), (am_in3 (i := 99) rfl rfl)⟩, F_B, 11, rfl⟩
theorem st_L_124 : am_sV "WorksBudgetLaw" 124 m_B_list 2 4 := ⟨⟨(am_in3 (i := 104) rfl rfl), (am_in1 (i := 1) rfl rfl), ⟨by decide, by decide, by decide +kernel⟩, by decide⟩, Or.inl (am_in3 (i := 101) rfl rfl), ⟨(am_in3 (i := 102) rfl rfl), (am_in3 (i := 103) rfl rfl)⟩, F_B, 11, rfl⟩
theorem st_B_212 : am_sV "WorksBudget" 212 m_W_partOf 3 0 := ⟨⟨(am_in3 (i := 108) rfl rfl), (am_in1 (i := 2) rfl rfl), ⟨by decide, by decide, by decide +kernel⟩, by decide⟩, Or.inl (am_in3 (i := 105) rfl rfl), ⟨(am_in3 (i := 106) rfl rfl), (am_in3 (i := 107) rfl rfl)⟩, F_W, 15, rfl⟩
theorem st_L_129 : am_sV "WorksBudgetLaw" 129 m_B_earlier 1 4 := ⟨⟨(am_in3 (i := 112) rfl rfl), (am_in1 (i := 1) rfl rfl), ⟨by decide, by decide, by decide +kernel⟩, by decide⟩, Or.inl (am_in3 (i := 109) rfl rfl), ⟨(am_in3 (i := 110) rfl rfl), (am_in3 (i := 111) rfl rfl)⟩, F_B, 11, rfl⟩
theorem st_L_133 : am_sV "WorksBudgetLaw" 133 m_B_holds 1 4 := ⟨⟨(am_in3 (i := 116) rfl rfl), (am_in1 (i := 1) rfl rfl), ⟨by decide, by decide, by decide +kernel⟩, by decide⟩, Or.inl (am_in3 (i := 113) rfl rfl), ⟨(am_in3 (i := 114) rfl rfl), (am_in3 (i := 115) rfl rfl)⟩, F_B, 11, rfl⟩
theorem st_B_219 : am_sV "WorksBudget" 219 m_W_isWithinBudget 2 0 := ⟨⟨(am_in3 (i := 77) rfl rfl), (am_in1 (i := 2) rfl rfl), ⟨by decide, by decide, by decide +kernel⟩, by decide⟩, Or.inl (am_in3 (i := 117) rfl rfl), ⟨(am_in3 (i := 75) rfl rfl), (am_in3 (i := 76) rfl rfl)⟩, F_W, 15, rfl⟩
theorem st_L_9 : am_sS "WorksBudgetLaw" 9 m_L_cell 2 := ⟨⟨(am_in3 (i := 120) rfl rfl), (am_in1 (i := 0) rfl rfl), ⟨by decide, by decide, by decide +kernel⟩, by decide⟩, Or.inl (am_in3 (i := 118) rfl rfl), (am_in3 (i := 119) rfl rfl)⟩
theorem st_L_20 : am_sI "WorksBudgetLaw" 20 m_M_init 1 := ⟨⟨(am_in3 (i := 125) rfl rfl), (am_in1 (i := 7) rfl rfl), ⟨by decide, by decide, by decide +kernel⟩, by decide⟩, Or.inl (am_in3 (i := 123) rfl rfl), ⟨rfl, (am_in3 (i := 124) rfl rfl)⟩, rfl⟩
theorem st_L_25 : am_sV "WorksBudgetLaw" 25 m_M_thing 1 5 := ⟨⟨(am_in3 (i := 201) rfl rfl), (am_in1 (i := 7) rfl rfl), ⟨by decide, by decide, by decide +kernel⟩, by decide⟩, Or.inl (am_in3 (i := 198) rfl rfl), ⟨(am_in3 (i := 199) rfl rfl), (am_in3 (i := 200) rfl rfl)⟩, F_M, 23, rfl⟩
theorem st_M_72 : am_sS "WorksBudgetModel" 72 m_M_in 3 := ⟨⟨(am_in3 (i := 205) rfl rfl), (am_in1 (i := 7) rfl rfl), ⟨by decide, by decide, by decide +kernel⟩, by decide⟩, Or.inl (am_in3 (i := 203) rfl rfl), (am_in3 (i := 204) rfl rfl)⟩
theorem st_M_79 : am_sV "WorksBudgetModel" 79 m_M_tell 0 5 := ⟨⟨(am_in3 (i := 209) rfl rfl), (am_in1 (i := 7) rfl rfl), ⟨by decide, by decide, by decide +kernel⟩, by decide⟩, Or.inl (am_in3 (i := 206) rfl rfl), ⟨(am_in3 (i := 208) rfl rfl), (am_in0 (i := 23) rfl rfl)⟩, F_M, 23, rfl⟩
theorem st_L_32 : am_sV "WorksBudgetLaw" 32 m_M_choice 4 5 := ⟨⟨(am_in3 (i := 213) rfl rfl), (am_in1 (i := 7) rfl rfl), ⟨by decide, by decide, by decide +kernel⟩, by decide⟩, Or.inl (am_in3 (i := 210) rfl rfl), ⟨(am_in3 (i := 211) rfl rfl), (am_in3 (i := 212) rfl rfl)⟩, F_M, 23, rfl⟩
theorem st_L_37 : am_sV "WorksBudgetLaw" 37 m_M_must 1 5 := ⟨⟨(am_in3 (i := 218) rfl rfl), (am_in1 (i := 7) rfl rfl), ⟨by decide, by decide, by decide +kernel⟩, by decide⟩, Or.inl (am_in3 (i := 215) rfl rfl), ⟨(am_in3 (i := 216) rfl rfl), (am_in3 (i := 217) rfl rfl)⟩, F_M, 23, rfl⟩
theorem st_M_87 : am_sV "WorksBudgetModel" 87 m_M_isChoice 1 5 := ⟨⟨(am_in3 (i := 222) rfl rfl), (am_in1 (i := 7) rfl rfl), ⟨by decide, by decide, by decide +kernel⟩, by decide⟩, Or.inl (am_in3 (i := 219) rfl rfl), ⟨(am_in3 (i := 221) rfl rfl), (am_in0 (i := 24) rfl rfl)⟩, F_M, 23, rfl⟩
theorem st_M_94 : am_sS "WorksBudgetModel" 94 m_M_has 2 := ⟨⟨(am_in3 (i := 225) rfl rfl), (am_in1 (i := 7) rfl rfl), ⟨by decide, by decide, by decide +kernel⟩, by decide⟩, Or.inl (am_in3 (i := 223) rfl rfl), (am_in3 (i := 224) rfl rfl)⟩
theorem st_L_42 : am_sV "WorksBudgetLaw" 42 m_M_budget 2 5 := ⟨⟨(am_in3 (i := 229) rfl rfl), (am_in1 (i := 7) rfl rfl), ⟨by decide, by decide, by decide +kernel⟩, by decide⟩, Or.inl (am_in3 (i := 226) rfl rfl), ⟨(am_in3 (i := 227) rfl rfl), (am_in3 (i := 228) rfl rfl)⟩, F_M, 23, rfl⟩
theorem st_M_98 : am_sV "WorksBudgetModel" 98 m_M_isYear 1 5 := ⟨⟨(am_in3 (i := 233) rfl rfl), (am_in1 (i := 7) rfl rfl), ⟨by decide, by decide, by decide +kernel⟩, by decide⟩, Or.inl (am_in3 (i := 230) rfl rfl), ⟨(am_in3 (i := 232) rfl rfl), (am_in0 (i := 25) rfl rfl)⟩, F_M, 23, rfl⟩
theorem st_L_47 : am_sV "WorksBudgetLaw" 47 m_M_join 3 5 := ⟨⟨(am_in3 (i := 238) rfl rfl), (am_in1 (i := 7) rfl rfl), ⟨by decide, by decide, by decide +kernel⟩, by decide⟩, Or.inl (am_in3 (i := 235) rfl rfl), ⟨(am_in3 (i := 236) rfl rfl), (am_in3 (i := 237) rfl rfl)⟩, F_M, 23, rfl⟩
theorem st_L_52 : am_sV "WorksBudgetLaw" 52 m_M_district 2 5 := ⟨⟨(am_in4 (i := 2) rfl rfl), (am_in1 (i := 7) rfl rfl), ⟨by decide, by decide, by decide +kernel⟩, by decide⟩, Or.inl (am_in3 (i := 239) rfl rfl), ⟨(am_in4 (i := 0) rfl rfl), (am_in4 (i := 1) rfl rfl)⟩, F_M, 23, rfl⟩
theorem st_L_57 : am_sV "WorksBudgetLaw" 57 m_M_fair 1 5 := ⟨⟨(am_in4 (i := 7) rfl rfl), (am_in1 (i := 7) rfl rfl), ⟨by decide, by decide, by decide +kernel⟩, by decide⟩, Or.inl (am_in4 (i := 4) rfl rfl), ⟨(am_in4 (i := 5) rfl rfl), (am_in4 (i := 6) rfl rfl)⟩, F_M, 23, rfl⟩
theorem st_L_62 : am_sV "WorksBudgetLaw" 62 m_M_run 1 5 := ⟨⟨(am_in4 (i := 12) rfl rfl), (am_in1 (i := 7) rfl rfl), ⟨by decide, by decide, by decide +kernel⟩, by decide⟩, Or.inl (am_in4 (i := 9) rfl rfl), ⟨(am_in4 (i := 10) rfl rfl), (am_in4 (i := 11) rfl rfl)⟩, F_M, 23, rfl⟩
theorem st_M_142 : am_sV "WorksBudgetModel" 142 m_M_best 1 5 := ⟨⟨(am_in4 (i := 17) rfl rfl), (am_in1 (i := 7) rfl rfl), ⟨by decide, by decide, by decide +kernel⟩, by decide⟩, Or.inl (am_in4 (i := 14) rfl rfl), ⟨(am_in4 (i := 16) rfl rfl), (am_in0 (i := 26) rfl rfl)⟩, F_M, 23, rfl⟩
theorem st_M_131 : am_sV "WorksBudgetModel" 131 m_M_setAt 1 5 := ⟨⟨(am_in4 (i := 21) rfl rfl), (am_in1 (i := 7) rfl rfl), ⟨by decide, by decide, by decide +kernel⟩, by decide⟩, Or.inl (am_in4 (i := 18) rfl rfl), ⟨(am_in4 (i := 20) rfl rfl), (am_in0 (i := 27) rfl rfl)⟩, F_M, 23, rfl⟩
theorem st_M_134 : am_sV "WorksBudgetModel" 134 m_M_holdsWith 2 5 := ⟨⟨(am_in4 (i := 25) rfl rfl), (am_in1 (i := 7) rfl rfl), ⟨by decide, by decide, by decide +kernel⟩, by decide⟩, Or.inl (am_in4 (i := 22) rfl rfl), ⟨(am_in4 (i := 24) rfl rfl), (am_in0 (i := 28) rfl rfl)⟩, F_M, 23, rfl⟩
theorem st_M_110 : am_sV "WorksBudgetModel" 110 m_M_isPlan 1 5 := ⟨⟨(am_in4 (i := 29) rfl rfl), (am_in1 (i := 7) rfl rfl), ⟨by decide, by decide, by decide +kernel⟩, by decide⟩, Or.inl (am_in4 (i := 26) rfl rfl), ⟨(am_in4 (i := 28) rfl rfl), (am_in0 (i := 29) rfl rfl)⟩, F_M, 23, rfl⟩
theorem st_M_117 : am_sV "WorksBudgetModel" 117 m_M_isFair 1 5 := ⟨⟨(am_in4 (i := 33) rfl rfl), (am_in1 (i := 7) rfl rfl), ⟨by decide, by decide, by decide +kernel⟩, by decide⟩, Or.inl (am_in4 (i := 30) rfl rfl), ⟨(am_in4 (i := 32) rfl rfl), (am_in0 (i := 30) rfl rfl)⟩, F_M, 23, rfl⟩
theorem st_M_120 : am_sV "WorksBudgetModel" 120 m_M_fits 1 5 := ⟨⟨(am_in4 (i := 37) rfl rfl), (am_in1 (i := 7) rfl rfl), ⟨by decide, by decide, by decide +kernel⟩, by decide⟩, Or.inl (am_in4 (i := 34) rfl rfl), ⟨(am_in4 (i := 36) rfl rfl), (am_in0 (i := 31) rfl rfl)⟩, F_M, 23, rfl⟩
theorem st_M_113 : am_sV "WorksBudgetModel" 113 m_M_spentIn 2 5 := ⟨⟨(am_in4 (i := 41) rfl rfl), (am_in1 (i := 7) rfl rfl), ⟨by decide, by decide, by decide +kernel⟩, by decide⟩, Or.inl (am_in4 (i := 38) rfl rfl), ⟨(am_in4 (i := 40) rfl rfl), (am_in0 (i := 32) rfl rfl)⟩, F_M, 23, rfl⟩
theorem st_M_137 : am_sV "WorksBudgetModel" 137 m_M_isBetter 2 5 := ⟨⟨(am_in4 (i := 45) rfl rfl), (am_in1 (i := 7) rfl rfl), ⟨by decide, by decide, by decide +kernel⟩, by decide⟩, Or.inl (am_in4 (i := 42) rfl rfl), ⟨(am_in4 (i := 44) rfl rfl), (am_in0 (i := 33) rfl rfl)⟩, F_M, 23, rfl⟩
theorem st_M_123 : am_sV "WorksBudgetModel" 123 m_M_worthOf 1 5 := ⟨⟨(am_in4 (i := 49) rfl rfl), (am_in1 (i := 7) rfl rfl), ⟨by decide, by decide, by decide +kernel⟩, by decide⟩, Or.inl (am_in4 (i := 46) rfl rfl), ⟨(am_in4 (i := 48) rfl rfl), (am_in0 (i := 34) rfl rfl)⟩, F_M, 23, rfl⟩
theorem st_M_127 : am_sV "WorksBudgetModel" 127 m_M_yearsOf 1 5 := ⟨⟨(am_in4 (i := 53) rfl rfl), (am_in1 (i := 7) rfl rfl), ⟨by decide, by decide, by decide +kernel⟩, by decide⟩, Or.inl (am_in4 (i := 50) rfl rfl), ⟨(am_in4 (i := 52) rfl rfl), (am_in0 (i := 35) rfl rfl)⟩, F_M, 23, rfl⟩
theorem st_L_66 : am_sV "WorksBudgetLaw" 66 m_M_chosen 1 5 := ⟨⟨(am_in4 (i := 57) rfl rfl), (am_in1 (i := 7) rfl rfl), ⟨by decide, by decide, by decide +kernel⟩, by decide⟩, Or.inl (am_in4 (i := 54) rfl rfl), ⟨(am_in4 (i := 55) rfl rfl), (am_in4 (i := 56) rfl rfl)⟩, F_M, 23, rfl⟩
theorem st_L_71 : am_sV "WorksBudgetLaw" 71 m_M_worth 0 5 := ⟨⟨(am_in4 (i := 61) rfl rfl), (am_in1 (i := 7) rfl rfl), ⟨by decide, by decide, by decide +kernel⟩, by decide⟩, Or.inl (am_in4 (i := 58) rfl rfl), ⟨(am_in4 (i := 59) rfl rfl), (am_in4 (i := 60) rfl rfl)⟩, F_M, 23, rfl⟩
theorem st_L_76 : am_sV "WorksBudgetLaw" 76 m_M_bound 1 5 := ⟨⟨(am_in4 (i := 65) rfl rfl), (am_in1 (i := 7) rfl rfl), ⟨by decide, by decide, by decide +kernel⟩, by decide⟩, Or.inl (am_in4 (i := 62) rfl rfl), ⟨(am_in4 (i := 63) rfl rfl), (am_in4 (i := 64) rfl rfl)⟩, F_M, 23, rfl⟩
theorem st_M_149 : am_sV "WorksBudgetModel" 149 m_M_mostWorth 2 5 := ⟨⟨(am_in4 (i := 69) rfl rfl), (am_in1 (i := 7) rfl rfl), ⟨by decide, by decide, by decide +kernel⟩, by decide⟩, Or.inl (am_in4 (i := 66) rfl rfl), ⟨(am_in4 (i := 68) rfl rfl), (am_in0 (i := 36) rfl rfl)⟩, F_M, 23, rfl⟩
theorem st_M_152 : am_sV "WorksBudgetModel" 152 m_M_byPrice 2 5 := ⟨⟨(am_in4 (i := 73) rfl rfl), (am_in1 (i := 7) rfl rfl), ⟨by decide, by decide, by decide +kernel⟩, by decide⟩, Or.inl (am_in4 (i := 70) rfl rfl), ⟨(am_in4 (i := 72) rfl rfl), (am_in0 (i := 37) rfl rfl)⟩, F_M, 23, rfl⟩
theorem st_M_146 : am_sV "WorksBudgetModel" 146 m_M_savedBy 1 5 := ⟨⟨(am_in4 (i := 77) rfl rfl), (am_in1 (i := 7) rfl rfl), ⟨by decide, by decide, by decide +kernel⟩, by decide⟩, Or.inl (am_in4 (i := 74) rfl rfl), ⟨(am_in4 (i := 76) rfl rfl), (am_in0 (i := 38) rfl rfl)⟩, F_M, 23, rfl⟩
theorem st_L_80 : am_sV "WorksBudgetLaw" 80 m_M_clash 1 5 := ⟨⟨(am_in4 (i := 81) rfl rfl), (am_in1 (i := 7) rfl rfl), ⟨by decide, by decide, by decide +kernel⟩, by decide⟩, Or.inl (am_in4 (i := 78) rfl rfl), ⟨(am_in4 (i := 79) rfl rfl), (am_in4 (i := 80) rfl rfl)⟩, F_M, 23, rfl⟩
theorem st_M_156 : am_sV "WorksBudgetModel" 156 m_M_someHolds 1 5 := ⟨⟨(am_in4 (i := 85) rfl rfl), (am_in1 (i := 7) rfl rfl), ⟨by decide, by decide, by decide +kernel⟩, by decide⟩, Or.inl (am_in4 (i := 82) rfl rfl), ⟨(am_in4 (i := 84) rfl rfl), (am_in0 (i := 39) rfl rfl)⟩, F_M, 23, rfl⟩
theorem st_L_85 : am_sV "WorksBudgetLaw" 85 m_M_proved 0 5 := ⟨⟨(am_in4 (i := 89) rfl rfl), (am_in1 (i := 7) rfl rfl), ⟨by decide, by decide, by decide +kernel⟩, by decide⟩, Or.inl (am_in4 (i := 86) rfl rfl), ⟨(am_in4 (i := 87) rfl rfl), (am_in4 (i := 88) rfl rfl)⟩, F_M, 23, rfl⟩
theorem st_L_90 : am_sV "WorksBudgetLaw" 90 m_M_price 2 5 := ⟨⟨(am_in4 (i := 93) rfl rfl), (am_in1 (i := 7) rfl rfl), ⟨by decide, by decide, by decide +kernel⟩, by decide⟩, Or.inl (am_in4 (i := 90) rfl rfl), ⟨(am_in4 (i := 91) rfl rfl), (am_in4 (i := 92) rfl rfl)⟩, F_M, 23, rfl⟩
theorem st_M_159 : am_sV "WorksBudgetModel" 159 m_M_bound 1 5 := ⟨⟨(am_in4 (i := 65) rfl rfl), (am_in1 (i := 7) rfl rfl), ⟨by decide, by decide, by decide +kernel⟩, by decide⟩, Or.inl (am_in4 (i := 94) rfl rfl), ⟨(am_in4 (i := 63) rfl rfl), (am_in4 (i := 64) rfl rfl)⟩, F_M, 23, rfl⟩
theorem st_L_95 : am_sV "WorksBudgetLaw" 95 m_M_old 2 5 := ⟨⟨(am_in4 (i := 99) rfl rfl), (am_in1 (i := 7) rfl rfl), ⟨by decide, by decide, by decide +kernel⟩, by decide⟩, Or.inl (am_in4 (i := 96) rfl rfl), ⟨(am_in4 (i := 97) rfl rfl), (am_in4 (i := 98) rfl rfl)⟩, F_M, 23, rfl⟩
theorem st_L_99 : am_sV "WorksBudgetLaw" 99 m_M_changes 1 5 := ⟨⟨(am_in4 (i := 103) rfl rfl), (am_in1 (i := 7) rfl rfl), ⟨by decide, by decide, by decide +kernel⟩, by decide⟩, Or.inl (am_in4 (i := 100) rfl rfl), ⟨(am_in4 (i := 101) rfl rfl), (am_in4 (i := 102) rfl rfl)⟩, F_M, 23, rfl⟩
theorem st_M_167 : am_sV "WorksBudgetModel" 167 m_M_differ 1 5 := ⟨⟨(am_in4 (i := 107) rfl rfl), (am_in1 (i := 7) rfl rfl), ⟨by decide, by decide, by decide +kernel⟩, by decide⟩, Or.inl (am_in4 (i := 104) rfl rfl), ⟨(am_in4 (i := 106) rfl rfl), (am_in0 (i := 40) rfl rfl)⟩, F_M, 23, rfl⟩
theorem st_L_103 : am_sV "WorksBudgetLaw" 103 m_M_changed 1 5 := ⟨⟨(am_in4 (i := 111) rfl rfl), (am_in1 (i := 7) rfl rfl), ⟨by decide, by decide, by decide +kernel⟩, by decide⟩, Or.inl (am_in4 (i := 108) rfl rfl), ⟨(am_in4 (i := 109) rfl rfl), (am_in4 (i := 110) rfl rfl)⟩, F_M, 23, rfl⟩
theorem st_L_107 : am_sV "WorksBudgetLaw" 107 m_M_backlog 1 5 := ⟨⟨(am_in4 (i := 115) rfl rfl), (am_in1 (i := 7) rfl rfl), ⟨by decide, by decide, by decide +kernel⟩, by decide⟩, Or.inl (am_in4 (i := 112) rfl rfl), ⟨(am_in4 (i := 113) rfl rfl), (am_in4 (i := 114) rfl rfl)⟩, F_M, 23, rfl⟩
theorem st_L_111 : am_sV "WorksBudgetLaw" 111 m_M_rank 1 5 := ⟨⟨(am_in4 (i := 119) rfl rfl), (am_in1 (i := 7) rfl rfl), ⟨by decide, by decide, by decide +kernel⟩, by decide⟩, Or.inl (am_in4 (i := 116) rfl rfl), ⟨(am_in4 (i := 117) rfl rfl), (am_in4 (i := 118) rfl rfl)⟩, F_M, 23, rfl⟩
theorem st_L_115 : am_sV "WorksBudgetLaw" 115 m_M_share 2 5 := ⟨⟨(am_in4 (i := 123) rfl rfl), (am_in1 (i := 7) rfl rfl), ⟨by decide, by decide, by decide +kernel⟩, by decide⟩, Or.inl (am_in4 (i := 120) rfl rfl), ⟨(am_in4 (i := 121) rfl rfl), (am_in4 (i := 122) rfl rfl)⟩, F_M, 23, rfl⟩
theorem st_L_119 : am_sV "WorksBudgetLaw" 119 m_M_policy 1 5 := ⟨⟨(am_in4 (i := 127) rfl rfl), (am_in1 (i := 7) rfl rfl), ⟨by decide, by decide, by decide +kernel⟩, by decide⟩, Or.inl (am_in4 (i := 124) rfl rfl), ⟨(am_in4 (i := 125) rfl rfl), (am_in4 (i := 126) rfl rfl)⟩, F_M, 23, rfl⟩
theorem st_M_174 : am_sV "WorksBudgetModel" 174 m_M_planBy 1 5 := ⟨⟨(am_in4 (i := 131) rfl rfl), (am_in1 (i := 7) rfl rfl), ⟨by decide, by decide, by decide +kernel⟩, by decide⟩, Or.inl (am_in4 (i := 128) rfl rfl), ⟨(am_in4 (i := 130) rfl rfl), (am_in0 (i := 41) rfl rfl)⟩, F_M, 23, rfl⟩
theorem st_M_170 : am_sV "WorksBudgetModel" 170 m_M_comesBefore 3 5 := ⟨⟨(am_in4 (i := 135) rfl rfl), (am_in1 (i := 7) rfl rfl), ⟨by decide, by decide, by decide +kernel⟩, by decide⟩, Or.inl (am_in4 (i := 132) rfl rfl), ⟨(am_in4 (i := 134) rfl rfl), (am_in0 (i := 42) rfl rfl)⟩, F_M, 23, rfl⟩
theorem st_L_123 : am_sV "WorksBudgetLaw" 123 m_M_compare 2 5 := ⟨⟨(am_in4 (i := 139) rfl rfl), (am_in1 (i := 7) rfl rfl), ⟨by decide, by decide, by decide +kernel⟩, by decide⟩, Or.inl (am_in4 (i := 136) rfl rfl), ⟨(am_in4 (i := 137) rfl rfl), (am_in4 (i := 138) rfl rfl)⟩, F_M, 23, rfl⟩
theorem st_L_128 : am_sV "WorksBudgetLaw" 128 m_M_list 2 5 := ⟨⟨(am_in4 (i := 143) rfl rfl), (am_in1 (i := 7) rfl rfl), ⟨by decide, by decide, by decide +kernel⟩, by decide⟩, Or.inl (am_in4 (i := 140) rfl rfl), ⟨(am_in4 (i := 141) rfl rfl), (am_in4 (i := 142) rfl rfl)⟩, F_M, 23, rfl⟩
theorem st_L_132 : am_sV "WorksBudgetLaw" 132 m_M_earlier 1 5 := ⟨⟨(am_in4 (i := 147) rfl rfl), (am_in1 (i := 7) rfl rfl), ⟨by decide, by decide, by decide +kernel⟩, by decide⟩, Or.inl (am_in4 (i := 144) rfl rfl), ⟨(am_in4 (i := 145) rfl rfl), (am_in4 (i := 146) rfl rfl)⟩, F_M, 23, rfl⟩
theorem st_L_136 : am_sV "WorksBudgetLaw" 136 m_M_holds 1 5 := ⟨⟨(am_in4 (i := 151) rfl rfl), (am_in1 (i := 7) rfl rfl), ⟨by decide, by decide, by decide +kernel⟩, by decide⟩, Or.inl (am_in4 (i := 148) rfl rfl), ⟨(am_in4 (i := 149) rfl rfl), (am_in4 (i := 150) rfl rfl)⟩, F_M, 23, rfl⟩
end
section
theorem q_N_init_0 : decode m_N_init.2.1 0 = .ok (.aload_n 0, 1) := by decide +kernel
theorem q_N_init_1 : decode m_N_init.2.1 1 = .ok (.invokespecial 1, 3) := by decide +kernel
theorem q_N_init_4 : decode m_N_init.2.1 4 = .ok (.aload_n 0, 1) := by decide +kernel
theorem q_N_init_5 : decode m_N_init.2.1 5 = .ok (.aload_n 1, 1) := by decide +kernel
theorem q_N_init_6 : decode m_N_init.2.1 6 = .ok (.putfield 7, 3) := by decide +kernel
theorem q_N_init_9 : decode m_N_init.2.1 9 = .ok (.return_, 1) := by decide +kernel
theorem q_N_byThings_0 : decode m_N_byThings.2.1 0 = .ok (.lconst 0, 1) := by decide +kernel
theorem q_N_byThings_1 : decode m_N_byThings.2.1 1 = .ok (.lstore_n 1, 1) := by decide +kernel
theorem q_N_byThings_2 : decode m_N_byThings.2.1 2 = .ok (.iconst 0, 1) := by decide +kernel
theorem q_N_byThings_3 : decode m_N_byThings.2.1 3 = .ok (.istore_n 3, 1) := by decide +kernel
theorem q_N_byThings_4 : decode m_N_byThings.2.1 4 = .ok (.iload_n 3, 1) := by decide +kernel
theorem q_N_byThings_5 : decode m_N_byThings.2.1 5 = .ok (.aload_n 0, 1) := by decide +kernel
theorem q_N_byThings_6 : decode m_N_byThings.2.1 6 = .ok (.getfield 7, 3) := by decide +kernel
theorem q_N_byThings_9 : decode m_N_byThings.2.1 9 = .ok (.getfield 13, 3) := by decide +kernel
theorem q_N_byThings_12 : decode m_N_byThings.2.1 12 = .ok (.if_icmp .ge 20, 3) := by decide +kernel
theorem q_N_byThings_15 : decode m_N_byThings.2.1 15 = .ok (.lload_n 1, 1) := by decide +kernel
theorem q_N_byThings_16 : decode m_N_byThings.2.1 16 = .ok (.aload_n 0, 1) := by decide +kernel
theorem q_N_byThings_17 : decode m_N_byThings.2.1 17 = .ok (.getfield 7, 3) := by decide +kernel
theorem q_N_byThings_20 : decode m_N_byThings.2.1 20 = .ok (.iload_n 3, 1) := by decide +kernel
theorem q_N_byThings_21 : decode m_N_byThings.2.1 21 = .ok (.invokevirtual 19, 3) := by decide +kernel
theorem q_N_byThings_24 : decode m_N_byThings.2.1 24 = .ok (.ladd, 1) := by decide +kernel
theorem q_N_byThings_25 : decode m_N_byThings.2.1 25 = .ok (.lstore_n 1, 1) := by decide +kernel
theorem q_N_byThings_26 : decode m_N_byThings.2.1 26 = .ok (.iinc 3 1, 3) := by decide +kernel
theorem q_N_byThings_29 : decode m_N_byThings.2.1 29 = .ok (.goto (-25), 3) := by decide +kernel
theorem q_N_byThings_32 : decode m_N_byThings.2.1 32 = .ok (.lload_n 1, 1) := by decide +kernel
theorem q_N_byThings_33 : decode m_N_byThings.2.1 33 = .ok (.lreturn, 1) := by decide +kernel
theorem q_N_byPrices_0 : decode m_N_byPrices.2.1 0 = .ok (.lload_n 1, 1) := by decide +kernel
theorem q_N_byPrices_1 : decode m_N_byPrices.2.1 1 = .ok (.lstore_n 3, 1) := by decide +kernel
theorem q_N_byPrices_2 : decode m_N_byPrices.2.1 2 = .ok (.iconst 0, 1) := by decide +kernel
theorem q_N_byPrices_3 : decode m_N_byPrices.2.1 3 = .ok (.istore 5, 2) := by decide +kernel
theorem q_N_byPrices_5 : decode m_N_byPrices.2.1 5 = .ok (.iload 5, 2) := by decide +kernel
theorem q_N_byPrices_7 : decode m_N_byPrices.2.1 7 = .ok (.aload_n 0, 1) := by decide +kernel
theorem q_N_byPrices_8 : decode m_N_byPrices.2.1 8 = .ok (.getfield 7, 3) := by decide +kernel
theorem q_N_byPrices_11 : decode m_N_byPrices.2.1 11 = .ok (.getfield 23, 3) := by decide +kernel
theorem q_N_byPrices_14 : decode m_N_byPrices.2.1 14 = .ok (.if_icmp .ge 22, 3) := by decide +kernel
theorem q_N_byPrices_17 : decode m_N_byPrices.2.1 17 = .ok (.lload_n 3, 1) := by decide +kernel
theorem q_N_byPrices_18 : decode m_N_byPrices.2.1 18 = .ok (.aload_n 0, 1) := by decide +kernel
theorem q_N_byPrices_19 : decode m_N_byPrices.2.1 19 = .ok (.getfield 7, 3) := by decide +kernel
theorem q_N_byPrices_22 : decode m_N_byPrices.2.1 22 = .ok (.getfield 26, 3) := by decide +kernel
theorem q_N_byPrices_25 : decode m_N_byPrices.2.1 25 = .ok (.iload 5, 2) := by decide +kernel
theorem q_N_byPrices_27 : decode m_N_byPrices.2.1 27 = .ok (.laload, 1) := by decide +kernel
theorem q_N_byPrices_28 : decode m_N_byPrices.2.1 28 = .ok (.ladd, 1) := by decide +kernel
theorem q_N_byPrices_29 : decode m_N_byPrices.2.1 29 = .ok (.lstore_n 3, 1) := by decide +kernel
theorem q_N_byPrices_30 : decode m_N_byPrices.2.1 30 = .ok (.iinc 5 1, 3) := by decide +kernel
theorem q_N_byPrices_33 : decode m_N_byPrices.2.1 33 = .ok (.goto (-28), 3) := by decide +kernel
theorem q_N_byPrices_36 : decode m_N_byPrices.2.1 36 = .ok (.aload_n 0, 1) := by decide +kernel
theorem q_N_byPrices_37 : decode m_N_byPrices.2.1 37 = .ok (.lconst 0, 1) := by decide +kernel
theorem q_N_byPrices_38 : decode m_N_byPrices.2.1 38 = .ok (.lconst 1, 1) := by decide +kernel
theorem q_N_byPrices_39 : decode m_N_byPrices.2.1 39 = .ok (.lload_n 3, 1) := by decide +kernel
theorem q_N_byPrices_40 : decode m_N_byPrices.2.1 40 = .ok (.invokevirtual 30, 3) := by decide +kernel
theorem q_N_byPrices_43 : decode m_N_byPrices.2.1 43 = .ok (.lstore 5, 2) := by decide +kernel
theorem q_N_byPrices_45 : decode m_N_byPrices.2.1 45 = .ok (.iconst 0, 1) := by decide +kernel
theorem q_N_byPrices_46 : decode m_N_byPrices.2.1 46 = .ok (.istore 7, 2) := by decide +kernel
theorem q_N_byPrices_48 : decode m_N_byPrices.2.1 48 = .ok (.iload 7, 2) := by decide +kernel
theorem q_N_byPrices_50 : decode m_N_byPrices.2.1 50 = .ok (.aload_n 0, 1) := by decide +kernel
theorem q_N_byPrices_51 : decode m_N_byPrices.2.1 51 = .ok (.getfield 7, 3) := by decide +kernel
theorem q_N_byPrices_54 : decode m_N_byPrices.2.1 54 = .ok (.getfield 34, 3) := by decide +kernel
theorem q_N_byPrices_57 : decode m_N_byPrices.2.1 57 = .ok (.if_icmp .ge 60, 3) := by decide +kernel
theorem q_N_byPrices_60 : decode m_N_byPrices.2.1 60 = .ok (.aload_n 0, 1) := by decide +kernel
theorem q_N_byPrices_61 : decode m_N_byPrices.2.1 61 = .ok (.getfield 7, 3) := by decide +kernel
theorem q_N_byPrices_64 : decode m_N_byPrices.2.1 64 = .ok (.getfield 37, 3) := by decide +kernel
theorem q_N_byPrices_67 : decode m_N_byPrices.2.1 67 = .ok (.iload 7, 2) := by decide +kernel
theorem q_N_byPrices_69 : decode m_N_byPrices.2.1 69 = .ok (.laload, 1) := by decide +kernel
theorem q_N_byPrices_70 : decode m_N_byPrices.2.1 70 = .ok (.lconst 0, 1) := by decide +kernel
theorem q_N_byPrices_71 : decode m_N_byPrices.2.1 71 = .ok (.lcmp, 1) := by decide +kernel
theorem q_N_byPrices_72 : decode m_N_byPrices.2.1 72 = .ok (.ifCond .le 39, 3) := by decide +kernel
theorem q_N_byPrices_75 : decode m_N_byPrices.2.1 75 = .ok (.aload_n 0, 1) := by decide +kernel
theorem q_N_byPrices_76 : decode m_N_byPrices.2.1 76 = .ok (.aload_n 0, 1) := by decide +kernel
theorem q_N_byPrices_77 : decode m_N_byPrices.2.1 77 = .ok (.getfield 7, 3) := by decide +kernel
theorem q_N_byPrices_80 : decode m_N_byPrices.2.1 80 = .ok (.getfield 40, 3) := by decide +kernel
theorem q_N_byPrices_83 : decode m_N_byPrices.2.1 83 = .ok (.iload 7, 2) := by decide +kernel
theorem q_N_byPrices_85 : decode m_N_byPrices.2.1 85 = .ok (.laload, 1) := by decide +kernel
theorem q_N_byPrices_86 : decode m_N_byPrices.2.1 86 = .ok (.aload_n 0, 1) := by decide +kernel
theorem q_N_byPrices_87 : decode m_N_byPrices.2.1 87 = .ok (.getfield 7, 3) := by decide +kernel
theorem q_N_byPrices_90 : decode m_N_byPrices.2.1 90 = .ok (.getfield 37, 3) := by decide +kernel
theorem q_N_byPrices_93 : decode m_N_byPrices.2.1 93 = .ok (.iload 7, 2) := by decide +kernel
theorem q_N_byPrices_95 : decode m_N_byPrices.2.1 95 = .ok (.laload, 1) := by decide +kernel
theorem q_N_byPrices_96 : decode m_N_byPrices.2.1 96 = .ok (.lload_n 3, 1) := by decide +kernel
theorem q_N_byPrices_97 : decode m_N_byPrices.2.1 97 = .ok (.invokevirtual 30, 3) := by decide +kernel
theorem q_N_byPrices_100 : decode m_N_byPrices.2.1 100 = .ok (.lstore 8, 2) := by decide +kernel
theorem q_N_byPrices_102 : decode m_N_byPrices.2.1 102 = .ok (.lload 5, 2) := by decide +kernel
theorem q_N_byPrices_104 : decode m_N_byPrices.2.1 104 = .ok (.lload 8, 2) := by decide +kernel
theorem q_N_byPrices_106 : decode m_N_byPrices.2.1 106 = .ok (.invokestatic 43, 3) := by decide +kernel
theorem q_N_byPrices_109 : decode m_N_byPrices.2.1 109 = .ok (.lstore 5, 2) := by decide +kernel
theorem q_N_byPrices_111 : decode m_N_byPrices.2.1 111 = .ok (.iinc 7 1, 3) := by decide +kernel
theorem q_N_byPrices_114 : decode m_N_byPrices.2.1 114 = .ok (.goto (-66), 3) := by decide +kernel
theorem q_N_byPrices_117 : decode m_N_byPrices.2.1 117 = .ok (.lload 5, 2) := by decide +kernel
theorem q_N_byPrices_119 : decode m_N_byPrices.2.1 119 = .ok (.lreturn, 1) := by decide +kernel
theorem q_N_byPrice_0 : decode m_N_byPrice.2.1 0 = .ok (.lload 5, 2) := by decide +kernel
theorem q_N_byPrice_2 : decode m_N_byPrice.2.1 2 = .ok (.lload_n 1, 1) := by decide +kernel
theorem q_N_byPrice_3 : decode m_N_byPrice.2.1 3 = .ok (.lmul, 1) := by decide +kernel
theorem q_N_byPrice_4 : decode m_N_byPrice.2.1 4 = .ok (.lstore 7, 2) := by decide +kernel
theorem q_N_byPrice_6 : decode m_N_byPrice.2.1 6 = .ok (.iconst 0, 1) := by decide +kernel
theorem q_N_byPrice_7 : decode m_N_byPrice.2.1 7 = .ok (.istore 9, 2) := by decide +kernel
theorem q_N_byPrice_9 : decode m_N_byPrice.2.1 9 = .ok (.iload 9, 2) := by decide +kernel
theorem q_N_byPrice_11 : decode m_N_byPrice.2.1 11 = .ok (.aload_n 0, 1) := by decide +kernel
theorem q_N_byPrice_12 : decode m_N_byPrice.2.1 12 = .ok (.getfield 7, 3) := by decide +kernel
theorem q_N_byPrice_15 : decode m_N_byPrice.2.1 15 = .ok (.getfield 13, 3) := by decide +kernel
theorem q_N_byPrice_18 : decode m_N_byPrice.2.1 18 = .ok (.if_icmp .ge 22, 3) := by decide +kernel
theorem q_N_byPrice_21 : decode m_N_byPrice.2.1 21 = .ok (.lload 7, 2) := by decide +kernel
theorem q_N_byPrice_23 : decode m_N_byPrice.2.1 23 = .ok (.aload_n 0, 1) := by decide +kernel
theorem q_N_byPrice_24 : decode m_N_byPrice.2.1 24 = .ok (.iload 9, 2) := by decide +kernel
theorem q_N_byPrice_26 : decode m_N_byPrice.2.1 26 = .ok (.lload_n 1, 1) := by decide +kernel
theorem q_N_byPrice_27 : decode m_N_byPrice.2.1 27 = .ok (.lload_n 3, 1) := by decide +kernel
theorem q_N_byPrice_28 : decode m_N_byPrice.2.1 28 = .ok (.invokevirtual 49, 3) := by decide +kernel
theorem q_N_byPrice_31 : decode m_N_byPrice.2.1 31 = .ok (.ladd, 1) := by decide +kernel
theorem q_N_byPrice_32 : decode m_N_byPrice.2.1 32 = .ok (.lstore 7, 2) := by decide +kernel
theorem q_N_byPrice_34 : decode m_N_byPrice.2.1 34 = .ok (.iinc 9 1, 3) := by decide +kernel
theorem q_N_byPrice_37 : decode m_N_byPrice.2.1 37 = .ok (.goto (-28), 3) := by decide +kernel
theorem q_N_byPrice_40 : decode m_N_byPrice.2.1 40 = .ok (.lload_n 3, 1) := by decide +kernel
theorem q_N_byPrice_41 : decode m_N_byPrice.2.1 41 = .ok (.lconst 0, 1) := by decide +kernel
theorem q_N_byPrice_42 : decode m_N_byPrice.2.1 42 = .ok (.lcmp, 1) := by decide +kernel
theorem q_N_byPrice_43 : decode m_N_byPrice.2.1 43 = .ok (.ifCond .le 10, 3) := by decide +kernel
theorem q_N_byPrice_46 : decode m_N_byPrice.2.1 46 = .ok (.lload 7, 2) := by decide +kernel
theorem q_N_byPrice_48 : decode m_N_byPrice.2.1 48 = .ok (.lload_n 3, 1) := by decide +kernel
theorem q_N_byPrice_49 : decode m_N_byPrice.2.1 49 = .ok (.ldiv, 1) := by decide +kernel
theorem q_N_byPrice_50 : decode m_N_byPrice.2.1 50 = .ok (.goto 4, 3) := by decide +kernel
theorem q_N_byPrice_53 : decode m_N_byPrice.2.1 53 = .ok (.lconst 0, 1) := by decide +kernel
theorem q_N_byPrice_54 : decode m_N_byPrice.2.1 54 = .ok (.lreturn, 1) := by decide +kernel
theorem q_N_mostPartsOf_0 : decode m_N_mostPartsOf.2.1 0 = .ok (.lconst 0, 1) := by decide +kernel
theorem q_N_mostPartsOf_1 : decode m_N_mostPartsOf.2.1 1 = .ok (.lstore 6, 2) := by decide +kernel
theorem q_N_mostPartsOf_3 : decode m_N_mostPartsOf.2.1 3 = .ok (.iconst 0, 1) := by decide +kernel
theorem q_N_mostPartsOf_4 : decode m_N_mostPartsOf.2.1 4 = .ok (.istore 8, 2) := by decide +kernel
theorem q_N_mostPartsOf_6 : decode m_N_mostPartsOf.2.1 6 = .ok (.iload 8, 2) := by decide +kernel
theorem q_N_mostPartsOf_8 : decode m_N_mostPartsOf.2.1 8 = .ok (.aload_n 0, 1) := by decide +kernel
theorem q_N_mostPartsOf_9 : decode m_N_mostPartsOf.2.1 9 = .ok (.getfield 7, 3) := by decide +kernel
theorem q_N_mostPartsOf_12 : decode m_N_mostPartsOf.2.1 12 = .ok (.getfield 34, 3) := by decide +kernel
theorem q_N_mostPartsOf_15 : decode m_N_mostPartsOf.2.1 15 = .ok (.if_icmp .ge 70, 3) := by decide +kernel
theorem q_N_mostPartsOf_18 : decode m_N_mostPartsOf.2.1 18 = .ok (.aload_n 0, 1) := by decide +kernel
theorem q_N_mostPartsOf_19 : decode m_N_mostPartsOf.2.1 19 = .ok (.getfield 7, 3) := by decide +kernel
theorem q_N_mostPartsOf_22 : decode m_N_mostPartsOf.2.1 22 = .ok (.getfield 53, 3) := by decide +kernel
theorem q_N_mostPartsOf_25 : decode m_N_mostPartsOf.2.1 25 = .ok (.iload 8, 2) := by decide +kernel
theorem q_N_mostPartsOf_27 : decode m_N_mostPartsOf.2.1 27 = .ok (.iaload, 1) := by decide +kernel
theorem q_N_mostPartsOf_28 : decode m_N_mostPartsOf.2.1 28 = .ok (.iload_n 1, 1) := by decide +kernel
theorem q_N_mostPartsOf_29 : decode m_N_mostPartsOf.2.1 29 = .ok (.if_icmp .ne 50, 3) := by decide +kernel
theorem q_N_mostPartsOf_32 : decode m_N_mostPartsOf.2.1 32 = .ok (.aload_n 0, 1) := by decide +kernel
theorem q_N_mostPartsOf_33 : decode m_N_mostPartsOf.2.1 33 = .ok (.getfield 7, 3) := by decide +kernel
theorem q_N_mostPartsOf_36 : decode m_N_mostPartsOf.2.1 36 = .ok (.getfield 37, 3) := by decide +kernel
theorem q_N_mostPartsOf_39 : decode m_N_mostPartsOf.2.1 39 = .ok (.iload 8, 2) := by decide +kernel
theorem q_N_mostPartsOf_41 : decode m_N_mostPartsOf.2.1 41 = .ok (.laload, 1) := by decide +kernel
theorem q_N_mostPartsOf_42 : decode m_N_mostPartsOf.2.1 42 = .ok (.aload_n 0, 1) := by decide +kernel
theorem q_N_mostPartsOf_43 : decode m_N_mostPartsOf.2.1 43 = .ok (.getfield 7, 3) := by decide +kernel
theorem q_N_mostPartsOf_46 : decode m_N_mostPartsOf.2.1 46 = .ok (.iload 8, 2) := by decide +kernel
theorem q_N_mostPartsOf_48 : decode m_N_mostPartsOf.2.1 48 = .ok (.invokevirtual 57, 3) := by decide +kernel
theorem q_N_mostPartsOf_51 : decode m_N_mostPartsOf.2.1 51 = .ok (.lsub, 1) := by decide +kernel
theorem q_N_mostPartsOf_52 : decode m_N_mostPartsOf.2.1 52 = .ok (.lstore 9, 2) := by decide +kernel
theorem q_N_mostPartsOf_54 : decode m_N_mostPartsOf.2.1 54 = .ok (.lload 6, 2) := by decide +kernel
theorem q_N_mostPartsOf_56 : decode m_N_mostPartsOf.2.1 56 = .ok (.aload_n 0, 1) := by decide +kernel
theorem q_N_mostPartsOf_57 : decode m_N_mostPartsOf.2.1 57 = .ok (.getfield 7, 3) := by decide +kernel
theorem q_N_mostPartsOf_60 : decode m_N_mostPartsOf.2.1 60 = .ok (.getfield 40, 3) := by decide +kernel
theorem q_N_mostPartsOf_63 : decode m_N_mostPartsOf.2.1 63 = .ok (.iload 8, 2) := by decide +kernel
theorem q_N_mostPartsOf_65 : decode m_N_mostPartsOf.2.1 65 = .ok (.laload, 1) := by decide +kernel
theorem q_N_mostPartsOf_66 : decode m_N_mostPartsOf.2.1 66 = .ok (.lload 4, 2) := by decide +kernel
theorem q_N_mostPartsOf_68 : decode m_N_mostPartsOf.2.1 68 = .ok (.lmul, 1) := by decide +kernel
theorem q_N_mostPartsOf_69 : decode m_N_mostPartsOf.2.1 69 = .ok (.lload_n 2, 1) := by decide +kernel
theorem q_N_mostPartsOf_70 : decode m_N_mostPartsOf.2.1 70 = .ok (.lload 9, 2) := by decide +kernel
theorem q_N_mostPartsOf_72 : decode m_N_mostPartsOf.2.1 72 = .ok (.lmul, 1) := by decide +kernel
theorem q_N_mostPartsOf_73 : decode m_N_mostPartsOf.2.1 73 = .ok (.lsub, 1) := by decide +kernel
theorem q_N_mostPartsOf_74 : decode m_N_mostPartsOf.2.1 74 = .ok (.invokestatic 60, 3) := by decide +kernel
theorem q_N_mostPartsOf_77 : decode m_N_mostPartsOf.2.1 77 = .ok (.lstore 6, 2) := by decide +kernel
theorem q_N_mostPartsOf_79 : decode m_N_mostPartsOf.2.1 79 = .ok (.iinc 8 1, 3) := by decide +kernel
theorem q_N_mostPartsOf_82 : decode m_N_mostPartsOf.2.1 82 = .ok (.goto (-76), 3) := by decide +kernel
theorem q_N_mostPartsOf_85 : decode m_N_mostPartsOf.2.1 85 = .ok (.lload 6, 2) := by decide +kernel
theorem q_N_mostPartsOf_87 : decode m_N_mostPartsOf.2.1 87 = .ok (.lreturn, 1) := by decide +kernel
theorem q_P_init_0 : decode m_P_init.2.1 0 = .ok (.aload_n 0, 1) := by decide +kernel
theorem q_P_init_1 : decode m_P_init.2.1 1 = .ok (.invokespecial 3, 3) := by decide +kernel
theorem q_P_init_4 : decode m_P_init.2.1 4 = .ok (.aload_n 0, 1) := by decide +kernel
theorem q_P_init_5 : decode m_P_init.2.1 5 = .ok (.bipush 14, 2) := by decide +kernel
theorem q_P_init_7 : decode m_P_init.2.1 7 = .ok (.newarray .int, 2) := by decide +kernel
theorem q_P_init_9 : decode m_P_init.2.1 9 = .ok (.putfield 9, 3) := by decide +kernel
theorem q_P_init_12 : decode m_P_init.2.1 12 = .ok (.aload_n 0, 1) := by decide +kernel
theorem q_P_init_13 : decode m_P_init.2.1 13 = .ok (.aload_n 1, 1) := by decide +kernel
theorem q_P_init_14 : decode m_P_init.2.1 14 = .ok (.putfield 15, 3) := by decide +kernel
theorem q_P_init_17 : decode m_P_init.2.1 17 = .ok (.return_, 1) := by decide +kernel
theorem q_P_planBy_0 : decode m_P_planBy.2.1 0 = .ok (.aload_n 0, 1) := by decide +kernel
theorem q_P_planBy_1 : decode m_P_planBy.2.1 1 = .ok (.getfield 15, 3) := by decide +kernel
theorem q_P_planBy_4 : decode m_P_planBy.2.1 4 = .ok (.getfield 19, 3) := by decide +kernel
theorem q_P_planBy_7 : decode m_P_planBy.2.1 7 = .ok (.istore_n 2, 1) := by decide +kernel
theorem q_P_planBy_8 : decode m_P_planBy.2.1 8 = .ok (.iload_n 1, 1) := by decide +kernel
theorem q_P_planBy_9 : decode m_P_planBy.2.1 9 = .ok (.ifCond .lt 16, 3) := by decide +kernel
theorem q_P_planBy_12 : decode m_P_planBy.2.1 12 = .ok (.iload_n 1, 1) := by decide +kernel
theorem q_P_planBy_13 : decode m_P_planBy.2.1 13 = .ok (.iconst 3, 1) := by decide +kernel
theorem q_P_planBy_14 : decode m_P_planBy.2.1 14 = .ok (.if_icmp .ge 11, 3) := by decide +kernel
theorem q_P_planBy_17 : decode m_P_planBy.2.1 17 = .ok (.aload_n 0, 1) := by decide +kernel
theorem q_P_planBy_18 : decode m_P_planBy.2.1 18 = .ok (.iload_n 2, 1) := by decide +kernel
theorem q_P_planBy_19 : decode m_P_planBy.2.1 19 = .ok (.invokevirtual 25, 3) := by decide +kernel
theorem q_P_planBy_22 : decode m_P_planBy.2.1 22 = .ok (.ifCond .ne 5, 3) := by decide +kernel
theorem q_P_planBy_25 : decode m_P_planBy.2.1 25 = .ok (.iconst (-1), 1) := by decide +kernel
theorem q_P_planBy_26 : decode m_P_planBy.2.1 26 = .ok (.ireturn, 1) := by decide +kernel
theorem q_P_planBy_27 : decode m_P_planBy.2.1 27 = .ok (.aload_n 0, 1) := by decide +kernel
theorem q_P_planBy_28 : decode m_P_planBy.2.1 28 = .ok (.iload_n 1, 1) := by decide +kernel
theorem q_P_planBy_29 : decode m_P_planBy.2.1 29 = .ok (.invokevirtual 29, 3) := by decide +kernel
theorem q_P_planBy_32 : decode m_P_planBy.2.1 32 = .ok (.iconst 0, 1) := by decide +kernel
theorem q_P_planBy_33 : decode m_P_planBy.2.1 33 = .ok (.istore_n 3, 1) := by decide +kernel
theorem q_P_planBy_34 : decode m_P_planBy.2.1 34 = .ok (.iload_n 3, 1) := by decide +kernel
theorem q_P_planBy_35 : decode m_P_planBy.2.1 35 = .ok (.aload_n 0, 1) := by decide +kernel
theorem q_P_planBy_36 : decode m_P_planBy.2.1 36 = .ok (.getfield 15, 3) := by decide +kernel
theorem q_P_planBy_39 : decode m_P_planBy.2.1 39 = .ok (.getfield 33, 3) := by decide +kernel
theorem q_P_planBy_42 : decode m_P_planBy.2.1 42 = .ok (.if_icmp .ge 33, 3) := by decide +kernel
theorem q_P_planBy_45 : decode m_P_planBy.2.1 45 = .ok (.iload_n 2, 1) := by decide +kernel
theorem q_P_planBy_46 : decode m_P_planBy.2.1 46 = .ok (.iconst 1, 1) := by decide +kernel
theorem q_P_planBy_47 : decode m_P_planBy.2.1 47 = .ok (.aload_n 0, 1) := by decide +kernel
theorem q_P_planBy_48 : decode m_P_planBy.2.1 48 = .ok (.getfield 9, 3) := by decide +kernel
theorem q_P_planBy_51 : decode m_P_planBy.2.1 51 = .ok (.iload_n 3, 1) := by decide +kernel
theorem q_P_planBy_52 : decode m_P_planBy.2.1 52 = .ok (.iaload, 1) := by decide +kernel
theorem q_P_planBy_53 : decode m_P_planBy.2.1 53 = .ok (.ishl, 1) := by decide +kernel
theorem q_P_planBy_54 : decode m_P_planBy.2.1 54 = .ok (.ior, 1) := by decide +kernel
theorem q_P_planBy_55 : decode m_P_planBy.2.1 55 = .ok (.istore 4, 2) := by decide +kernel
theorem q_P_planBy_57 : decode m_P_planBy.2.1 57 = .ok (.aload_n 0, 1) := by decide +kernel
theorem q_P_planBy_58 : decode m_P_planBy.2.1 58 = .ok (.iload 4, 2) := by decide +kernel
theorem q_P_planBy_60 : decode m_P_planBy.2.1 60 = .ok (.invokevirtual 25, 3) := by decide +kernel
theorem q_P_planBy_63 : decode m_P_planBy.2.1 63 = .ok (.ifCond .eq 6, 3) := by decide +kernel
theorem q_P_planBy_66 : decode m_P_planBy.2.1 66 = .ok (.iload 4, 2) := by decide +kernel
theorem q_P_planBy_68 : decode m_P_planBy.2.1 68 = .ok (.istore_n 2, 1) := by decide +kernel
theorem q_P_planBy_69 : decode m_P_planBy.2.1 69 = .ok (.iinc 3 1, 3) := by decide +kernel
theorem q_P_planBy_72 : decode m_P_planBy.2.1 72 = .ok (.goto (-38), 3) := by decide +kernel
theorem q_P_planBy_75 : decode m_P_planBy.2.1 75 = .ok (.iload_n 2, 1) := by decide +kernel
theorem q_P_planBy_76 : decode m_P_planBy.2.1 76 = .ok (.ireturn, 1) := by decide +kernel
theorem q_P_isPossible_0 : decode m_P_isPossible.2.1 0 = .ok (.aload_n 0, 1) := by decide +kernel
theorem q_P_isPossible_1 : decode m_P_isPossible.2.1 1 = .ok (.getfield 15, 3) := by decide +kernel
theorem q_P_isPossible_4 : decode m_P_isPossible.2.1 4 = .ok (.iload_n 1, 1) := by decide +kernel
theorem q_P_isPossible_5 : decode m_P_isPossible.2.1 5 = .ok (.invokevirtual 36, 3) := by decide +kernel
theorem q_P_isPossible_8 : decode m_P_isPossible.2.1 8 = .ok (.ifCond .eq 18, 3) := by decide +kernel
theorem q_P_isPossible_11 : decode m_P_isPossible.2.1 11 = .ok (.aload_n 0, 1) := by decide +kernel
theorem q_P_isPossible_12 : decode m_P_isPossible.2.1 12 = .ok (.getfield 15, 3) := by decide +kernel
theorem q_P_isPossible_15 : decode m_P_isPossible.2.1 15 = .ok (.iload_n 1, 1) := by decide +kernel
theorem q_P_isPossible_16 : decode m_P_isPossible.2.1 16 = .ok (.invokevirtual 39, 3) := by decide +kernel
theorem q_P_isPossible_19 : decode m_P_isPossible.2.1 19 = .ok (.ifCond .eq 7, 3) := by decide +kernel
theorem q_P_isPossible_22 : decode m_P_isPossible.2.1 22 = .ok (.iconst 1, 1) := by decide +kernel
theorem q_P_isPossible_23 : decode m_P_isPossible.2.1 23 = .ok (.goto 4, 3) := by decide +kernel
theorem q_P_isPossible_26 : decode m_P_isPossible.2.1 26 = .ok (.iconst 0, 1) := by decide +kernel
theorem q_P_isPossible_27 : decode m_P_isPossible.2.1 27 = .ok (.ireturn, 1) := by decide +kernel
theorem q_P_putInOrder_0 : decode m_P_putInOrder.2.1 0 = .ok (.iconst 0, 1) := by decide +kernel
theorem q_P_putInOrder_1 : decode m_P_putInOrder.2.1 1 = .ok (.istore_n 2, 1) := by decide +kernel
theorem q_P_putInOrder_2 : decode m_P_putInOrder.2.1 2 = .ok (.iload_n 2, 1) := by decide +kernel
theorem q_P_putInOrder_3 : decode m_P_putInOrder.2.1 3 = .ok (.aload_n 0, 1) := by decide +kernel
theorem q_P_putInOrder_4 : decode m_P_putInOrder.2.1 4 = .ok (.getfield 15, 3) := by decide +kernel
theorem q_P_putInOrder_7 : decode m_P_putInOrder.2.1 7 = .ok (.getfield 33, 3) := by decide +kernel
theorem q_P_putInOrder_10 : decode m_P_putInOrder.2.1 10 = .ok (.if_icmp .ge 53, 3) := by decide +kernel
theorem q_P_putInOrder_13 : decode m_P_putInOrder.2.1 13 = .ok (.iconst 0, 1) := by decide +kernel
theorem q_P_putInOrder_14 : decode m_P_putInOrder.2.1 14 = .ok (.istore_n 3, 1) := by decide +kernel
theorem q_P_putInOrder_15 : decode m_P_putInOrder.2.1 15 = .ok (.iconst 0, 1) := by decide +kernel
theorem q_P_putInOrder_16 : decode m_P_putInOrder.2.1 16 = .ok (.istore 4, 2) := by decide +kernel
theorem q_P_putInOrder_18 : decode m_P_putInOrder.2.1 18 = .ok (.iload 4, 2) := by decide +kernel
theorem q_P_putInOrder_20 : decode m_P_putInOrder.2.1 20 = .ok (.aload_n 0, 1) := by decide +kernel
theorem q_P_putInOrder_21 : decode m_P_putInOrder.2.1 21 = .ok (.getfield 15, 3) := by decide +kernel
theorem q_P_putInOrder_24 : decode m_P_putInOrder.2.1 24 = .ok (.getfield 33, 3) := by decide +kernel
theorem q_P_putInOrder_27 : decode m_P_putInOrder.2.1 27 = .ok (.if_icmp .ge 23, 3) := by decide +kernel
theorem q_P_putInOrder_30 : decode m_P_putInOrder.2.1 30 = .ok (.aload_n 0, 1) := by decide +kernel
theorem q_P_putInOrder_31 : decode m_P_putInOrder.2.1 31 = .ok (.iload_n 1, 1) := by decide +kernel
theorem q_P_putInOrder_32 : decode m_P_putInOrder.2.1 32 = .ok (.iload 4, 2) := by decide +kernel
theorem q_P_putInOrder_34 : decode m_P_putInOrder.2.1 34 = .ok (.iload_n 2, 1) := by decide +kernel
theorem q_P_putInOrder_35 : decode m_P_putInOrder.2.1 35 = .ok (.invokevirtual 42, 3) := by decide +kernel
theorem q_P_putInOrder_38 : decode m_P_putInOrder.2.1 38 = .ok (.ifCond .eq 6, 3) := by decide +kernel
theorem q_P_putInOrder_41 : decode m_P_putInOrder.2.1 41 = .ok (.iinc 3 1, 3) := by decide +kernel
theorem q_P_putInOrder_44 : decode m_P_putInOrder.2.1 44 = .ok (.iinc 4 1, 3) := by decide +kernel
theorem q_P_putInOrder_47 : decode m_P_putInOrder.2.1 47 = .ok (.goto (-29), 3) := by decide +kernel
theorem q_P_putInOrder_50 : decode m_P_putInOrder.2.1 50 = .ok (.aload_n 0, 1) := by decide +kernel
theorem q_P_putInOrder_51 : decode m_P_putInOrder.2.1 51 = .ok (.getfield 9, 3) := by decide +kernel
theorem q_P_putInOrder_54 : decode m_P_putInOrder.2.1 54 = .ok (.iload_n 3, 1) := by decide +kernel
theorem q_P_putInOrder_55 : decode m_P_putInOrder.2.1 55 = .ok (.iload_n 2, 1) := by decide +kernel
theorem q_P_putInOrder_56 : decode m_P_putInOrder.2.1 56 = .ok (.iastore, 1) := by decide +kernel
theorem q_P_putInOrder_57 : decode m_P_putInOrder.2.1 57 = .ok (.iinc 2 1, 3) := by decide +kernel
theorem q_P_putInOrder_60 : decode m_P_putInOrder.2.1 60 = .ok (.goto (-58), 3) := by decide +kernel
theorem q_P_putInOrder_63 : decode m_P_putInOrder.2.1 63 = .ok (.return_, 1) := by decide +kernel
theorem q_P_goesBefore_0 : decode m_P_goesBefore.2.1 0 = .ok (.iload_n 1, 1) := by decide +kernel
theorem q_P_goesBefore_1 : decode m_P_goesBefore.2.1 1 = .ok (.iconst 1, 1) := by decide +kernel
theorem q_P_goesBefore_2 : decode m_P_goesBefore.2.1 2 = .ok (.if_icmp .ne 12, 3) := by decide +kernel
theorem q_P_goesBefore_5 : decode m_P_goesBefore.2.1 5 = .ok (.aload_n 0, 1) := by decide +kernel
theorem q_P_goesBefore_6 : decode m_P_goesBefore.2.1 6 = .ok (.iload_n 2, 1) := by decide +kernel
theorem q_P_goesBefore_7 : decode m_P_goesBefore.2.1 7 = .ok (.iload_n 3, 1) := by decide +kernel
theorem q_P_goesBefore_8 : decode m_P_goesBefore.2.1 8 = .ok (.invokevirtual 46, 3) := by decide +kernel
theorem q_P_goesBefore_11 : decode m_P_goesBefore.2.1 11 = .ok (.goto 22, 3) := by decide +kernel
theorem q_P_goesBefore_14 : decode m_P_goesBefore.2.1 14 = .ok (.aload_n 0, 1) := by decide +kernel
theorem q_P_goesBefore_15 : decode m_P_goesBefore.2.1 15 = .ok (.getfield 15, 3) := by decide +kernel
theorem q_P_goesBefore_18 : decode m_P_goesBefore.2.1 18 = .ok (.getfield 50, 3) := by decide +kernel
theorem q_P_goesBefore_21 : decode m_P_goesBefore.2.1 21 = .ok (.iload_n 2, 1) := by decide +kernel
theorem q_P_goesBefore_22 : decode m_P_goesBefore.2.1 22 = .ok (.laload, 1) := by decide +kernel
theorem q_P_goesBefore_23 : decode m_P_goesBefore.2.1 23 = .ok (.aload_n 0, 1) := by decide +kernel
theorem q_P_goesBefore_24 : decode m_P_goesBefore.2.1 24 = .ok (.getfield 15, 3) := by decide +kernel
theorem q_P_goesBefore_27 : decode m_P_goesBefore.2.1 27 = .ok (.getfield 50, 3) := by decide +kernel
theorem q_P_goesBefore_30 : decode m_P_goesBefore.2.1 30 = .ok (.iload_n 3, 1) := by decide +kernel
theorem q_P_goesBefore_31 : decode m_P_goesBefore.2.1 31 = .ok (.laload, 1) := by decide +kernel
theorem q_P_goesBefore_32 : decode m_P_goesBefore.2.1 32 = .ok (.lsub, 1) := by decide +kernel
theorem q_P_goesBefore_33 : decode m_P_goesBefore.2.1 33 = .ok (.lstore 4, 2) := by decide +kernel
theorem q_P_goesBefore_35 : decode m_P_goesBefore.2.1 35 = .ok (.iload_n 1, 1) := by decide +kernel
theorem q_P_goesBefore_36 : decode m_P_goesBefore.2.1 36 = .ok (.iconst 2, 1) := by decide +kernel
theorem q_P_goesBefore_37 : decode m_P_goesBefore.2.1 37 = .ok (.if_icmp .ne 46, 3) := by decide +kernel
theorem q_P_goesBefore_40 : decode m_P_goesBefore.2.1 40 = .ok (.aload_n 0, 1) := by decide +kernel
theorem q_P_goesBefore_41 : decode m_P_goesBefore.2.1 41 = .ok (.getfield 15, 3) := by decide +kernel
theorem q_P_goesBefore_44 : decode m_P_goesBefore.2.1 44 = .ok (.getfield 54, 3) := by decide +kernel
theorem q_P_goesBefore_47 : decode m_P_goesBefore.2.1 47 = .ok (.iload_n 2, 1) := by decide +kernel
theorem q_P_goesBefore_48 : decode m_P_goesBefore.2.1 48 = .ok (.iaload, 1) := by decide +kernel
theorem q_P_goesBefore_49 : decode m_P_goesBefore.2.1 49 = .ok (.aload_n 0, 1) := by decide +kernel
theorem q_P_goesBefore_50 : decode m_P_goesBefore.2.1 50 = .ok (.getfield 15, 3) := by decide +kernel
theorem q_P_goesBefore_53 : decode m_P_goesBefore.2.1 53 = .ok (.getfield 54, 3) := by decide +kernel
theorem q_P_goesBefore_56 : decode m_P_goesBefore.2.1 56 = .ok (.iload_n 3, 1) := by decide +kernel
theorem q_P_goesBefore_57 : decode m_P_goesBefore.2.1 57 = .ok (.iaload, 1) := by decide +kernel
theorem q_P_goesBefore_58 : decode m_P_goesBefore.2.1 58 = .ok (.if_icmp .eq 25, 3) := by decide +kernel
theorem q_P_goesBefore_61 : decode m_P_goesBefore.2.1 61 = .ok (.aload_n 0, 1) := by decide +kernel
theorem q_P_goesBefore_62 : decode m_P_goesBefore.2.1 62 = .ok (.getfield 15, 3) := by decide +kernel
theorem q_P_goesBefore_65 : decode m_P_goesBefore.2.1 65 = .ok (.getfield 54, 3) := by decide +kernel
theorem q_P_goesBefore_68 : decode m_P_goesBefore.2.1 68 = .ok (.iload_n 3, 1) := by decide +kernel
theorem q_P_goesBefore_69 : decode m_P_goesBefore.2.1 69 = .ok (.iaload, 1) := by decide +kernel
theorem q_P_goesBefore_70 : decode m_P_goesBefore.2.1 70 = .ok (.aload_n 0, 1) := by decide +kernel
theorem q_P_goesBefore_71 : decode m_P_goesBefore.2.1 71 = .ok (.getfield 15, 3) := by decide +kernel
theorem q_P_goesBefore_74 : decode m_P_goesBefore.2.1 74 = .ok (.getfield 54, 3) := by decide +kernel
theorem q_P_goesBefore_77 : decode m_P_goesBefore.2.1 77 = .ok (.iload_n 2, 1) := by decide +kernel
theorem q_P_goesBefore_78 : decode m_P_goesBefore.2.1 78 = .ok (.iaload, 1) := by decide +kernel
theorem q_P_goesBefore_79 : decode m_P_goesBefore.2.1 79 = .ok (.isub, 1) := by decide +kernel
theorem q_P_goesBefore_80 : decode m_P_goesBefore.2.1 80 = .ok (.i2l, 1) := by decide +kernel
theorem q_P_goesBefore_81 : decode m_P_goesBefore.2.1 81 = .ok (.lstore 4, 2) := by decide +kernel
theorem q_P_goesBefore_83 : decode m_P_goesBefore.2.1 83 = .ok (.lload 4, 2) := by decide +kernel
theorem q_P_goesBefore_85 : decode m_P_goesBefore.2.1 85 = .ok (.lconst 0, 1) := by decide +kernel
theorem q_P_goesBefore_86 : decode m_P_goesBefore.2.1 86 = .ok (.lcmp, 1) := by decide +kernel
theorem q_P_goesBefore_87 : decode m_P_goesBefore.2.1 87 = .ok (.ifCond .eq 18, 3) := by decide +kernel
theorem q_P_goesBefore_90 : decode m_P_goesBefore.2.1 90 = .ok (.lload 4, 2) := by decide +kernel
theorem q_P_goesBefore_92 : decode m_P_goesBefore.2.1 92 = .ok (.lconst 0, 1) := by decide +kernel
theorem q_P_goesBefore_93 : decode m_P_goesBefore.2.1 93 = .ok (.lcmp, 1) := by decide +kernel
theorem q_P_goesBefore_94 : decode m_P_goesBefore.2.1 94 = .ok (.ifCond .le 7, 3) := by decide +kernel
theorem q_P_goesBefore_97 : decode m_P_goesBefore.2.1 97 = .ok (.iconst 1, 1) := by decide +kernel
theorem q_P_goesBefore_98 : decode m_P_goesBefore.2.1 98 = .ok (.goto 17, 3) := by decide +kernel
theorem q_P_goesBefore_101 : decode m_P_goesBefore.2.1 101 = .ok (.iconst 0, 1) := by decide +kernel
theorem q_P_goesBefore_102 : decode m_P_goesBefore.2.1 102 = .ok (.goto 13, 3) := by decide +kernel
theorem q_P_goesBefore_105 : decode m_P_goesBefore.2.1 105 = .ok (.iload_n 2, 1) := by decide +kernel
theorem q_P_goesBefore_106 : decode m_P_goesBefore.2.1 106 = .ok (.iload_n 3, 1) := by decide +kernel
theorem q_P_goesBefore_107 : decode m_P_goesBefore.2.1 107 = .ok (.if_icmp .ge 7, 3) := by decide +kernel
theorem q_P_goesBefore_110 : decode m_P_goesBefore.2.1 110 = .ok (.iconst 1, 1) := by decide +kernel
theorem q_P_goesBefore_111 : decode m_P_goesBefore.2.1 111 = .ok (.goto 4, 3) := by decide +kernel
theorem q_P_goesBefore_114 : decode m_P_goesBefore.2.1 114 = .ok (.iconst 0, 1) := by decide +kernel
theorem q_P_goesBefore_115 : decode m_P_goesBefore.2.1 115 = .ok (.ireturn, 1) := by decide +kernel
theorem q_P_leadByWorthByCost_0 : decode m_P_leadByWorthByCost.2.1 0 = .ok (.aload_n 0, 1) := by decide +kernel
theorem q_P_leadByWorthByCost_1 : decode m_P_leadByWorthByCost.2.1 1 = .ok (.getfield 15, 3) := by decide +kernel
theorem q_P_leadByWorthByCost_4 : decode m_P_leadByWorthByCost.2.1 4 = .ok (.getfield 57, 3) := by decide +kernel
theorem q_P_leadByWorthByCost_7 : decode m_P_leadByWorthByCost.2.1 7 = .ok (.iload_n 1, 1) := by decide +kernel
theorem q_P_leadByWorthByCost_8 : decode m_P_leadByWorthByCost.2.1 8 = .ok (.laload, 1) := by decide +kernel
theorem q_P_leadByWorthByCost_9 : decode m_P_leadByWorthByCost.2.1 9 = .ok (.lstore_n 3, 1) := by decide +kernel
theorem q_P_leadByWorthByCost_10 : decode m_P_leadByWorthByCost.2.1 10 = .ok (.aload_n 0, 1) := by decide +kernel
theorem q_P_leadByWorthByCost_11 : decode m_P_leadByWorthByCost.2.1 11 = .ok (.getfield 15, 3) := by decide +kernel
theorem q_P_leadByWorthByCost_14 : decode m_P_leadByWorthByCost.2.1 14 = .ok (.getfield 57, 3) := by decide +kernel
theorem q_P_leadByWorthByCost_17 : decode m_P_leadByWorthByCost.2.1 17 = .ok (.iload_n 2, 1) := by decide +kernel
theorem q_P_leadByWorthByCost_18 : decode m_P_leadByWorthByCost.2.1 18 = .ok (.laload, 1) := by decide +kernel
theorem q_P_leadByWorthByCost_19 : decode m_P_leadByWorthByCost.2.1 19 = .ok (.lstore 5, 2) := by decide +kernel
theorem q_P_leadByWorthByCost_21 : decode m_P_leadByWorthByCost.2.1 21 = .ok (.lload_n 3, 1) := by decide +kernel
theorem q_P_leadByWorthByCost_22 : decode m_P_leadByWorthByCost.2.1 22 = .ok (.lconst 0, 1) := by decide +kernel
theorem q_P_leadByWorthByCost_23 : decode m_P_leadByWorthByCost.2.1 23 = .ok (.lcmp, 1) := by decide +kernel
theorem q_P_leadByWorthByCost_24 : decode m_P_leadByWorthByCost.2.1 24 = .ok (.ifCond .eq 10, 3) := by decide +kernel
theorem q_P_leadByWorthByCost_27 : decode m_P_leadByWorthByCost.2.1 27 = .ok (.lload 5, 2) := by decide +kernel
theorem q_P_leadByWorthByCost_29 : decode m_P_leadByWorthByCost.2.1 29 = .ok (.lconst 0, 1) := by decide +kernel
theorem q_P_leadByWorthByCost_30 : decode m_P_leadByWorthByCost.2.1 30 = .ok (.lcmp, 1) := by decide +kernel
theorem q_P_leadByWorthByCost_31 : decode m_P_leadByWorthByCost.2.1 31 = .ok (.ifCond .ne 11, 3) := by decide +kernel
theorem q_P_leadByWorthByCost_34 : decode m_P_leadByWorthByCost.2.1 34 = .ok (.lload 5, 2) := by decide +kernel
theorem q_P_leadByWorthByCost_36 : decode m_P_leadByWorthByCost.2.1 36 = .ok (.lload_n 3, 1) := by decide +kernel
theorem q_P_leadByWorthByCost_37 : decode m_P_leadByWorthByCost.2.1 37 = .ok (.invokestatic 60, 3) := by decide +kernel
theorem q_P_leadByWorthByCost_40 : decode m_P_leadByWorthByCost.2.1 40 = .ok (.i2l, 1) := by decide +kernel
theorem q_P_leadByWorthByCost_41 : decode m_P_leadByWorthByCost.2.1 41 = .ok (.lreturn, 1) := by decide +kernel
theorem q_P_leadByWorthByCost_42 : decode m_P_leadByWorthByCost.2.1 42 = .ok (.aload_n 0, 1) := by decide +kernel
theorem q_P_leadByWorthByCost_43 : decode m_P_leadByWorthByCost.2.1 43 = .ok (.getfield 15, 3) := by decide +kernel
theorem q_P_leadByWorthByCost_46 : decode m_P_leadByWorthByCost.2.1 46 = .ok (.getfield 50, 3) := by decide +kernel
theorem q_P_leadByWorthByCost_49 : decode m_P_leadByWorthByCost.2.1 49 = .ok (.iload_n 1, 1) := by decide +kernel
theorem q_P_leadByWorthByCost_50 : decode m_P_leadByWorthByCost.2.1 50 = .ok (.laload, 1) := by decide +kernel
theorem q_P_leadByWorthByCost_51 : decode m_P_leadByWorthByCost.2.1 51 = .ok (.lload 5, 2) := by decide +kernel
theorem q_P_leadByWorthByCost_53 : decode m_P_leadByWorthByCost.2.1 53 = .ok (.lmul, 1) := by decide +kernel
theorem q_P_leadByWorthByCost_54 : decode m_P_leadByWorthByCost.2.1 54 = .ok (.aload_n 0, 1) := by decide +kernel
theorem q_P_leadByWorthByCost_55 : decode m_P_leadByWorthByCost.2.1 55 = .ok (.getfield 15, 3) := by decide +kernel
theorem q_P_leadByWorthByCost_58 : decode m_P_leadByWorthByCost.2.1 58 = .ok (.getfield 50, 3) := by decide +kernel
theorem q_P_leadByWorthByCost_61 : decode m_P_leadByWorthByCost.2.1 61 = .ok (.iload_n 2, 1) := by decide +kernel
theorem q_P_leadByWorthByCost_62 : decode m_P_leadByWorthByCost.2.1 62 = .ok (.laload, 1) := by decide +kernel
theorem q_P_leadByWorthByCost_63 : decode m_P_leadByWorthByCost.2.1 63 = .ok (.lload_n 3, 1) := by decide +kernel
theorem q_P_leadByWorthByCost_64 : decode m_P_leadByWorthByCost.2.1 64 = .ok (.lmul, 1) := by decide +kernel
theorem q_P_leadByWorthByCost_65 : decode m_P_leadByWorthByCost.2.1 65 = .ok (.lsub, 1) := by decide +kernel
theorem q_P_leadByWorthByCost_66 : decode m_P_leadByWorthByCost.2.1 66 = .ok (.lreturn, 1) := by decide +kernel
theorem q_W_init_0 : decode m_W_init.2.1 0 = .ok (.aload_n 0, 1) := by decide +kernel
theorem q_W_init_1 : decode m_W_init.2.1 1 = .ok (.invokespecial 3, 3) := by decide +kernel
theorem q_W_init_4 : decode m_W_init.2.1 4 = .ok (.aload_n 0, 1) := by decide +kernel
theorem q_W_init_5 : decode m_W_init.2.1 5 = .ok (.bipush 6, 2) := by decide +kernel
theorem q_W_init_7 : decode m_W_init.2.1 7 = .ok (.newarray .long, 2) := by decide +kernel
theorem q_W_init_9 : decode m_W_init.2.1 9 = .ok (.putfield 9, 3) := by decide +kernel
theorem q_W_init_12 : decode m_W_init.2.1 12 = .ok (.aload_n 0, 1) := by decide +kernel
theorem q_W_init_13 : decode m_W_init.2.1 13 = .ok (.bipush 12, 2) := by decide +kernel
theorem q_W_init_15 : decode m_W_init.2.1 15 = .ok (.newarray .int, 2) := by decide +kernel
theorem q_W_init_17 : decode m_W_init.2.1 17 = .ok (.putfield 15, 3) := by decide +kernel
theorem q_W_init_20 : decode m_W_init.2.1 20 = .ok (.aload_n 0, 1) := by decide +kernel
theorem q_W_init_21 : decode m_W_init.2.1 21 = .ok (.bipush 12, 2) := by decide +kernel
theorem q_W_init_23 : decode m_W_init.2.1 23 = .ok (.newarray .int, 2) := by decide +kernel
theorem q_W_init_25 : decode m_W_init.2.1 25 = .ok (.putfield 19, 3) := by decide +kernel
theorem q_W_init_28 : decode m_W_init.2.1 28 = .ok (.aload_n 0, 1) := by decide +kernel
theorem q_W_init_29 : decode m_W_init.2.1 29 = .ok (.bipush 14, 2) := by decide +kernel
theorem q_W_init_31 : decode m_W_init.2.1 31 = .ok (.newarray .int, 2) := by decide +kernel
theorem q_W_init_33 : decode m_W_init.2.1 33 = .ok (.putfield 22, 3) := by decide +kernel
theorem q_W_init_36 : decode m_W_init.2.1 36 = .ok (.aload_n 0, 1) := by decide +kernel
theorem q_W_init_37 : decode m_W_init.2.1 37 = .ok (.bipush 14, 2) := by decide +kernel
theorem q_W_init_39 : decode m_W_init.2.1 39 = .ok (.newarray .int, 2) := by decide +kernel
theorem q_W_init_41 : decode m_W_init.2.1 41 = .ok (.putfield 25, 3) := by decide +kernel
theorem q_W_init_44 : decode m_W_init.2.1 44 = .ok (.aload_n 0, 1) := by decide +kernel
theorem q_W_init_45 : decode m_W_init.2.1 45 = .ok (.bipush 14, 2) := by decide +kernel
theorem q_W_init_47 : decode m_W_init.2.1 47 = .ok (.newarray .long, 2) := by decide +kernel
theorem q_W_init_49 : decode m_W_init.2.1 49 = .ok (.putfield 28, 3) := by decide +kernel
theorem q_W_init_52 : decode m_W_init.2.1 52 = .ok (.aload_n 0, 1) := by decide +kernel
theorem q_W_init_53 : decode m_W_init.2.1 53 = .ok (.bipush 14, 2) := by decide +kernel
theorem q_W_init_55 : decode m_W_init.2.1 55 = .ok (.newarray .long, 2) := by decide +kernel
theorem q_W_init_57 : decode m_W_init.2.1 57 = .ok (.putfield 31, 3) := by decide +kernel
theorem q_W_init_60 : decode m_W_init.2.1 60 = .ok (.aload_n 0, 1) := by decide +kernel
theorem q_W_init_61 : decode m_W_init.2.1 61 = .ok (.bipush 14, 2) := by decide +kernel
theorem q_W_init_63 : decode m_W_init.2.1 63 = .ok (.newarray .int, 2) := by decide +kernel
theorem q_W_init_65 : decode m_W_init.2.1 65 = .ok (.putfield 34, 3) := by decide +kernel
theorem q_W_init_68 : decode m_W_init.2.1 68 = .ok (.aload_n 0, 1) := by decide +kernel
theorem q_W_init_69 : decode m_W_init.2.1 69 = .ok (.bipush 14, 2) := by decide +kernel
theorem q_W_init_71 : decode m_W_init.2.1 71 = .ok (.bipush 14, 2) := by decide +kernel
theorem q_W_init_73 : decode m_W_init.2.1 73 = .ok (.multianewarray 37 2, 4) := by decide +kernel
theorem q_W_init_77 : decode m_W_init.2.1 77 = .ok (.putfield 39, 3) := by decide +kernel
theorem q_W_init_80 : decode m_W_init.2.1 80 = .ok (.aload_n 0, 1) := by decide +kernel
theorem q_W_init_81 : decode m_W_init.2.1 81 = .ok (.ldc2_w 42, 3) := by decide +kernel
theorem q_W_init_84 : decode m_W_init.2.1 84 = .ok (.putfield 44, 3) := by decide +kernel
theorem q_W_init_87 : decode m_W_init.2.1 87 = .ok (.aload_n 0, 1) := by decide +kernel
theorem q_W_init_88 : decode m_W_init.2.1 88 = .ok (.iload_n 1, 1) := by decide +kernel
theorem q_W_init_89 : decode m_W_init.2.1 89 = .ok (.putfield 48, 3) := by decide +kernel
theorem q_W_init_92 : decode m_W_init.2.1 92 = .ok (.return_, 1) := by decide +kernel
theorem q_W_isYear_0 : decode m_W_isYear.2.1 0 = .ok (.iload_n 1, 1) := by decide +kernel
theorem q_W_isYear_1 : decode m_W_isYear.2.1 1 = .ok (.ifCond .lt 15, 3) := by decide +kernel
theorem q_W_isYear_4 : decode m_W_isYear.2.1 4 = .ok (.iload_n 1, 1) := by decide +kernel
theorem q_W_isYear_5 : decode m_W_isYear.2.1 5 = .ok (.aload_n 0, 1) := by decide +kernel
theorem q_W_isYear_6 : decode m_W_isYear.2.1 6 = .ok (.getfield 48, 3) := by decide +kernel
theorem q_W_isYear_9 : decode m_W_isYear.2.1 9 = .ok (.if_icmp .ge 7, 3) := by decide +kernel
theorem q_W_isYear_12 : decode m_W_isYear.2.1 12 = .ok (.iconst 1, 1) := by decide +kernel
theorem q_W_isYear_13 : decode m_W_isYear.2.1 13 = .ok (.goto 4, 3) := by decide +kernel
theorem q_W_isYear_16 : decode m_W_isYear.2.1 16 = .ok (.iconst 0, 1) := by decide +kernel
theorem q_W_isYear_17 : decode m_W_isYear.2.1 17 = .ok (.ireturn, 1) := by decide +kernel
theorem q_W_isThing_0 : decode m_W_isThing.2.1 0 = .ok (.iload_n 1, 1) := by decide +kernel
theorem q_W_isThing_1 : decode m_W_isThing.2.1 1 = .ok (.ifCond .lt 15, 3) := by decide +kernel
theorem q_W_isThing_4 : decode m_W_isThing.2.1 4 = .ok (.iload_n 1, 1) := by decide +kernel
theorem q_W_isThing_5 : decode m_W_isThing.2.1 5 = .ok (.aload_n 0, 1) := by decide +kernel
theorem q_W_isThing_6 : decode m_W_isThing.2.1 6 = .ok (.getfield 52, 3) := by decide +kernel
theorem q_W_isThing_9 : decode m_W_isThing.2.1 9 = .ok (.if_icmp .ge 7, 3) := by decide +kernel
theorem q_W_isThing_12 : decode m_W_isThing.2.1 12 = .ok (.iconst 1, 1) := by decide +kernel
theorem q_W_isThing_13 : decode m_W_isThing.2.1 13 = .ok (.goto 4, 3) := by decide +kernel
theorem q_W_isThing_16 : decode m_W_isThing.2.1 16 = .ok (.iconst 0, 1) := by decide +kernel
theorem q_W_isThing_17 : decode m_W_isThing.2.1 17 = .ok (.ireturn, 1) := by decide +kernel
theorem q_W_isChoice_0 : decode m_W_isChoice.2.1 0 = .ok (.iload_n 1, 1) := by decide +kernel
theorem q_W_isChoice_1 : decode m_W_isChoice.2.1 1 = .ok (.ifCond .lt 15, 3) := by decide +kernel
theorem q_W_isChoice_4 : decode m_W_isChoice.2.1 4 = .ok (.iload_n 1, 1) := by decide +kernel
theorem q_W_isChoice_5 : decode m_W_isChoice.2.1 5 = .ok (.aload_n 0, 1) := by decide +kernel
theorem q_W_isChoice_6 : decode m_W_isChoice.2.1 6 = .ok (.getfield 55, 3) := by decide +kernel
theorem q_W_isChoice_9 : decode m_W_isChoice.2.1 9 = .ok (.if_icmp .ge 7, 3) := by decide +kernel
theorem q_W_isChoice_12 : decode m_W_isChoice.2.1 12 = .ok (.iconst 1, 1) := by decide +kernel
theorem q_W_isChoice_13 : decode m_W_isChoice.2.1 13 = .ok (.goto 4, 3) := by decide +kernel
theorem q_W_isChoice_16 : decode m_W_isChoice.2.1 16 = .ok (.iconst 0, 1) := by decide +kernel
theorem q_W_isChoice_17 : decode m_W_isChoice.2.1 17 = .ok (.ireturn, 1) := by decide +kernel
theorem q_W_countOfSets_0 : decode m_W_countOfSets.2.1 0 = .ok (.iconst 1, 1) := by decide +kernel
theorem q_W_countOfSets_1 : decode m_W_countOfSets.2.1 1 = .ok (.aload_n 0, 1) := by decide +kernel
theorem q_W_countOfSets_2 : decode m_W_countOfSets.2.1 2 = .ok (.getfield 55, 3) := by decide +kernel
theorem q_W_countOfSets_5 : decode m_W_countOfSets.2.1 5 = .ok (.ishl, 1) := by decide +kernel
theorem q_W_countOfSets_6 : decode m_W_countOfSets.2.1 6 = .ok (.ireturn, 1) := by decide +kernel
theorem q_W_addThing_0 : decode m_W_addThing.2.1 0 = .ok (.aload_n 0, 1) := by decide +kernel
theorem q_W_addThing_1 : decode m_W_addThing.2.1 1 = .ok (.getfield 15, 3) := by decide +kernel
theorem q_W_addThing_4 : decode m_W_addThing.2.1 4 = .ok (.aload_n 0, 1) := by decide +kernel
theorem q_W_addThing_5 : decode m_W_addThing.2.1 5 = .ok (.getfield 52, 3) := by decide +kernel
theorem q_W_addThing_8 : decode m_W_addThing.2.1 8 = .ok (.iload_n 1, 1) := by decide +kernel
theorem q_W_addThing_9 : decode m_W_addThing.2.1 9 = .ok (.iastore, 1) := by decide +kernel
theorem q_W_addThing_10 : decode m_W_addThing.2.1 10 = .ok (.aload_n 0, 1) := by decide +kernel
theorem q_W_addThing_11 : decode m_W_addThing.2.1 11 = .ok (.dup, 1) := by decide +kernel
theorem q_W_addThing_12 : decode m_W_addThing.2.1 12 = .ok (.getfield 52, 3) := by decide +kernel
theorem q_W_addThing_15 : decode m_W_addThing.2.1 15 = .ok (.iconst 1, 1) := by decide +kernel
theorem q_W_addThing_16 : decode m_W_addThing.2.1 16 = .ok (.iadd, 1) := by decide +kernel
theorem q_W_addThing_17 : decode m_W_addThing.2.1 17 = .ok (.putfield 52, 3) := by decide +kernel
theorem q_W_addThing_20 : decode m_W_addThing.2.1 20 = .ok (.aload_n 0, 1) := by decide +kernel
theorem q_W_addThing_21 : decode m_W_addThing.2.1 21 = .ok (.getfield 52, 3) := by decide +kernel
theorem q_W_addThing_24 : decode m_W_addThing.2.1 24 = .ok (.iconst 1, 1) := by decide +kernel
theorem q_W_addThing_25 : decode m_W_addThing.2.1 25 = .ok (.isub, 1) := by decide +kernel
theorem q_W_addThing_26 : decode m_W_addThing.2.1 26 = .ok (.ireturn, 1) := by decide +kernel
theorem q_W_addChoice_0 : decode m_W_addChoice.2.1 0 = .ok (.aload_n 0, 1) := by decide +kernel
theorem q_W_addChoice_1 : decode m_W_addChoice.2.1 1 = .ok (.getfield 22, 3) := by decide +kernel
theorem q_W_addChoice_4 : decode m_W_addChoice.2.1 4 = .ok (.aload_n 0, 1) := by decide +kernel
theorem q_W_addChoice_5 : decode m_W_addChoice.2.1 5 = .ok (.getfield 55, 3) := by decide +kernel
theorem q_W_addChoice_8 : decode m_W_addChoice.2.1 8 = .ok (.iload_n 1, 1) := by decide +kernel
theorem q_W_addChoice_9 : decode m_W_addChoice.2.1 9 = .ok (.iastore, 1) := by decide +kernel
theorem q_W_addChoice_10 : decode m_W_addChoice.2.1 10 = .ok (.aload_n 0, 1) := by decide +kernel
theorem q_W_addChoice_11 : decode m_W_addChoice.2.1 11 = .ok (.getfield 25, 3) := by decide +kernel
theorem q_W_addChoice_14 : decode m_W_addChoice.2.1 14 = .ok (.aload_n 0, 1) := by decide +kernel
theorem q_W_addChoice_15 : decode m_W_addChoice.2.1 15 = .ok (.getfield 55, 3) := by decide +kernel
theorem q_W_addChoice_18 : decode m_W_addChoice.2.1 18 = .ok (.iload_n 2, 1) := by decide +kernel
theorem q_W_addChoice_19 : decode m_W_addChoice.2.1 19 = .ok (.iastore, 1) := by decide +kernel
theorem q_W_addChoice_20 : decode m_W_addChoice.2.1 20 = .ok (.aload_n 0, 1) := by decide +kernel
theorem q_W_addChoice_21 : decode m_W_addChoice.2.1 21 = .ok (.getfield 28, 3) := by decide +kernel
theorem q_W_addChoice_24 : decode m_W_addChoice.2.1 24 = .ok (.aload_n 0, 1) := by decide +kernel
theorem q_W_addChoice_25 : decode m_W_addChoice.2.1 25 = .ok (.getfield 55, 3) := by decide +kernel
theorem q_W_addChoice_28 : decode m_W_addChoice.2.1 28 = .ok (.lload_n 3, 1) := by decide +kernel
theorem q_W_addChoice_29 : decode m_W_addChoice.2.1 29 = .ok (.lastore, 1) := by decide +kernel
theorem q_W_addChoice_30 : decode m_W_addChoice.2.1 30 = .ok (.aload_n 0, 1) := by decide +kernel
theorem q_W_addChoice_31 : decode m_W_addChoice.2.1 31 = .ok (.getfield 31, 3) := by decide +kernel
theorem q_W_addChoice_34 : decode m_W_addChoice.2.1 34 = .ok (.aload_n 0, 1) := by decide +kernel
theorem q_W_addChoice_35 : decode m_W_addChoice.2.1 35 = .ok (.getfield 55, 3) := by decide +kernel
theorem q_W_addChoice_38 : decode m_W_addChoice.2.1 38 = .ok (.lload 5, 2) := by decide +kernel
theorem q_W_addChoice_40 : decode m_W_addChoice.2.1 40 = .ok (.lastore, 1) := by decide +kernel
theorem q_W_addChoice_41 : decode m_W_addChoice.2.1 41 = .ok (.aload_n 0, 1) := by decide +kernel
theorem q_W_addChoice_42 : decode m_W_addChoice.2.1 42 = .ok (.dup, 1) := by decide +kernel
theorem q_W_addChoice_43 : decode m_W_addChoice.2.1 43 = .ok (.getfield 55, 3) := by decide +kernel
theorem q_W_addChoice_46 : decode m_W_addChoice.2.1 46 = .ok (.iconst 1, 1) := by decide +kernel
theorem q_W_addChoice_47 : decode m_W_addChoice.2.1 47 = .ok (.iadd, 1) := by decide +kernel
theorem q_W_addChoice_48 : decode m_W_addChoice.2.1 48 = .ok (.putfield 55, 3) := by decide +kernel
theorem q_W_addChoice_51 : decode m_W_addChoice.2.1 51 = .ok (.aload_n 0, 1) := by decide +kernel
theorem q_W_addChoice_52 : decode m_W_addChoice.2.1 52 = .ok (.getfield 55, 3) := by decide +kernel
theorem q_W_addChoice_55 : decode m_W_addChoice.2.1 55 = .ok (.iconst 1, 1) := by decide +kernel
theorem q_W_addChoice_56 : decode m_W_addChoice.2.1 56 = .ok (.isub, 1) := by decide +kernel
theorem q_W_addChoice_57 : decode m_W_addChoice.2.1 57 = .ok (.ireturn, 1) := by decide +kernel
theorem q_W_canJoin_0 : decode m_W_canJoin.2.1 0 = .ok (.aload_n 0, 1) := by decide +kernel
theorem q_W_canJoin_1 : decode m_W_canJoin.2.1 1 = .ok (.getfield 22, 3) := by decide +kernel
theorem q_W_canJoin_4 : decode m_W_canJoin.2.1 4 = .ok (.iload_n 1, 1) := by decide +kernel
theorem q_W_canJoin_5 : decode m_W_canJoin.2.1 5 = .ok (.iaload, 1) := by decide +kernel
theorem q_W_canJoin_6 : decode m_W_canJoin.2.1 6 = .ok (.aload_n 0, 1) := by decide +kernel
theorem q_W_canJoin_7 : decode m_W_canJoin.2.1 7 = .ok (.getfield 22, 3) := by decide +kernel
theorem q_W_canJoin_10 : decode m_W_canJoin.2.1 10 = .ok (.iload_n 2, 1) := by decide +kernel
theorem q_W_canJoin_11 : decode m_W_canJoin.2.1 11 = .ok (.iaload, 1) := by decide +kernel
theorem q_W_canJoin_12 : decode m_W_canJoin.2.1 12 = .ok (.if_icmp .eq 35, 3) := by decide +kernel
theorem q_W_canJoin_15 : decode m_W_canJoin.2.1 15 = .ok (.aload_n 0, 1) := by decide +kernel
theorem q_W_canJoin_16 : decode m_W_canJoin.2.1 16 = .ok (.getfield 25, 3) := by decide +kernel
theorem q_W_canJoin_19 : decode m_W_canJoin.2.1 19 = .ok (.iload_n 1, 1) := by decide +kernel
theorem q_W_canJoin_20 : decode m_W_canJoin.2.1 20 = .ok (.iaload, 1) := by decide +kernel
theorem q_W_canJoin_21 : decode m_W_canJoin.2.1 21 = .ok (.aload_n 0, 1) := by decide +kernel
theorem q_W_canJoin_22 : decode m_W_canJoin.2.1 22 = .ok (.getfield 25, 3) := by decide +kernel
theorem q_W_canJoin_25 : decode m_W_canJoin.2.1 25 = .ok (.iload_n 2, 1) := by decide +kernel
theorem q_W_canJoin_26 : decode m_W_canJoin.2.1 26 = .ok (.iaload, 1) := by decide +kernel
theorem q_W_canJoin_27 : decode m_W_canJoin.2.1 27 = .ok (.if_icmp .ne 20, 3) := by decide +kernel
theorem q_W_canJoin_30 : decode m_W_canJoin.2.1 30 = .ok (.aload_n 0, 1) := by decide +kernel
theorem q_W_canJoin_31 : decode m_W_canJoin.2.1 31 = .ok (.getfield 34, 3) := by decide +kernel
theorem q_W_canJoin_34 : decode m_W_canJoin.2.1 34 = .ok (.iload_n 1, 1) := by decide +kernel
theorem q_W_canJoin_35 : decode m_W_canJoin.2.1 35 = .ok (.iaload, 1) := by decide +kernel
theorem q_W_canJoin_36 : decode m_W_canJoin.2.1 36 = .ok (.iload_n 2, 1) := by decide +kernel
theorem q_W_canJoin_37 : decode m_W_canJoin.2.1 37 = .ok (.invokestatic 58, 3) := by decide +kernel
theorem q_W_canJoin_40 : decode m_W_canJoin.2.1 40 = .ok (.ifCond .ne 7, 3) := by decide +kernel
theorem q_W_canJoin_43 : decode m_W_canJoin.2.1 43 = .ok (.iconst 1, 1) := by decide +kernel
theorem q_W_canJoin_44 : decode m_W_canJoin.2.1 44 = .ok (.goto 4, 3) := by decide +kernel
theorem q_W_canJoin_47 : decode m_W_canJoin.2.1 47 = .ok (.iconst 0, 1) := by decide +kernel
theorem q_W_canJoin_48 : decode m_W_canJoin.2.1 48 = .ok (.ireturn, 1) := by decide +kernel
theorem q_W_addJoin_0 : decode m_W_addJoin.2.1 0 = .ok (.aload_n 0, 1) := by decide +kernel
theorem q_W_addJoin_1 : decode m_W_addJoin.2.1 1 = .ok (.getfield 34, 3) := by decide +kernel
theorem q_W_addJoin_4 : decode m_W_addJoin.2.1 4 = .ok (.iload_n 1, 1) := by decide +kernel
theorem q_W_addJoin_5 : decode m_W_addJoin.2.1 5 = .ok (.dup2, 1) := by decide +kernel
theorem q_W_addJoin_6 : decode m_W_addJoin.2.1 6 = .ok (.iaload, 1) := by decide +kernel
theorem q_W_addJoin_7 : decode m_W_addJoin.2.1 7 = .ok (.iconst 1, 1) := by decide +kernel
theorem q_W_addJoin_8 : decode m_W_addJoin.2.1 8 = .ok (.iload_n 2, 1) := by decide +kernel
theorem q_W_addJoin_9 : decode m_W_addJoin.2.1 9 = .ok (.ishl, 1) := by decide +kernel
theorem q_W_addJoin_10 : decode m_W_addJoin.2.1 10 = .ok (.ior, 1) := by decide +kernel
theorem q_W_addJoin_11 : decode m_W_addJoin.2.1 11 = .ok (.iastore, 1) := by decide +kernel
theorem q_W_addJoin_12 : decode m_W_addJoin.2.1 12 = .ok (.aload_n 0, 1) := by decide +kernel
theorem q_W_addJoin_13 : decode m_W_addJoin.2.1 13 = .ok (.getfield 34, 3) := by decide +kernel
theorem q_W_addJoin_16 : decode m_W_addJoin.2.1 16 = .ok (.iload_n 2, 1) := by decide +kernel
theorem q_W_addJoin_17 : decode m_W_addJoin.2.1 17 = .ok (.dup2, 1) := by decide +kernel
theorem q_W_addJoin_18 : decode m_W_addJoin.2.1 18 = .ok (.iaload, 1) := by decide +kernel
theorem q_W_addJoin_19 : decode m_W_addJoin.2.1 19 = .ok (.iconst 1, 1) := by decide +kernel
theorem q_W_addJoin_20 : decode m_W_addJoin.2.1 20 = .ok (.iload_n 1, 1) := by decide +kernel
theorem q_W_addJoin_21 : decode m_W_addJoin.2.1 21 = .ok (.ishl, 1) := by decide +kernel
theorem q_W_addJoin_22 : decode m_W_addJoin.2.1 22 = .ok (.ior, 1) := by decide +kernel
theorem q_W_addJoin_23 : decode m_W_addJoin.2.1 23 = .ok (.iastore, 1) := by decide +kernel
theorem q_W_addJoin_24 : decode m_W_addJoin.2.1 24 = .ok (.aload_n 0, 1) := by decide +kernel
theorem q_W_addJoin_25 : decode m_W_addJoin.2.1 25 = .ok (.getfield 39, 3) := by decide +kernel
theorem q_W_addJoin_28 : decode m_W_addJoin.2.1 28 = .ok (.iload_n 1, 1) := by decide +kernel
theorem q_W_addJoin_29 : decode m_W_addJoin.2.1 29 = .ok (.aaload, 1) := by decide +kernel
theorem q_W_addJoin_30 : decode m_W_addJoin.2.1 30 = .ok (.iload_n 2, 1) := by decide +kernel
theorem q_W_addJoin_31 : decode m_W_addJoin.2.1 31 = .ok (.lload_n 3, 1) := by decide +kernel
theorem q_W_addJoin_32 : decode m_W_addJoin.2.1 32 = .ok (.lastore, 1) := by decide +kernel
theorem q_W_addJoin_33 : decode m_W_addJoin.2.1 33 = .ok (.aload_n 0, 1) := by decide +kernel
theorem q_W_addJoin_34 : decode m_W_addJoin.2.1 34 = .ok (.getfield 39, 3) := by decide +kernel
theorem q_W_addJoin_37 : decode m_W_addJoin.2.1 37 = .ok (.iload_n 2, 1) := by decide +kernel
theorem q_W_addJoin_38 : decode m_W_addJoin.2.1 38 = .ok (.aaload, 1) := by decide +kernel
theorem q_W_addJoin_39 : decode m_W_addJoin.2.1 39 = .ok (.iload_n 1, 1) := by decide +kernel
theorem q_W_addJoin_40 : decode m_W_addJoin.2.1 40 = .ok (.lload_n 3, 1) := by decide +kernel
theorem q_W_addJoin_41 : decode m_W_addJoin.2.1 41 = .ok (.lastore, 1) := by decide +kernel
theorem q_W_addJoin_42 : decode m_W_addJoin.2.1 42 = .ok (.aload_n 0, 1) := by decide +kernel
theorem q_W_addJoin_43 : decode m_W_addJoin.2.1 43 = .ok (.dup, 1) := by decide +kernel
theorem q_W_addJoin_44 : decode m_W_addJoin.2.1 44 = .ok (.getfield 62, 3) := by decide +kernel
theorem q_W_addJoin_47 : decode m_W_addJoin.2.1 47 = .ok (.iconst 1, 1) := by decide +kernel
theorem q_W_addJoin_48 : decode m_W_addJoin.2.1 48 = .ok (.iadd, 1) := by decide +kernel
theorem q_W_addJoin_49 : decode m_W_addJoin.2.1 49 = .ok (.putfield 62, 3) := by decide +kernel
theorem q_W_addJoin_52 : decode m_W_addJoin.2.1 52 = .ok (.return_, 1) := by decide +kernel
theorem q_W_savesWith_0 : decode m_W_savesWith.2.1 0 = .ok (.aload_n 0, 1) := by decide +kernel
theorem q_W_savesWith_1 : decode m_W_savesWith.2.1 1 = .ok (.getfield 34, 3) := by decide +kernel
theorem q_W_savesWith_4 : decode m_W_savesWith.2.1 4 = .ok (.iload_n 1, 1) := by decide +kernel
theorem q_W_savesWith_5 : decode m_W_savesWith.2.1 5 = .ok (.iaload, 1) := by decide +kernel
theorem q_W_savesWith_6 : decode m_W_savesWith.2.1 6 = .ok (.iload_n 2, 1) := by decide +kernel
theorem q_W_savesWith_7 : decode m_W_savesWith.2.1 7 = .ok (.iand, 1) := by decide +kernel
theorem q_W_savesWith_8 : decode m_W_savesWith.2.1 8 = .ok (.istore_n 3, 1) := by decide +kernel
theorem q_W_savesWith_9 : decode m_W_savesWith.2.1 9 = .ok (.lconst 0, 1) := by decide +kernel
theorem q_W_savesWith_10 : decode m_W_savesWith.2.1 10 = .ok (.lstore 4, 2) := by decide +kernel
theorem q_W_savesWith_12 : decode m_W_savesWith.2.1 12 = .ok (.iconst 0, 1) := by decide +kernel
theorem q_W_savesWith_13 : decode m_W_savesWith.2.1 13 = .ok (.istore 6, 2) := by decide +kernel
theorem q_W_savesWith_15 : decode m_W_savesWith.2.1 15 = .ok (.iload 6, 2) := by decide +kernel
theorem q_W_savesWith_17 : decode m_W_savesWith.2.1 17 = .ok (.aload_n 0, 1) := by decide +kernel
theorem q_W_savesWith_18 : decode m_W_savesWith.2.1 18 = .ok (.getfield 55, 3) := by decide +kernel
theorem q_W_savesWith_21 : decode m_W_savesWith.2.1 21 = .ok (.if_icmp .ge 40, 3) := by decide +kernel
theorem q_W_savesWith_24 : decode m_W_savesWith.2.1 24 = .ok (.iload_n 3, 1) := by decide +kernel
theorem q_W_savesWith_25 : decode m_W_savesWith.2.1 25 = .ok (.iload 6, 2) := by decide +kernel
theorem q_W_savesWith_27 : decode m_W_savesWith.2.1 27 = .ok (.ishr, 1) := by decide +kernel
theorem q_W_savesWith_28 : decode m_W_savesWith.2.1 28 = .ok (.ifCond .eq 33, 3) := by decide +kernel
theorem q_W_savesWith_31 : decode m_W_savesWith.2.1 31 = .ok (.iload_n 3, 1) := by decide +kernel
theorem q_W_savesWith_32 : decode m_W_savesWith.2.1 32 = .ok (.iload 6, 2) := by decide +kernel
theorem q_W_savesWith_34 : decode m_W_savesWith.2.1 34 = .ok (.ishr, 1) := by decide +kernel
theorem q_W_savesWith_35 : decode m_W_savesWith.2.1 35 = .ok (.iconst 1, 1) := by decide +kernel
theorem q_W_savesWith_36 : decode m_W_savesWith.2.1 36 = .ok (.iand, 1) := by decide +kernel
theorem q_W_savesWith_37 : decode m_W_savesWith.2.1 37 = .ok (.iconst 1, 1) := by decide +kernel
theorem q_W_savesWith_38 : decode m_W_savesWith.2.1 38 = .ok (.if_icmp .ne 17, 3) := by decide +kernel
theorem q_W_savesWith_41 : decode m_W_savesWith.2.1 41 = .ok (.lload 4, 2) := by decide +kernel
theorem q_W_savesWith_43 : decode m_W_savesWith.2.1 43 = .ok (.aload_n 0, 1) := by decide +kernel
theorem q_W_savesWith_44 : decode m_W_savesWith.2.1 44 = .ok (.getfield 39, 3) := by decide +kernel
theorem q_W_savesWith_47 : decode m_W_savesWith.2.1 47 = .ok (.iload_n 1, 1) := by decide +kernel
theorem q_W_savesWith_48 : decode m_W_savesWith.2.1 48 = .ok (.aaload, 1) := by decide +kernel
theorem q_W_savesWith_49 : decode m_W_savesWith.2.1 49 = .ok (.iload 6, 2) := by decide +kernel
theorem q_W_savesWith_51 : decode m_W_savesWith.2.1 51 = .ok (.laload, 1) := by decide +kernel
theorem q_W_savesWith_52 : decode m_W_savesWith.2.1 52 = .ok (.ladd, 1) := by decide +kernel
theorem q_W_savesWith_53 : decode m_W_savesWith.2.1 53 = .ok (.lstore 4, 2) := by decide +kernel
theorem q_W_savesWith_55 : decode m_W_savesWith.2.1 55 = .ok (.iinc 6 1, 3) := by decide +kernel
theorem q_W_savesWith_58 : decode m_W_savesWith.2.1 58 = .ok (.goto (-43), 3) := by decide +kernel
theorem q_W_savesWith_61 : decode m_W_savesWith.2.1 61 = .ok (.lload 4, 2) := by decide +kernel
theorem q_W_savesWith_63 : decode m_W_savesWith.2.1 63 = .ok (.lreturn, 1) := by decide +kernel
theorem q_W_savesOfAllJoins_0 : decode m_W_savesOfAllJoins.2.1 0 = .ok (.aload_n 0, 1) := by decide +kernel
theorem q_W_savesOfAllJoins_1 : decode m_W_savesOfAllJoins.2.1 1 = .ok (.iload_n 1, 1) := by decide +kernel
theorem q_W_savesOfAllJoins_2 : decode m_W_savesOfAllJoins.2.1 2 = .ok (.aload_n 0, 1) := by decide +kernel
theorem q_W_savesOfAllJoins_3 : decode m_W_savesOfAllJoins.2.1 3 = .ok (.getfield 34, 3) := by decide +kernel
theorem q_W_savesOfAllJoins_6 : decode m_W_savesOfAllJoins.2.1 6 = .ok (.iload_n 1, 1) := by decide +kernel
theorem q_W_savesOfAllJoins_7 : decode m_W_savesOfAllJoins.2.1 7 = .ok (.iaload, 1) := by decide +kernel
theorem q_W_savesOfAllJoins_8 : decode m_W_savesOfAllJoins.2.1 8 = .ok (.invokevirtual 65, 3) := by decide +kernel
theorem q_W_savesOfAllJoins_11 : decode m_W_savesOfAllJoins.2.1 11 = .ok (.lreturn, 1) := by decide +kernel
theorem q_W_spentIn_0 : decode m_W_spentIn.2.1 0 = .ok (.lconst 0, 1) := by decide +kernel
theorem q_W_spentIn_1 : decode m_W_spentIn.2.1 1 = .ok (.lstore_n 3, 1) := by decide +kernel
theorem q_W_spentIn_2 : decode m_W_spentIn.2.1 2 = .ok (.iconst 0, 1) := by decide +kernel
theorem q_W_spentIn_3 : decode m_W_spentIn.2.1 3 = .ok (.istore 5, 2) := by decide +kernel
theorem q_W_spentIn_5 : decode m_W_spentIn.2.1 5 = .ok (.iconst 0, 1) := by decide +kernel
theorem q_W_spentIn_6 : decode m_W_spentIn.2.1 6 = .ok (.istore 6, 2) := by decide +kernel
theorem q_W_spentIn_8 : decode m_W_spentIn.2.1 8 = .ok (.iload 6, 2) := by decide +kernel
theorem q_W_spentIn_10 : decode m_W_spentIn.2.1 10 = .ok (.aload_n 0, 1) := by decide +kernel
theorem q_W_spentIn_11 : decode m_W_spentIn.2.1 11 = .ok (.getfield 55, 3) := by decide +kernel
theorem q_W_spentIn_14 : decode m_W_spentIn.2.1 14 = .ok (.if_icmp .ge 57, 3) := by decide +kernel
theorem q_W_spentIn_17 : decode m_W_spentIn.2.1 17 = .ok (.iload_n 1, 1) := by decide +kernel
theorem q_W_spentIn_18 : decode m_W_spentIn.2.1 18 = .ok (.iload 6, 2) := by decide +kernel
theorem q_W_spentIn_20 : decode m_W_spentIn.2.1 20 = .ok (.invokestatic 58, 3) := by decide +kernel
theorem q_W_spentIn_23 : decode m_W_spentIn.2.1 23 = .ok (.ifCond .eq 42, 3) := by decide +kernel
theorem q_W_spentIn_26 : decode m_W_spentIn.2.1 26 = .ok (.aload_n 0, 1) := by decide +kernel
theorem q_W_spentIn_27 : decode m_W_spentIn.2.1 27 = .ok (.getfield 25, 3) := by decide +kernel
theorem q_W_spentIn_30 : decode m_W_spentIn.2.1 30 = .ok (.iload 6, 2) := by decide +kernel
theorem q_W_spentIn_32 : decode m_W_spentIn.2.1 32 = .ok (.iaload, 1) := by decide +kernel
theorem q_W_spentIn_33 : decode m_W_spentIn.2.1 33 = .ok (.iload_n 2, 1) := by decide +kernel
theorem q_W_spentIn_34 : decode m_W_spentIn.2.1 34 = .ok (.if_icmp .ne 31, 3) := by decide +kernel
theorem q_W_spentIn_37 : decode m_W_spentIn.2.1 37 = .ok (.lload_n 3, 1) := by decide +kernel
theorem q_W_spentIn_38 : decode m_W_spentIn.2.1 38 = .ok (.aload_n 0, 1) := by decide +kernel
theorem q_W_spentIn_39 : decode m_W_spentIn.2.1 39 = .ok (.getfield 28, 3) := by decide +kernel
theorem q_W_spentIn_42 : decode m_W_spentIn.2.1 42 = .ok (.iload 6, 2) := by decide +kernel
theorem q_W_spentIn_44 : decode m_W_spentIn.2.1 44 = .ok (.laload, 1) := by decide +kernel
theorem q_W_spentIn_45 : decode m_W_spentIn.2.1 45 = .ok (.aload_n 0, 1) := by decide +kernel
theorem q_W_spentIn_46 : decode m_W_spentIn.2.1 46 = .ok (.iload 6, 2) := by decide +kernel
theorem q_W_spentIn_48 : decode m_W_spentIn.2.1 48 = .ok (.iload 5, 2) := by decide +kernel
theorem q_W_spentIn_50 : decode m_W_spentIn.2.1 50 = .ok (.invokevirtual 65, 3) := by decide +kernel
theorem q_W_spentIn_53 : decode m_W_spentIn.2.1 53 = .ok (.lsub, 1) := by decide +kernel
theorem q_W_spentIn_54 : decode m_W_spentIn.2.1 54 = .ok (.ladd, 1) := by decide +kernel
theorem q_W_spentIn_55 : decode m_W_spentIn.2.1 55 = .ok (.lstore_n 3, 1) := by decide +kernel
theorem q_W_spentIn_56 : decode m_W_spentIn.2.1 56 = .ok (.iload 5, 2) := by decide +kernel
theorem q_W_spentIn_58 : decode m_W_spentIn.2.1 58 = .ok (.iconst 1, 1) := by decide +kernel
theorem q_W_spentIn_59 : decode m_W_spentIn.2.1 59 = .ok (.iload 6, 2) := by decide +kernel
theorem q_W_spentIn_61 : decode m_W_spentIn.2.1 61 = .ok (.ishl, 1) := by decide +kernel
theorem q_W_spentIn_62 : decode m_W_spentIn.2.1 62 = .ok (.ior, 1) := by decide +kernel
theorem q_W_spentIn_63 : decode m_W_spentIn.2.1 63 = .ok (.istore 5, 2) := by decide +kernel
theorem q_W_spentIn_65 : decode m_W_spentIn.2.1 65 = .ok (.iinc 6 1, 3) := by decide +kernel
theorem q_W_spentIn_68 : decode m_W_spentIn.2.1 68 = .ok (.goto (-60), 3) := by decide +kernel
theorem q_W_spentIn_71 : decode m_W_spentIn.2.1 71 = .ok (.lconst 0, 1) := by decide +kernel
theorem q_W_spentIn_72 : decode m_W_spentIn.2.1 72 = .ok (.lload_n 3, 1) := by decide +kernel
theorem q_W_spentIn_73 : decode m_W_spentIn.2.1 73 = .ok (.invokestatic 69, 3) := by decide +kernel
theorem q_W_spentIn_76 : decode m_W_spentIn.2.1 76 = .ok (.lreturn, 1) := by decide +kernel
theorem q_W_isWithinBudget_0 : decode m_W_isWithinBudget.2.1 0 = .ok (.aload_n 0, 1) := by decide +kernel
theorem q_W_isWithinBudget_1 : decode m_W_isWithinBudget.2.1 1 = .ok (.iload_n 1, 1) := by decide +kernel
theorem q_W_isWithinBudget_2 : decode m_W_isWithinBudget.2.1 2 = .ok (.iload_n 2, 1) := by decide +kernel
theorem q_W_isWithinBudget_3 : decode m_W_isWithinBudget.2.1 3 = .ok (.invokevirtual 75, 3) := by decide +kernel
theorem q_W_isWithinBudget_6 : decode m_W_isWithinBudget.2.1 6 = .ok (.aload_n 0, 1) := by decide +kernel
theorem q_W_isWithinBudget_7 : decode m_W_isWithinBudget.2.1 7 = .ok (.getfield 9, 3) := by decide +kernel
theorem q_W_isWithinBudget_10 : decode m_W_isWithinBudget.2.1 10 = .ok (.iload_n 2, 1) := by decide +kernel
theorem q_W_isWithinBudget_11 : decode m_W_isWithinBudget.2.1 11 = .ok (.laload, 1) := by decide +kernel
theorem q_W_isWithinBudget_12 : decode m_W_isWithinBudget.2.1 12 = .ok (.lcmp, 1) := by decide +kernel
theorem q_W_isWithinBudget_13 : decode m_W_isWithinBudget.2.1 13 = .ok (.ifCond .gt 7, 3) := by decide +kernel
theorem q_W_isWithinBudget_16 : decode m_W_isWithinBudget.2.1 16 = .ok (.iconst 1, 1) := by decide +kernel
theorem q_W_isWithinBudget_17 : decode m_W_isWithinBudget.2.1 17 = .ok (.goto 4, 3) := by decide +kernel
theorem q_W_isWithinBudget_20 : decode m_W_isWithinBudget.2.1 20 = .ok (.iconst 0, 1) := by decide +kernel
theorem q_W_isWithinBudget_21 : decode m_W_isWithinBudget.2.1 21 = .ok (.ireturn, 1) := by decide +kernel
theorem q_W_isWithinAllBudgets_0 : decode m_W_isWithinAllBudgets.2.1 0 = .ok (.iconst 0, 1) := by decide +kernel
theorem q_W_isWithinAllBudgets_1 : decode m_W_isWithinAllBudgets.2.1 1 = .ok (.istore_n 2, 1) := by decide +kernel
theorem q_W_isWithinAllBudgets_2 : decode m_W_isWithinAllBudgets.2.1 2 = .ok (.iload_n 2, 1) := by decide +kernel
theorem q_W_isWithinAllBudgets_3 : decode m_W_isWithinAllBudgets.2.1 3 = .ok (.aload_n 0, 1) := by decide +kernel
theorem q_W_isWithinAllBudgets_4 : decode m_W_isWithinAllBudgets.2.1 4 = .ok (.getfield 48, 3) := by decide +kernel
theorem q_W_isWithinAllBudgets_7 : decode m_W_isWithinAllBudgets.2.1 7 = .ok (.if_icmp .ge 20, 3) := by decide +kernel
theorem q_W_isWithinAllBudgets_10 : decode m_W_isWithinAllBudgets.2.1 10 = .ok (.aload_n 0, 1) := by decide +kernel
theorem q_W_isWithinAllBudgets_11 : decode m_W_isWithinAllBudgets.2.1 11 = .ok (.iload_n 1, 1) := by decide +kernel
theorem q_W_isWithinAllBudgets_12 : decode m_W_isWithinAllBudgets.2.1 12 = .ok (.iload_n 2, 1) := by decide +kernel
theorem q_W_isWithinAllBudgets_13 : decode m_W_isWithinAllBudgets.2.1 13 = .ok (.invokevirtual 78, 3) := by decide +kernel
theorem q_W_isWithinAllBudgets_16 : decode m_W_isWithinAllBudgets.2.1 16 = .ok (.ifCond .ne 5, 3) := by decide +kernel
theorem q_W_isWithinAllBudgets_19 : decode m_W_isWithinAllBudgets.2.1 19 = .ok (.iconst 0, 1) := by decide +kernel
theorem q_W_isWithinAllBudgets_20 : decode m_W_isWithinAllBudgets.2.1 20 = .ok (.ireturn, 1) := by decide +kernel
theorem q_W_isWithinAllBudgets_21 : decode m_W_isWithinAllBudgets.2.1 21 = .ok (.iinc 2 1, 3) := by decide +kernel
theorem q_W_isWithinAllBudgets_24 : decode m_W_isWithinAllBudgets.2.1 24 = .ok (.goto (-22), 3) := by decide +kernel
theorem q_W_isWithinAllBudgets_27 : decode m_W_isWithinAllBudgets.2.1 27 = .ok (.iconst 1, 1) := by decide +kernel
theorem q_W_isWithinAllBudgets_28 : decode m_W_isWithinAllBudgets.2.1 28 = .ok (.ireturn, 1) := by decide +kernel
theorem q_W_isPlan_0 : decode m_W_isPlan.2.1 0 = .ok (.iconst 0, 1) := by decide +kernel
theorem q_W_isPlan_1 : decode m_W_isPlan.2.1 1 = .ok (.istore_n 2, 1) := by decide +kernel
theorem q_W_isPlan_2 : decode m_W_isPlan.2.1 2 = .ok (.iconst 0, 1) := by decide +kernel
theorem q_W_isPlan_3 : decode m_W_isPlan.2.1 3 = .ok (.istore_n 3, 1) := by decide +kernel
theorem q_W_isPlan_4 : decode m_W_isPlan.2.1 4 = .ok (.iload_n 3, 1) := by decide +kernel
theorem q_W_isPlan_5 : decode m_W_isPlan.2.1 5 = .ok (.aload_n 0, 1) := by decide +kernel
theorem q_W_isPlan_6 : decode m_W_isPlan.2.1 6 = .ok (.getfield 55, 3) := by decide +kernel
theorem q_W_isPlan_9 : decode m_W_isPlan.2.1 9 = .ok (.if_icmp .ge 43, 3) := by decide +kernel
theorem q_W_isPlan_12 : decode m_W_isPlan.2.1 12 = .ok (.iload_n 1, 1) := by decide +kernel
theorem q_W_isPlan_13 : decode m_W_isPlan.2.1 13 = .ok (.iload_n 3, 1) := by decide +kernel
theorem q_W_isPlan_14 : decode m_W_isPlan.2.1 14 = .ok (.invokestatic 58, 3) := by decide +kernel
theorem q_W_isPlan_17 : decode m_W_isPlan.2.1 17 = .ok (.ifCond .eq 29, 3) := by decide +kernel
theorem q_W_isPlan_20 : decode m_W_isPlan.2.1 20 = .ok (.iload_n 2, 1) := by decide +kernel
theorem q_W_isPlan_21 : decode m_W_isPlan.2.1 21 = .ok (.aload_n 0, 1) := by decide +kernel
theorem q_W_isPlan_22 : decode m_W_isPlan.2.1 22 = .ok (.getfield 22, 3) := by decide +kernel
theorem q_W_isPlan_25 : decode m_W_isPlan.2.1 25 = .ok (.iload_n 3, 1) := by decide +kernel
theorem q_W_isPlan_26 : decode m_W_isPlan.2.1 26 = .ok (.iaload, 1) := by decide +kernel
theorem q_W_isPlan_27 : decode m_W_isPlan.2.1 27 = .ok (.invokestatic 58, 3) := by decide +kernel
theorem q_W_isPlan_30 : decode m_W_isPlan.2.1 30 = .ok (.ifCond .eq 5, 3) := by decide +kernel
theorem q_W_isPlan_33 : decode m_W_isPlan.2.1 33 = .ok (.iconst 0, 1) := by decide +kernel
theorem q_W_isPlan_34 : decode m_W_isPlan.2.1 34 = .ok (.ireturn, 1) := by decide +kernel
theorem q_W_isPlan_35 : decode m_W_isPlan.2.1 35 = .ok (.iload_n 2, 1) := by decide +kernel
theorem q_W_isPlan_36 : decode m_W_isPlan.2.1 36 = .ok (.iconst 1, 1) := by decide +kernel
theorem q_W_isPlan_37 : decode m_W_isPlan.2.1 37 = .ok (.aload_n 0, 1) := by decide +kernel
theorem q_W_isPlan_38 : decode m_W_isPlan.2.1 38 = .ok (.getfield 22, 3) := by decide +kernel
theorem q_W_isPlan_41 : decode m_W_isPlan.2.1 41 = .ok (.iload_n 3, 1) := by decide +kernel
theorem q_W_isPlan_42 : decode m_W_isPlan.2.1 42 = .ok (.iaload, 1) := by decide +kernel
theorem q_W_isPlan_43 : decode m_W_isPlan.2.1 43 = .ok (.ishl, 1) := by decide +kernel
theorem q_W_isPlan_44 : decode m_W_isPlan.2.1 44 = .ok (.ior, 1) := by decide +kernel
theorem q_W_isPlan_45 : decode m_W_isPlan.2.1 45 = .ok (.istore_n 2, 1) := by decide +kernel
theorem q_W_isPlan_46 : decode m_W_isPlan.2.1 46 = .ok (.iinc 3 1, 3) := by decide +kernel
theorem q_W_isPlan_49 : decode m_W_isPlan.2.1 49 = .ok (.goto (-45), 3) := by decide +kernel
theorem q_W_isPlan_52 : decode m_W_isPlan.2.1 52 = .ok (.iconst 1, 1) := by decide +kernel
theorem q_W_isPlan_53 : decode m_W_isPlan.2.1 53 = .ok (.ireturn, 1) := by decide +kernel
theorem q_W_worthOfPlan_0 : decode m_W_worthOfPlan.2.1 0 = .ok (.lconst 0, 1) := by decide +kernel
theorem q_W_worthOfPlan_1 : decode m_W_worthOfPlan.2.1 1 = .ok (.lstore_n 2, 1) := by decide +kernel
theorem q_W_worthOfPlan_2 : decode m_W_worthOfPlan.2.1 2 = .ok (.iconst 0, 1) := by decide +kernel
theorem q_W_worthOfPlan_3 : decode m_W_worthOfPlan.2.1 3 = .ok (.istore 4, 2) := by decide +kernel
theorem q_W_worthOfPlan_5 : decode m_W_worthOfPlan.2.1 5 = .ok (.iload 4, 2) := by decide +kernel
theorem q_W_worthOfPlan_7 : decode m_W_worthOfPlan.2.1 7 = .ok (.aload_n 0, 1) := by decide +kernel
theorem q_W_worthOfPlan_8 : decode m_W_worthOfPlan.2.1 8 = .ok (.getfield 55, 3) := by decide +kernel
theorem q_W_worthOfPlan_11 : decode m_W_worthOfPlan.2.1 11 = .ok (.if_icmp .ge 28, 3) := by decide +kernel
theorem q_W_worthOfPlan_14 : decode m_W_worthOfPlan.2.1 14 = .ok (.iload_n 1, 1) := by decide +kernel
theorem q_W_worthOfPlan_15 : decode m_W_worthOfPlan.2.1 15 = .ok (.iload 4, 2) := by decide +kernel
theorem q_W_worthOfPlan_17 : decode m_W_worthOfPlan.2.1 17 = .ok (.invokestatic 58, 3) := by decide +kernel
theorem q_W_worthOfPlan_20 : decode m_W_worthOfPlan.2.1 20 = .ok (.ifCond .eq 13, 3) := by decide +kernel
theorem q_W_worthOfPlan_23 : decode m_W_worthOfPlan.2.1 23 = .ok (.lload_n 2, 1) := by decide +kernel
theorem q_W_worthOfPlan_24 : decode m_W_worthOfPlan.2.1 24 = .ok (.aload_n 0, 1) := by decide +kernel
theorem q_W_worthOfPlan_25 : decode m_W_worthOfPlan.2.1 25 = .ok (.getfield 31, 3) := by decide +kernel
theorem q_W_worthOfPlan_28 : decode m_W_worthOfPlan.2.1 28 = .ok (.iload 4, 2) := by decide +kernel
theorem q_W_worthOfPlan_30 : decode m_W_worthOfPlan.2.1 30 = .ok (.laload, 1) := by decide +kernel
theorem q_W_worthOfPlan_31 : decode m_W_worthOfPlan.2.1 31 = .ok (.ladd, 1) := by decide +kernel
theorem q_W_worthOfPlan_32 : decode m_W_worthOfPlan.2.1 32 = .ok (.lstore_n 2, 1) := by decide +kernel
theorem q_W_worthOfPlan_33 : decode m_W_worthOfPlan.2.1 33 = .ok (.iinc 4 1, 3) := by decide +kernel
theorem q_W_worthOfPlan_36 : decode m_W_worthOfPlan.2.1 36 = .ok (.goto (-31), 3) := by decide +kernel
theorem q_W_worthOfPlan_39 : decode m_W_worthOfPlan.2.1 39 = .ok (.lload_n 2, 1) := by decide +kernel
theorem q_W_worthOfPlan_40 : decode m_W_worthOfPlan.2.1 40 = .ok (.lreturn, 1) := by decide +kernel
theorem q_W_districtOfChoice_0 : decode m_W_districtOfChoice.2.1 0 = .ok (.aload_n 0, 1) := by decide +kernel
theorem q_W_districtOfChoice_1 : decode m_W_districtOfChoice.2.1 1 = .ok (.getfield 19, 3) := by decide +kernel
theorem q_W_districtOfChoice_4 : decode m_W_districtOfChoice.2.1 4 = .ok (.aload_n 0, 1) := by decide +kernel
theorem q_W_districtOfChoice_5 : decode m_W_districtOfChoice.2.1 5 = .ok (.getfield 22, 3) := by decide +kernel
theorem q_W_districtOfChoice_8 : decode m_W_districtOfChoice.2.1 8 = .ok (.iload_n 1, 1) := by decide +kernel
theorem q_W_districtOfChoice_9 : decode m_W_districtOfChoice.2.1 9 = .ok (.iaload, 1) := by decide +kernel
theorem q_W_districtOfChoice_10 : decode m_W_districtOfChoice.2.1 10 = .ok (.iaload, 1) := by decide +kernel
theorem q_W_districtOfChoice_11 : decode m_W_districtOfChoice.2.1 11 = .ok (.ireturn, 1) := by decide +kernel
theorem q_W_worthOfDistrict_0 : decode m_W_worthOfDistrict.2.1 0 = .ok (.lconst 0, 1) := by decide +kernel
theorem q_W_worthOfDistrict_1 : decode m_W_worthOfDistrict.2.1 1 = .ok (.lstore_n 3, 1) := by decide +kernel
theorem q_W_worthOfDistrict_2 : decode m_W_worthOfDistrict.2.1 2 = .ok (.iconst 0, 1) := by decide +kernel
theorem q_W_worthOfDistrict_3 : decode m_W_worthOfDistrict.2.1 3 = .ok (.istore 5, 2) := by decide +kernel
theorem q_W_worthOfDistrict_5 : decode m_W_worthOfDistrict.2.1 5 = .ok (.iload 5, 2) := by decide +kernel
theorem q_W_worthOfDistrict_7 : decode m_W_worthOfDistrict.2.1 7 = .ok (.aload_n 0, 1) := by decide +kernel
theorem q_W_worthOfDistrict_8 : decode m_W_worthOfDistrict.2.1 8 = .ok (.getfield 55, 3) := by decide +kernel
theorem q_W_worthOfDistrict_11 : decode m_W_worthOfDistrict.2.1 11 = .ok (.if_icmp .ge 38, 3) := by decide +kernel
theorem q_W_worthOfDistrict_14 : decode m_W_worthOfDistrict.2.1 14 = .ok (.iload_n 1, 1) := by decide +kernel
theorem q_W_worthOfDistrict_15 : decode m_W_worthOfDistrict.2.1 15 = .ok (.iload 5, 2) := by decide +kernel
theorem q_W_worthOfDistrict_17 : decode m_W_worthOfDistrict.2.1 17 = .ok (.invokestatic 58, 3) := by decide +kernel
theorem q_W_worthOfDistrict_20 : decode m_W_worthOfDistrict.2.1 20 = .ok (.ifCond .eq 23, 3) := by decide +kernel
theorem q_W_worthOfDistrict_23 : decode m_W_worthOfDistrict.2.1 23 = .ok (.aload_n 0, 1) := by decide +kernel
theorem q_W_worthOfDistrict_24 : decode m_W_worthOfDistrict.2.1 24 = .ok (.iload 5, 2) := by decide +kernel
theorem q_W_worthOfDistrict_26 : decode m_W_worthOfDistrict.2.1 26 = .ok (.invokevirtual 81, 3) := by decide +kernel
theorem q_W_worthOfDistrict_29 : decode m_W_worthOfDistrict.2.1 29 = .ok (.iload_n 2, 1) := by decide +kernel
theorem q_W_worthOfDistrict_30 : decode m_W_worthOfDistrict.2.1 30 = .ok (.if_icmp .ne 13, 3) := by decide +kernel
theorem q_W_worthOfDistrict_33 : decode m_W_worthOfDistrict.2.1 33 = .ok (.lload_n 3, 1) := by decide +kernel
theorem q_W_worthOfDistrict_34 : decode m_W_worthOfDistrict.2.1 34 = .ok (.aload_n 0, 1) := by decide +kernel
theorem q_W_worthOfDistrict_35 : decode m_W_worthOfDistrict.2.1 35 = .ok (.getfield 31, 3) := by decide +kernel
theorem q_W_worthOfDistrict_38 : decode m_W_worthOfDistrict.2.1 38 = .ok (.iload 5, 2) := by decide +kernel
theorem q_W_worthOfDistrict_40 : decode m_W_worthOfDistrict.2.1 40 = .ok (.laload, 1) := by decide +kernel
theorem q_W_worthOfDistrict_41 : decode m_W_worthOfDistrict.2.1 41 = .ok (.ladd, 1) := by decide +kernel
theorem q_W_worthOfDistrict_42 : decode m_W_worthOfDistrict.2.1 42 = .ok (.lstore_n 3, 1) := by decide +kernel
theorem q_W_worthOfDistrict_43 : decode m_W_worthOfDistrict.2.1 43 = .ok (.iinc 5 1, 3) := by decide +kernel
theorem q_W_worthOfDistrict_46 : decode m_W_worthOfDistrict.2.1 46 = .ok (.goto (-41), 3) := by decide +kernel
theorem q_W_worthOfDistrict_49 : decode m_W_worthOfDistrict.2.1 49 = .ok (.lload_n 3, 1) := by decide +kernel
theorem q_W_worthOfDistrict_50 : decode m_W_worthOfDistrict.2.1 50 = .ok (.lreturn, 1) := by decide +kernel
theorem q_W_usedDistricts_0 : decode m_W_usedDistricts.2.1 0 = .ok (.iconst 0, 1) := by decide +kernel
theorem q_W_usedDistricts_1 : decode m_W_usedDistricts.2.1 1 = .ok (.istore_n 1, 1) := by decide +kernel
theorem q_W_usedDistricts_2 : decode m_W_usedDistricts.2.1 2 = .ok (.iconst 0, 1) := by decide +kernel
theorem q_W_usedDistricts_3 : decode m_W_usedDistricts.2.1 3 = .ok (.istore_n 2, 1) := by decide +kernel
theorem q_W_usedDistricts_4 : decode m_W_usedDistricts.2.1 4 = .ok (.iload_n 2, 1) := by decide +kernel
theorem q_W_usedDistricts_5 : decode m_W_usedDistricts.2.1 5 = .ok (.aload_n 0, 1) := by decide +kernel
theorem q_W_usedDistricts_6 : decode m_W_usedDistricts.2.1 6 = .ok (.getfield 52, 3) := by decide +kernel
theorem q_W_usedDistricts_9 : decode m_W_usedDistricts.2.1 9 = .ok (.if_icmp .ge 20, 3) := by decide +kernel
theorem q_W_usedDistricts_12 : decode m_W_usedDistricts.2.1 12 = .ok (.iload_n 1, 1) := by decide +kernel
theorem q_W_usedDistricts_13 : decode m_W_usedDistricts.2.1 13 = .ok (.iconst 1, 1) := by decide +kernel
end
section
theorem q_W_usedDistricts_14 : decode m_W_usedDistricts.2.1 14 = .ok (.aload_n 0, 1) := by decide +kernel
theorem q_W_usedDistricts_15 : decode m_W_usedDistricts.2.1 15 = .ok (.getfield 19, 3) := by decide +kernel
theorem q_W_usedDistricts_18 : decode m_W_usedDistricts.2.1 18 = .ok (.iload_n 2, 1) := by decide +kernel
theorem q_W_usedDistricts_19 : decode m_W_usedDistricts.2.1 19 = .ok (.iaload, 1) := by decide +kernel
theorem q_W_usedDistricts_20 : decode m_W_usedDistricts.2.1 20 = .ok (.ishl, 1) := by decide +kernel
theorem q_W_usedDistricts_21 : decode m_W_usedDistricts.2.1 21 = .ok (.ior, 1) := by decide +kernel
theorem q_W_usedDistricts_22 : decode m_W_usedDistricts.2.1 22 = .ok (.istore_n 1, 1) := by decide +kernel
theorem q_W_usedDistricts_23 : decode m_W_usedDistricts.2.1 23 = .ok (.iinc 2 1, 3) := by decide +kernel
theorem q_W_usedDistricts_26 : decode m_W_usedDistricts.2.1 26 = .ok (.goto (-22), 3) := by decide +kernel
theorem q_W_usedDistricts_29 : decode m_W_usedDistricts.2.1 29 = .ok (.iload_n 1, 1) := by decide +kernel
theorem q_W_usedDistricts_30 : decode m_W_usedDistricts.2.1 30 = .ok (.ireturn, 1) := by decide +kernel
theorem q_W_partOf_0 : decode m_W_partOf.2.1 0 = .ok (.iconst 0, 1) := by decide +kernel
theorem q_W_partOf_1 : decode m_W_partOf.2.1 1 = .ok (.istore 4, 2) := by decide +kernel
theorem q_W_partOf_3 : decode m_W_partOf.2.1 3 = .ok (.iconst 0, 1) := by decide +kernel
theorem q_W_partOf_4 : decode m_W_partOf.2.1 4 = .ok (.istore 5, 2) := by decide +kernel
theorem q_W_partOf_6 : decode m_W_partOf.2.1 6 = .ok (.iload 5, 2) := by decide +kernel
theorem q_W_partOf_8 : decode m_W_partOf.2.1 8 = .ok (.aload_n 0, 1) := by decide +kernel
theorem q_W_partOf_9 : decode m_W_partOf.2.1 9 = .ok (.getfield 55, 3) := by decide +kernel
theorem q_W_partOf_12 : decode m_W_partOf.2.1 12 = .ok (.if_icmp .ge 48, 3) := by decide +kernel
theorem q_W_partOf_15 : decode m_W_partOf.2.1 15 = .ok (.iload_n 1, 1) := by decide +kernel
theorem q_W_partOf_16 : decode m_W_partOf.2.1 16 = .ok (.iload 5, 2) := by decide +kernel
theorem q_W_partOf_18 : decode m_W_partOf.2.1 18 = .ok (.invokestatic 58, 3) := by decide +kernel
theorem q_W_partOf_21 : decode m_W_partOf.2.1 21 = .ok (.ifCond .eq 33, 3) := by decide +kernel
theorem q_W_partOf_24 : decode m_W_partOf.2.1 24 = .ok (.aload_n 0, 1) := by decide +kernel
theorem q_W_partOf_25 : decode m_W_partOf.2.1 25 = .ok (.iload 5, 2) := by decide +kernel
theorem q_W_partOf_27 : decode m_W_partOf.2.1 27 = .ok (.invokevirtual 81, 3) := by decide +kernel
theorem q_W_partOf_30 : decode m_W_partOf.2.1 30 = .ok (.iload_n 2, 1) := by decide +kernel
theorem q_W_partOf_31 : decode m_W_partOf.2.1 31 = .ok (.if_icmp .ne 23, 3) := by decide +kernel
theorem q_W_partOf_34 : decode m_W_partOf.2.1 34 = .ok (.aload_n 0, 1) := by decide +kernel
theorem q_W_partOf_35 : decode m_W_partOf.2.1 35 = .ok (.getfield 25, 3) := by decide +kernel
theorem q_W_partOf_38 : decode m_W_partOf.2.1 38 = .ok (.iload 5, 2) := by decide +kernel
theorem q_W_partOf_40 : decode m_W_partOf.2.1 40 = .ok (.iaload, 1) := by decide +kernel
theorem q_W_partOf_41 : decode m_W_partOf.2.1 41 = .ok (.iload_n 3, 1) := by decide +kernel
theorem q_W_partOf_42 : decode m_W_partOf.2.1 42 = .ok (.if_icmp .ne 12, 3) := by decide +kernel
theorem q_W_partOf_45 : decode m_W_partOf.2.1 45 = .ok (.iload 4, 2) := by decide +kernel
theorem q_W_partOf_47 : decode m_W_partOf.2.1 47 = .ok (.iconst 1, 1) := by decide +kernel
theorem q_W_partOf_48 : decode m_W_partOf.2.1 48 = .ok (.iload 5, 2) := by decide +kernel
theorem q_W_partOf_50 : decode m_W_partOf.2.1 50 = .ok (.ishl, 1) := by decide +kernel
theorem q_W_partOf_51 : decode m_W_partOf.2.1 51 = .ok (.ior, 1) := by decide +kernel
theorem q_W_partOf_52 : decode m_W_partOf.2.1 52 = .ok (.istore 4, 2) := by decide +kernel
theorem q_W_partOf_54 : decode m_W_partOf.2.1 54 = .ok (.iinc 5 1, 3) := by decide +kernel
theorem q_W_partOf_57 : decode m_W_partOf.2.1 57 = .ok (.goto (-51), 3) := by decide +kernel
theorem q_W_partOf_60 : decode m_W_partOf.2.1 60 = .ok (.iload 4, 2) := by decide +kernel
theorem q_W_partOf_62 : decode m_W_partOf.2.1 62 = .ok (.ireturn, 1) := by decide +kernel
theorem q_W_isDoneBy_0 : decode m_W_isDoneBy.2.1 0 = .ok (.iconst 0, 1) := by decide +kernel
theorem q_W_isDoneBy_1 : decode m_W_isDoneBy.2.1 1 = .ok (.istore 4, 2) := by decide +kernel
theorem q_W_isDoneBy_3 : decode m_W_isDoneBy.2.1 3 = .ok (.iload 4, 2) := by decide +kernel
theorem q_W_isDoneBy_5 : decode m_W_isDoneBy.2.1 5 = .ok (.aload_n 0, 1) := by decide +kernel
theorem q_W_isDoneBy_6 : decode m_W_isDoneBy.2.1 6 = .ok (.getfield 55, 3) := by decide +kernel
theorem q_W_isDoneBy_9 : decode m_W_isDoneBy.2.1 9 = .ok (.if_icmp .ge 42, 3) := by decide +kernel
theorem q_W_isDoneBy_12 : decode m_W_isDoneBy.2.1 12 = .ok (.iload_n 1, 1) := by decide +kernel
theorem q_W_isDoneBy_13 : decode m_W_isDoneBy.2.1 13 = .ok (.iload 4, 2) := by decide +kernel
theorem q_W_isDoneBy_15 : decode m_W_isDoneBy.2.1 15 = .ok (.invokestatic 58, 3) := by decide +kernel
theorem q_W_isDoneBy_18 : decode m_W_isDoneBy.2.1 18 = .ok (.ifCond .eq 27, 3) := by decide +kernel
theorem q_W_isDoneBy_21 : decode m_W_isDoneBy.2.1 21 = .ok (.aload_n 0, 1) := by decide +kernel
theorem q_W_isDoneBy_22 : decode m_W_isDoneBy.2.1 22 = .ok (.getfield 22, 3) := by decide +kernel
theorem q_W_isDoneBy_25 : decode m_W_isDoneBy.2.1 25 = .ok (.iload 4, 2) := by decide +kernel
theorem q_W_isDoneBy_27 : decode m_W_isDoneBy.2.1 27 = .ok (.iaload, 1) := by decide +kernel
theorem q_W_isDoneBy_28 : decode m_W_isDoneBy.2.1 28 = .ok (.iload_n 2, 1) := by decide +kernel
theorem q_W_isDoneBy_29 : decode m_W_isDoneBy.2.1 29 = .ok (.if_icmp .ne 16, 3) := by decide +kernel
theorem q_W_isDoneBy_32 : decode m_W_isDoneBy.2.1 32 = .ok (.aload_n 0, 1) := by decide +kernel
theorem q_W_isDoneBy_33 : decode m_W_isDoneBy.2.1 33 = .ok (.getfield 25, 3) := by decide +kernel
theorem q_W_isDoneBy_36 : decode m_W_isDoneBy.2.1 36 = .ok (.iload 4, 2) := by decide +kernel
theorem q_W_isDoneBy_38 : decode m_W_isDoneBy.2.1 38 = .ok (.iaload, 1) := by decide +kernel
theorem q_W_isDoneBy_39 : decode m_W_isDoneBy.2.1 39 = .ok (.iload_n 3, 1) := by decide +kernel
theorem q_W_isDoneBy_40 : decode m_W_isDoneBy.2.1 40 = .ok (.if_icmp .gt 5, 3) := by decide +kernel
theorem q_W_isDoneBy_43 : decode m_W_isDoneBy.2.1 43 = .ok (.iconst 1, 1) := by decide +kernel
theorem q_W_isDoneBy_44 : decode m_W_isDoneBy.2.1 44 = .ok (.ireturn, 1) := by decide +kernel
theorem q_W_isDoneBy_45 : decode m_W_isDoneBy.2.1 45 = .ok (.iinc 4 1, 3) := by decide +kernel
theorem q_W_isDoneBy_48 : decode m_W_isDoneBy.2.1 48 = .ok (.goto (-45), 3) := by decide +kernel
theorem q_W_isDoneBy_51 : decode m_W_isDoneBy.2.1 51 = .ok (.iconst 0, 1) := by decide +kernel
theorem q_W_isDoneBy_52 : decode m_W_isDoneBy.2.1 52 = .ok (.ireturn, 1) := by decide +kernel
theorem q_W_mostWorthBy_0 : decode m_W_mostWorthBy.2.1 0 = .ok (.lconst 0, 1) := by decide +kernel
theorem q_W_mostWorthBy_1 : decode m_W_mostWorthBy.2.1 1 = .ok (.lstore_n 3, 1) := by decide +kernel
theorem q_W_mostWorthBy_2 : decode m_W_mostWorthBy.2.1 2 = .ok (.iconst 0, 1) := by decide +kernel
theorem q_W_mostWorthBy_3 : decode m_W_mostWorthBy.2.1 3 = .ok (.istore 5, 2) := by decide +kernel
theorem q_W_mostWorthBy_5 : decode m_W_mostWorthBy.2.1 5 = .ok (.iload 5, 2) := by decide +kernel
theorem q_W_mostWorthBy_7 : decode m_W_mostWorthBy.2.1 7 = .ok (.aload_n 0, 1) := by decide +kernel
theorem q_W_mostWorthBy_8 : decode m_W_mostWorthBy.2.1 8 = .ok (.getfield 55, 3) := by decide +kernel
theorem q_W_mostWorthBy_11 : decode m_W_mostWorthBy.2.1 11 = .ok (.if_icmp .ge 43, 3) := by decide +kernel
theorem q_W_mostWorthBy_14 : decode m_W_mostWorthBy.2.1 14 = .ok (.aload_n 0, 1) := by decide +kernel
theorem q_W_mostWorthBy_15 : decode m_W_mostWorthBy.2.1 15 = .ok (.getfield 22, 3) := by decide +kernel
theorem q_W_mostWorthBy_18 : decode m_W_mostWorthBy.2.1 18 = .ok (.iload 5, 2) := by decide +kernel
theorem q_W_mostWorthBy_20 : decode m_W_mostWorthBy.2.1 20 = .ok (.iaload, 1) := by decide +kernel
theorem q_W_mostWorthBy_21 : decode m_W_mostWorthBy.2.1 21 = .ok (.iload_n 1, 1) := by decide +kernel
theorem q_W_mostWorthBy_22 : decode m_W_mostWorthBy.2.1 22 = .ok (.if_icmp .ne 26, 3) := by decide +kernel
theorem q_W_mostWorthBy_25 : decode m_W_mostWorthBy.2.1 25 = .ok (.aload_n 0, 1) := by decide +kernel
theorem q_W_mostWorthBy_26 : decode m_W_mostWorthBy.2.1 26 = .ok (.getfield 25, 3) := by decide +kernel
theorem q_W_mostWorthBy_29 : decode m_W_mostWorthBy.2.1 29 = .ok (.iload 5, 2) := by decide +kernel
theorem q_W_mostWorthBy_31 : decode m_W_mostWorthBy.2.1 31 = .ok (.iaload, 1) := by decide +kernel
theorem q_W_mostWorthBy_32 : decode m_W_mostWorthBy.2.1 32 = .ok (.iload_n 2, 1) := by decide +kernel
theorem q_W_mostWorthBy_33 : decode m_W_mostWorthBy.2.1 33 = .ok (.if_icmp .gt 15, 3) := by decide +kernel
theorem q_W_mostWorthBy_36 : decode m_W_mostWorthBy.2.1 36 = .ok (.lload_n 3, 1) := by decide +kernel
theorem q_W_mostWorthBy_37 : decode m_W_mostWorthBy.2.1 37 = .ok (.aload_n 0, 1) := by decide +kernel
theorem q_W_mostWorthBy_38 : decode m_W_mostWorthBy.2.1 38 = .ok (.getfield 31, 3) := by decide +kernel
theorem q_W_mostWorthBy_41 : decode m_W_mostWorthBy.2.1 41 = .ok (.iload 5, 2) := by decide +kernel
theorem q_W_mostWorthBy_43 : decode m_W_mostWorthBy.2.1 43 = .ok (.laload, 1) := by decide +kernel
theorem q_W_mostWorthBy_44 : decode m_W_mostWorthBy.2.1 44 = .ok (.invokestatic 69, 3) := by decide +kernel
theorem q_W_mostWorthBy_47 : decode m_W_mostWorthBy.2.1 47 = .ok (.lstore_n 3, 1) := by decide +kernel
theorem q_W_mostWorthBy_48 : decode m_W_mostWorthBy.2.1 48 = .ok (.iinc 5 1, 3) := by decide +kernel
theorem q_W_mostWorthBy_51 : decode m_W_mostWorthBy.2.1 51 = .ok (.goto (-46), 3) := by decide +kernel
theorem q_W_mostWorthBy_54 : decode m_W_mostWorthBy.2.1 54 = .ok (.lload_n 3, 1) := by decide +kernel
theorem q_W_mostWorthBy_55 : decode m_W_mostWorthBy.2.1 55 = .ok (.lreturn, 1) := by decide +kernel
theorem q_W_mostWorth_0 : decode m_W_mostWorth.2.1 0 = .ok (.aload_n 0, 1) := by decide +kernel
theorem q_W_mostWorth_1 : decode m_W_mostWorth.2.1 1 = .ok (.iload_n 1, 1) := by decide +kernel
theorem q_W_mostWorth_2 : decode m_W_mostWorth.2.1 2 = .ok (.aload_n 0, 1) := by decide +kernel
theorem q_W_mostWorth_3 : decode m_W_mostWorth.2.1 3 = .ok (.getfield 48, 3) := by decide +kernel
theorem q_W_mostWorth_6 : decode m_W_mostWorth.2.1 6 = .ok (.iconst 1, 1) := by decide +kernel
theorem q_W_mostWorth_7 : decode m_W_mostWorth.2.1 7 = .ok (.isub, 1) := by decide +kernel
theorem q_W_mostWorth_8 : decode m_W_mostWorth.2.1 8 = .ok (.invokevirtual 85, 3) := by decide +kernel
theorem q_W_mostWorth_11 : decode m_W_mostWorth.2.1 11 = .ok (.lreturn, 1) := by decide +kernel
theorem q_W_ranksBefore_0 : decode m_W_ranksBefore.2.1 0 = .ok (.aload_n 0, 1) := by decide +kernel
theorem q_W_ranksBefore_1 : decode m_W_ranksBefore.2.1 1 = .ok (.iload_n 1, 1) := by decide +kernel
theorem q_W_ranksBefore_2 : decode m_W_ranksBefore.2.1 2 = .ok (.invokevirtual 88, 3) := by decide +kernel
theorem q_W_ranksBefore_5 : decode m_W_ranksBefore.2.1 5 = .ok (.lstore_n 3, 1) := by decide +kernel
theorem q_W_ranksBefore_6 : decode m_W_ranksBefore.2.1 6 = .ok (.aload_n 0, 1) := by decide +kernel
theorem q_W_ranksBefore_7 : decode m_W_ranksBefore.2.1 7 = .ok (.iload_n 2, 1) := by decide +kernel
theorem q_W_ranksBefore_8 : decode m_W_ranksBefore.2.1 8 = .ok (.invokevirtual 88, 3) := by decide +kernel
theorem q_W_ranksBefore_11 : decode m_W_ranksBefore.2.1 11 = .ok (.lstore 5, 2) := by decide +kernel
theorem q_W_ranksBefore_13 : decode m_W_ranksBefore.2.1 13 = .ok (.lload_n 3, 1) := by decide +kernel
theorem q_W_ranksBefore_14 : decode m_W_ranksBefore.2.1 14 = .ok (.lload 5, 2) := by decide +kernel
theorem q_W_ranksBefore_16 : decode m_W_ranksBefore.2.1 16 = .ok (.lcmp, 1) := by decide +kernel
theorem q_W_ranksBefore_17 : decode m_W_ranksBefore.2.1 17 = .ok (.ifCond .eq 16, 3) := by decide +kernel
theorem q_W_ranksBefore_20 : decode m_W_ranksBefore.2.1 20 = .ok (.lload_n 3, 1) := by decide +kernel
theorem q_W_ranksBefore_21 : decode m_W_ranksBefore.2.1 21 = .ok (.lload 5, 2) := by decide +kernel
theorem q_W_ranksBefore_23 : decode m_W_ranksBefore.2.1 23 = .ok (.lcmp, 1) := by decide +kernel
theorem q_W_ranksBefore_24 : decode m_W_ranksBefore.2.1 24 = .ok (.ifCond .le 7, 3) := by decide +kernel
theorem q_W_ranksBefore_27 : decode m_W_ranksBefore.2.1 27 = .ok (.iconst 1, 1) := by decide +kernel
theorem q_W_ranksBefore_28 : decode m_W_ranksBefore.2.1 28 = .ok (.goto 4, 3) := by decide +kernel
theorem q_W_ranksBefore_31 : decode m_W_ranksBefore.2.1 31 = .ok (.iconst 0, 1) := by decide +kernel
theorem q_W_ranksBefore_32 : decode m_W_ranksBefore.2.1 32 = .ok (.ireturn, 1) := by decide +kernel
theorem q_W_ranksBefore_33 : decode m_W_ranksBefore.2.1 33 = .ok (.aload_n 0, 1) := by decide +kernel
theorem q_W_ranksBefore_34 : decode m_W_ranksBefore.2.1 34 = .ok (.getfield 15, 3) := by decide +kernel
theorem q_W_ranksBefore_37 : decode m_W_ranksBefore.2.1 37 = .ok (.iload_n 1, 1) := by decide +kernel
theorem q_W_ranksBefore_38 : decode m_W_ranksBefore.2.1 38 = .ok (.iaload, 1) := by decide +kernel
theorem q_W_ranksBefore_39 : decode m_W_ranksBefore.2.1 39 = .ok (.aload_n 0, 1) := by decide +kernel
theorem q_W_ranksBefore_40 : decode m_W_ranksBefore.2.1 40 = .ok (.getfield 15, 3) := by decide +kernel
theorem q_W_ranksBefore_43 : decode m_W_ranksBefore.2.1 43 = .ok (.iload_n 2, 1) := by decide +kernel
theorem q_W_ranksBefore_44 : decode m_W_ranksBefore.2.1 44 = .ok (.iaload, 1) := by decide +kernel
theorem q_W_ranksBefore_45 : decode m_W_ranksBefore.2.1 45 = .ok (.if_icmp .eq 26, 3) := by decide +kernel
theorem q_W_ranksBefore_48 : decode m_W_ranksBefore.2.1 48 = .ok (.aload_n 0, 1) := by decide +kernel
theorem q_W_ranksBefore_49 : decode m_W_ranksBefore.2.1 49 = .ok (.getfield 15, 3) := by decide +kernel
theorem q_W_ranksBefore_52 : decode m_W_ranksBefore.2.1 52 = .ok (.iload_n 1, 1) := by decide +kernel
theorem q_W_ranksBefore_53 : decode m_W_ranksBefore.2.1 53 = .ok (.iaload, 1) := by decide +kernel
theorem q_W_ranksBefore_54 : decode m_W_ranksBefore.2.1 54 = .ok (.aload_n 0, 1) := by decide +kernel
theorem q_W_ranksBefore_55 : decode m_W_ranksBefore.2.1 55 = .ok (.getfield 15, 3) := by decide +kernel
theorem q_W_ranksBefore_58 : decode m_W_ranksBefore.2.1 58 = .ok (.iload_n 2, 1) := by decide +kernel
theorem q_W_ranksBefore_59 : decode m_W_ranksBefore.2.1 59 = .ok (.iaload, 1) := by decide +kernel
theorem q_W_ranksBefore_60 : decode m_W_ranksBefore.2.1 60 = .ok (.if_icmp .ge 7, 3) := by decide +kernel
theorem q_W_ranksBefore_63 : decode m_W_ranksBefore.2.1 63 = .ok (.iconst 1, 1) := by decide +kernel
theorem q_W_ranksBefore_64 : decode m_W_ranksBefore.2.1 64 = .ok (.goto 17, 3) := by decide +kernel
theorem q_W_ranksBefore_67 : decode m_W_ranksBefore.2.1 67 = .ok (.iconst 0, 1) := by decide +kernel
theorem q_W_ranksBefore_68 : decode m_W_ranksBefore.2.1 68 = .ok (.goto 13, 3) := by decide +kernel
theorem q_W_ranksBefore_71 : decode m_W_ranksBefore.2.1 71 = .ok (.iload_n 1, 1) := by decide +kernel
theorem q_W_ranksBefore_72 : decode m_W_ranksBefore.2.1 72 = .ok (.iload_n 2, 1) := by decide +kernel
theorem q_W_ranksBefore_73 : decode m_W_ranksBefore.2.1 73 = .ok (.if_icmp .ge 7, 3) := by decide +kernel
theorem q_W_ranksBefore_76 : decode m_W_ranksBefore.2.1 76 = .ok (.iconst 1, 1) := by decide +kernel
theorem q_W_ranksBefore_77 : decode m_W_ranksBefore.2.1 77 = .ok (.goto 4, 3) := by decide +kernel
theorem q_W_ranksBefore_80 : decode m_W_ranksBefore.2.1 80 = .ok (.iconst 0, 1) := by decide +kernel
theorem q_W_ranksBefore_81 : decode m_W_ranksBefore.2.1 81 = .ok (.ireturn, 1) := by decide +kernel
theorem q_JI_bitCount_0 : decode m_JI_bitCount.2.1 0 = .ok (.iload_n 0, 1) := by decide +kernel
theorem q_JI_bitCount_1 : decode m_JI_bitCount.2.1 1 = .ok (.iload_n 0, 1) := by decide +kernel
theorem q_JI_bitCount_2 : decode m_JI_bitCount.2.1 2 = .ok (.iconst 1, 1) := by decide +kernel
theorem q_JI_bitCount_3 : decode m_JI_bitCount.2.1 3 = .ok (.iushr, 1) := by decide +kernel
theorem q_JI_bitCount_4 : decode m_JI_bitCount.2.1 4 = .ok (.ldc_w 265, 3) := by decide +kernel
theorem q_JI_bitCount_7 : decode m_JI_bitCount.2.1 7 = .ok (.iand, 1) := by decide +kernel
theorem q_JI_bitCount_8 : decode m_JI_bitCount.2.1 8 = .ok (.isub, 1) := by decide +kernel
theorem q_JI_bitCount_9 : decode m_JI_bitCount.2.1 9 = .ok (.istore_n 0, 1) := by decide +kernel
theorem q_JI_bitCount_10 : decode m_JI_bitCount.2.1 10 = .ok (.iload_n 0, 1) := by decide +kernel
theorem q_JI_bitCount_11 : decode m_JI_bitCount.2.1 11 = .ok (.ldc_w 266, 3) := by decide +kernel
theorem q_JI_bitCount_14 : decode m_JI_bitCount.2.1 14 = .ok (.iand, 1) := by decide +kernel
theorem q_JI_bitCount_15 : decode m_JI_bitCount.2.1 15 = .ok (.iload_n 0, 1) := by decide +kernel
theorem q_JI_bitCount_16 : decode m_JI_bitCount.2.1 16 = .ok (.iconst 2, 1) := by decide +kernel
theorem q_JI_bitCount_17 : decode m_JI_bitCount.2.1 17 = .ok (.iushr, 1) := by decide +kernel
theorem q_JI_bitCount_18 : decode m_JI_bitCount.2.1 18 = .ok (.ldc_w 266, 3) := by decide +kernel
theorem q_JI_bitCount_21 : decode m_JI_bitCount.2.1 21 = .ok (.iand, 1) := by decide +kernel
theorem q_JI_bitCount_22 : decode m_JI_bitCount.2.1 22 = .ok (.iadd, 1) := by decide +kernel
theorem q_JI_bitCount_23 : decode m_JI_bitCount.2.1 23 = .ok (.istore_n 0, 1) := by decide +kernel
theorem q_JI_bitCount_24 : decode m_JI_bitCount.2.1 24 = .ok (.iload_n 0, 1) := by decide +kernel
theorem q_JI_bitCount_25 : decode m_JI_bitCount.2.1 25 = .ok (.iload_n 0, 1) := by decide +kernel
theorem q_JI_bitCount_26 : decode m_JI_bitCount.2.1 26 = .ok (.iconst 4, 1) := by decide +kernel
theorem q_JI_bitCount_27 : decode m_JI_bitCount.2.1 27 = .ok (.iushr, 1) := by decide +kernel
theorem q_JI_bitCount_28 : decode m_JI_bitCount.2.1 28 = .ok (.iadd, 1) := by decide +kernel
theorem q_JI_bitCount_29 : decode m_JI_bitCount.2.1 29 = .ok (.ldc_w 267, 3) := by decide +kernel
theorem q_JI_bitCount_32 : decode m_JI_bitCount.2.1 32 = .ok (.iand, 1) := by decide +kernel
theorem q_JI_bitCount_33 : decode m_JI_bitCount.2.1 33 = .ok (.istore_n 0, 1) := by decide +kernel
theorem q_JI_bitCount_34 : decode m_JI_bitCount.2.1 34 = .ok (.iload_n 0, 1) := by decide +kernel
theorem q_JI_bitCount_35 : decode m_JI_bitCount.2.1 35 = .ok (.iload_n 0, 1) := by decide +kernel
theorem q_JI_bitCount_36 : decode m_JI_bitCount.2.1 36 = .ok (.bipush 8, 2) := by decide +kernel
theorem q_JI_bitCount_38 : decode m_JI_bitCount.2.1 38 = .ok (.iushr, 1) := by decide +kernel
theorem q_JI_bitCount_39 : decode m_JI_bitCount.2.1 39 = .ok (.iadd, 1) := by decide +kernel
theorem q_JI_bitCount_40 : decode m_JI_bitCount.2.1 40 = .ok (.istore_n 0, 1) := by decide +kernel
theorem q_JI_bitCount_41 : decode m_JI_bitCount.2.1 41 = .ok (.iload_n 0, 1) := by decide +kernel
theorem q_JI_bitCount_42 : decode m_JI_bitCount.2.1 42 = .ok (.iload_n 0, 1) := by decide +kernel
theorem q_JI_bitCount_43 : decode m_JI_bitCount.2.1 43 = .ok (.bipush 16, 2) := by decide +kernel
theorem q_JI_bitCount_45 : decode m_JI_bitCount.2.1 45 = .ok (.iushr, 1) := by decide +kernel
theorem q_JI_bitCount_46 : decode m_JI_bitCount.2.1 46 = .ok (.iadd, 1) := by decide +kernel
theorem q_JI_bitCount_47 : decode m_JI_bitCount.2.1 47 = .ok (.istore_n 0, 1) := by decide +kernel
theorem q_JI_bitCount_48 : decode m_JI_bitCount.2.1 48 = .ok (.iload_n 0, 1) := by decide +kernel
theorem q_JI_bitCount_49 : decode m_JI_bitCount.2.1 49 = .ok (.bipush 63, 2) := by decide +kernel
theorem q_JI_bitCount_51 : decode m_JI_bitCount.2.1 51 = .ok (.iand, 1) := by decide +kernel
theorem q_JI_bitCount_52 : decode m_JI_bitCount.2.1 52 = .ok (.ireturn, 1) := by decide +kernel
theorem q_JL_compare_0 : decode m_JL_compare.2.1 0 = .ok (.lload_n 0, 1) := by decide +kernel
theorem q_JL_compare_1 : decode m_JL_compare.2.1 1 = .ok (.lload_n 2, 1) := by decide +kernel
theorem q_JL_compare_2 : decode m_JL_compare.2.1 2 = .ok (.lcmp, 1) := by decide +kernel
theorem q_JL_compare_3 : decode m_JL_compare.2.1 3 = .ok (.ifCond .ge 7, 3) := by decide +kernel
theorem q_JL_compare_6 : decode m_JL_compare.2.1 6 = .ok (.iconst (-1), 1) := by decide +kernel
theorem q_JL_compare_7 : decode m_JL_compare.2.1 7 = .ok (.goto 14, 3) := by decide +kernel
theorem q_JL_compare_10 : decode m_JL_compare.2.1 10 = .ok (.lload_n 0, 1) := by decide +kernel
theorem q_JL_compare_11 : decode m_JL_compare.2.1 11 = .ok (.lload_n 2, 1) := by decide +kernel
theorem q_JL_compare_12 : decode m_JL_compare.2.1 12 = .ok (.lcmp, 1) := by decide +kernel
theorem q_JL_compare_13 : decode m_JL_compare.2.1 13 = .ok (.ifCond .ne 7, 3) := by decide +kernel
theorem q_JL_compare_16 : decode m_JL_compare.2.1 16 = .ok (.iconst 0, 1) := by decide +kernel
theorem q_JL_compare_17 : decode m_JL_compare.2.1 17 = .ok (.goto 4, 3) := by decide +kernel
theorem q_JL_compare_20 : decode m_JL_compare.2.1 20 = .ok (.iconst 1, 1) := by decide +kernel
theorem q_JL_compare_21 : decode m_JL_compare.2.1 21 = .ok (.ireturn, 1) := by decide +kernel
theorem q_JM_max_III_0 : decode m_JM_max_III.2.1 0 = .ok (.iload_n 0, 1) := by decide +kernel
theorem q_JM_max_III_1 : decode m_JM_max_III.2.1 1 = .ok (.iload_n 1, 1) := by decide +kernel
theorem q_JM_max_III_2 : decode m_JM_max_III.2.1 2 = .ok (.if_icmp .lt 7, 3) := by decide +kernel
theorem q_JM_max_III_5 : decode m_JM_max_III.2.1 5 = .ok (.iload_n 0, 1) := by decide +kernel
theorem q_JM_max_III_6 : decode m_JM_max_III.2.1 6 = .ok (.goto 4, 3) := by decide +kernel
theorem q_JM_max_III_9 : decode m_JM_max_III.2.1 9 = .ok (.iload_n 1, 1) := by decide +kernel
theorem q_JM_max_III_10 : decode m_JM_max_III.2.1 10 = .ok (.ireturn, 1) := by decide +kernel
theorem q_JM_max_JJJ_0 : decode m_JM_max_JJJ.2.1 0 = .ok (.lload_n 0, 1) := by decide +kernel
theorem q_JM_max_JJJ_1 : decode m_JM_max_JJJ.2.1 1 = .ok (.lload_n 2, 1) := by decide +kernel
theorem q_JM_max_JJJ_2 : decode m_JM_max_JJJ.2.1 2 = .ok (.lcmp, 1) := by decide +kernel
theorem q_JM_max_JJJ_3 : decode m_JM_max_JJJ.2.1 3 = .ok (.ifCond .lt 7, 3) := by decide +kernel
theorem q_JM_max_JJJ_6 : decode m_JM_max_JJJ.2.1 6 = .ok (.lload_n 0, 1) := by decide +kernel
theorem q_JM_max_JJJ_7 : decode m_JM_max_JJJ.2.1 7 = .ok (.goto 4, 3) := by decide +kernel
theorem q_JM_max_JJJ_10 : decode m_JM_max_JJJ.2.1 10 = .ok (.lload_n 2, 1) := by decide +kernel
theorem q_JM_max_JJJ_11 : decode m_JM_max_JJJ.2.1 11 = .ok (.lreturn, 1) := by decide +kernel
theorem q_JM_min_III_0 : decode m_JM_min_III.2.1 0 = .ok (.iload_n 0, 1) := by decide +kernel
theorem q_JM_min_III_1 : decode m_JM_min_III.2.1 1 = .ok (.iload_n 1, 1) := by decide +kernel
theorem q_JM_min_III_2 : decode m_JM_min_III.2.1 2 = .ok (.if_icmp .gt 7, 3) := by decide +kernel
theorem q_JM_min_III_5 : decode m_JM_min_III.2.1 5 = .ok (.iload_n 0, 1) := by decide +kernel
theorem q_JM_min_III_6 : decode m_JM_min_III.2.1 6 = .ok (.goto 4, 3) := by decide +kernel
theorem q_JM_min_III_9 : decode m_JM_min_III.2.1 9 = .ok (.iload_n 1, 1) := by decide +kernel
theorem q_JM_min_III_10 : decode m_JM_min_III.2.1 10 = .ok (.ireturn, 1) := by decide +kernel
theorem q_JM_min_JJJ_0 : decode m_JM_min_JJJ.2.1 0 = .ok (.lload_n 0, 1) := by decide +kernel
theorem q_JM_min_JJJ_1 : decode m_JM_min_JJJ.2.1 1 = .ok (.lload_n 2, 1) := by decide +kernel
theorem q_JM_min_JJJ_2 : decode m_JM_min_JJJ.2.1 2 = .ok (.lcmp, 1) := by decide +kernel
theorem q_JM_min_JJJ_3 : decode m_JM_min_JJJ.2.1 3 = .ok (.ifCond .gt 7, 3) := by decide +kernel
theorem q_JM_min_JJJ_6 : decode m_JM_min_JJJ.2.1 6 = .ok (.lload_n 0, 1) := by decide +kernel
theorem q_JM_min_JJJ_7 : decode m_JM_min_JJJ.2.1 7 = .ok (.goto 4, 3) := by decide +kernel
theorem q_JM_min_JJJ_10 : decode m_JM_min_JJJ.2.1 10 = .ok (.lload_n 2, 1) := by decide +kernel
theorem q_JM_min_JJJ_11 : decode m_JM_min_JJJ.2.1 11 = .ok (.lreturn, 1) := by decide +kernel
end
section
theorem q_S_init_0 : decode m_S_init.2.1 0 = .ok (.aload_n 0, 1) := by decide +kernel
theorem q_S_init_1 : decode m_S_init.2.1 1 = .ok (.invokespecial 3, 3) := by decide +kernel
theorem q_S_init_4 : decode m_S_init.2.1 4 = .ok (.aload_n 0, 1) := by decide +kernel
theorem q_S_init_5 : decode m_S_init.2.1 5 = .ok (.bipush 6, 2) := by decide +kernel
theorem q_S_init_7 : decode m_S_init.2.1 7 = .ok (.newarray .long, 2) := by decide +kernel
theorem q_S_init_9 : decode m_S_init.2.1 9 = .ok (.putfield 9, 3) := by decide +kernel
theorem q_S_init_12 : decode m_S_init.2.1 12 = .ok (.aload_n 0, 1) := by decide +kernel
theorem q_S_init_13 : decode m_S_init.2.1 13 = .ok (.bipush 15, 2) := by decide +kernel
theorem q_S_init_15 : decode m_S_init.2.1 15 = .ok (.bipush 6, 2) := by decide +kernel
theorem q_S_init_17 : decode m_S_init.2.1 17 = .ok (.multianewarray 15 2, 4) := by decide +kernel
theorem q_S_init_21 : decode m_S_init.2.1 21 = .ok (.putfield 17, 3) := by decide +kernel
theorem q_S_init_24 : decode m_S_init.2.1 24 = .ok (.aload_n 0, 1) := by decide +kernel
theorem q_S_init_25 : decode m_S_init.2.1 25 = .ok (.bipush 15, 2) := by decide +kernel
theorem q_S_init_27 : decode m_S_init.2.1 27 = .ok (.newarray .long, 2) := by decide +kernel
theorem q_S_init_29 : decode m_S_init.2.1 29 = .ok (.putfield 20, 3) := by decide +kernel
theorem q_S_init_32 : decode m_S_init.2.1 32 = .ok (.aload_n 0, 1) := by decide +kernel
theorem q_S_init_33 : decode m_S_init.2.1 33 = .ok (.bipush 6, 2) := by decide +kernel
theorem q_S_init_35 : decode m_S_init.2.1 35 = .ok (.newarray .long, 2) := by decide +kernel
theorem q_S_init_37 : decode m_S_init.2.1 37 = .ok (.putfield 23, 3) := by decide +kernel
theorem q_S_init_40 : decode m_S_init.2.1 40 = .ok (.aload_n 0, 1) := by decide +kernel
theorem q_S_init_41 : decode m_S_init.2.1 41 = .ok (.iconst 4, 1) := by decide +kernel
theorem q_S_init_42 : decode m_S_init.2.1 42 = .ok (.newarray .long, 2) := by decide +kernel
theorem q_S_init_44 : decode m_S_init.2.1 44 = .ok (.putfield 26, 3) := by decide +kernel
theorem q_S_init_47 : decode m_S_init.2.1 47 = .ok (.aload_n 0, 1) := by decide +kernel
theorem q_S_init_48 : decode m_S_init.2.1 48 = .ok (.aload_n 1, 1) := by decide +kernel
theorem q_S_init_49 : decode m_S_init.2.1 49 = .ok (.putfield 29, 3) := by decide +kernel
theorem q_S_init_52 : decode m_S_init.2.1 52 = .ok (.return_, 1) := by decide +kernel
theorem q_S_bestPlan_0 : decode m_S_bestPlan.2.1 0 = .ok (.aload_n 0, 1) := by decide +kernel
theorem q_S_bestPlan_1 : decode m_S_bestPlan.2.1 1 = .ok (.lload_n 1, 1) := by decide +kernel
theorem q_S_bestPlan_2 : decode m_S_bestPlan.2.1 2 = .ok (.aload_n 0, 1) := by decide +kernel
theorem q_S_bestPlan_3 : decode m_S_bestPlan.2.1 3 = .ok (.getfield 29, 3) := by decide +kernel
theorem q_S_bestPlan_6 : decode m_S_bestPlan.2.1 6 = .ok (.getfield 33, 3) := by decide +kernel
theorem q_S_bestPlan_9 : decode m_S_bestPlan.2.1 9 = .ok (.invokevirtual 39, 3) := by decide +kernel
theorem q_S_bestPlan_12 : decode m_S_bestPlan.2.1 12 = .ok (.aload_n 0, 1) := by decide +kernel
theorem q_S_bestPlan_13 : decode m_S_bestPlan.2.1 13 = .ok (.iconst 0, 1) := by decide +kernel
theorem q_S_bestPlan_14 : decode m_S_bestPlan.2.1 14 = .ok (.lconst 0, 1) := by decide +kernel
theorem q_S_bestPlan_15 : decode m_S_bestPlan.2.1 15 = .ok (.invokevirtual 43, 3) := by decide +kernel
theorem q_S_bestPlan_18 : decode m_S_bestPlan.2.1 18 = .ok (.aload_n 0, 1) := by decide +kernel
theorem q_S_bestPlan_19 : decode m_S_bestPlan.2.1 19 = .ok (.getfield 47, 3) := by decide +kernel
theorem q_S_bestPlan_22 : decode m_S_bestPlan.2.1 22 = .ok (.ireturn, 1) := by decide +kernel
theorem q_S_bestPlanWithMore_0 : decode m_S_bestPlanWithMore.2.1 0 = .ok (.aload_n 0, 1) := by decide +kernel
theorem q_S_bestPlanWithMore_1 : decode m_S_bestPlanWithMore.2.1 1 = .ok (.ldc2_w 50, 3) := by decide +kernel
theorem q_S_bestPlanWithMore_4 : decode m_S_bestPlanWithMore.2.1 4 = .ok (.aload_n 0, 1) := by decide +kernel
theorem q_S_bestPlanWithMore_5 : decode m_S_bestPlanWithMore.2.1 5 = .ok (.getfield 29, 3) := by decide +kernel
theorem q_S_bestPlanWithMore_8 : decode m_S_bestPlanWithMore.2.1 8 = .ok (.getfield 33, 3) := by decide +kernel
theorem q_S_bestPlanWithMore_11 : decode m_S_bestPlanWithMore.2.1 11 = .ok (.invokevirtual 39, 3) := by decide +kernel
theorem q_S_bestPlanWithMore_14 : decode m_S_bestPlanWithMore.2.1 14 = .ok (.aload_n 0, 1) := by decide +kernel
theorem q_S_bestPlanWithMore_15 : decode m_S_bestPlanWithMore.2.1 15 = .ok (.getfield 9, 3) := by decide +kernel
theorem q_S_bestPlanWithMore_18 : decode m_S_bestPlanWithMore.2.1 18 = .ok (.iload_n 1, 1) := by decide +kernel
theorem q_S_bestPlanWithMore_19 : decode m_S_bestPlanWithMore.2.1 19 = .ok (.dup2, 1) := by decide +kernel
theorem q_S_bestPlanWithMore_20 : decode m_S_bestPlanWithMore.2.1 20 = .ok (.laload, 1) := by decide +kernel
theorem q_S_bestPlanWithMore_21 : decode m_S_bestPlanWithMore.2.1 21 = .ok (.lload_n 2, 1) := by decide +kernel
theorem q_S_bestPlanWithMore_22 : decode m_S_bestPlanWithMore.2.1 22 = .ok (.ladd, 1) := by decide +kernel
theorem q_S_bestPlanWithMore_23 : decode m_S_bestPlanWithMore.2.1 23 = .ok (.lastore, 1) := by decide +kernel
theorem q_S_bestPlanWithMore_24 : decode m_S_bestPlanWithMore.2.1 24 = .ok (.aload_n 0, 1) := by decide +kernel
theorem q_S_bestPlanWithMore_25 : decode m_S_bestPlanWithMore.2.1 25 = .ok (.iconst 0, 1) := by decide +kernel
theorem q_S_bestPlanWithMore_26 : decode m_S_bestPlanWithMore.2.1 26 = .ok (.lconst 0, 1) := by decide +kernel
theorem q_S_bestPlanWithMore_27 : decode m_S_bestPlanWithMore.2.1 27 = .ok (.invokevirtual 43, 3) := by decide +kernel
theorem q_S_bestPlanWithMore_30 : decode m_S_bestPlanWithMore.2.1 30 = .ok (.aload_n 0, 1) := by decide +kernel
theorem q_S_bestPlanWithMore_31 : decode m_S_bestPlanWithMore.2.1 31 = .ok (.getfield 47, 3) := by decide +kernel
theorem q_S_bestPlanWithMore_34 : decode m_S_bestPlanWithMore.2.1 34 = .ok (.ireturn, 1) := by decide +kernel
theorem q_S_nearestPlan_0 : decode m_S_nearestPlan.2.1 0 = .ok (.aload_n 0, 1) := by decide +kernel
theorem q_S_nearestPlan_1 : decode m_S_nearestPlan.2.1 1 = .ok (.lload_n 1, 1) := by decide +kernel
theorem q_S_nearestPlan_2 : decode m_S_nearestPlan.2.1 2 = .ok (.aload_n 0, 1) := by decide +kernel
theorem q_S_nearestPlan_3 : decode m_S_nearestPlan.2.1 3 = .ok (.getfield 29, 3) := by decide +kernel
theorem q_S_nearestPlan_6 : decode m_S_nearestPlan.2.1 6 = .ok (.getfield 33, 3) := by decide +kernel
theorem q_S_nearestPlan_9 : decode m_S_nearestPlan.2.1 9 = .ok (.invokevirtual 39, 3) := by decide +kernel
theorem q_S_nearestPlan_12 : decode m_S_nearestPlan.2.1 12 = .ok (.aload_n 0, 1) := by decide +kernel
theorem q_S_nearestPlan_13 : decode m_S_nearestPlan.2.1 13 = .ok (.iload_n 3, 1) := by decide +kernel
theorem q_S_nearestPlan_14 : decode m_S_nearestPlan.2.1 14 = .ok (.putfield 52, 3) := by decide +kernel
theorem q_S_nearestPlan_17 : decode m_S_nearestPlan.2.1 17 = .ok (.aload_n 0, 1) := by decide +kernel
theorem q_S_nearestPlan_18 : decode m_S_nearestPlan.2.1 18 = .ok (.aload_n 0, 1) := by decide +kernel
theorem q_S_nearestPlan_19 : decode m_S_nearestPlan.2.1 19 = .ok (.getfield 29, 3) := by decide +kernel
theorem q_S_nearestPlan_22 : decode m_S_nearestPlan.2.1 22 = .ok (.invokevirtual 55, 3) := by decide +kernel
theorem q_S_nearestPlan_25 : decode m_S_nearestPlan.2.1 25 = .ok (.iconst 1, 1) := by decide +kernel
theorem q_S_nearestPlan_26 : decode m_S_nearestPlan.2.1 26 = .ok (.isub, 1) := by decide +kernel
theorem q_S_nearestPlan_27 : decode m_S_nearestPlan.2.1 27 = .ok (.putfield 59, 3) := by decide +kernel
theorem q_S_nearestPlan_30 : decode m_S_nearestPlan.2.1 30 = .ok (.aload_n 0, 1) := by decide +kernel
theorem q_S_nearestPlan_31 : decode m_S_nearestPlan.2.1 31 = .ok (.iconst 0, 1) := by decide +kernel
theorem q_S_nearestPlan_32 : decode m_S_nearestPlan.2.1 32 = .ok (.lconst 0, 1) := by decide +kernel
theorem q_S_nearestPlan_33 : decode m_S_nearestPlan.2.1 33 = .ok (.invokevirtual 43, 3) := by decide +kernel
theorem q_S_nearestPlan_36 : decode m_S_nearestPlan.2.1 36 = .ok (.aload_n 0, 1) := by decide +kernel
theorem q_S_nearestPlan_37 : decode m_S_nearestPlan.2.1 37 = .ok (.getfield 47, 3) := by decide +kernel
theorem q_S_nearestPlan_40 : decode m_S_nearestPlan.2.1 40 = .ok (.ireturn, 1) := by decide +kernel
theorem q_S_someHolds_0 : decode m_S_someHolds.2.1 0 = .ok (.aload_n 0, 1) := by decide +kernel
theorem q_S_someHolds_1 : decode m_S_someHolds.2.1 1 = .ok (.ldc2_w 50, 3) := by decide +kernel
theorem q_S_someHolds_4 : decode m_S_someHolds.2.1 4 = .ok (.iload_n 1, 1) := by decide +kernel
theorem q_S_someHolds_5 : decode m_S_someHolds.2.1 5 = .ok (.invokevirtual 39, 3) := by decide +kernel
theorem q_S_someHolds_8 : decode m_S_someHolds.2.1 8 = .ok (.aload_n 0, 1) := by decide +kernel
theorem q_S_someHolds_9 : decode m_S_someHolds.2.1 9 = .ok (.iconst 1, 1) := by decide +kernel
theorem q_S_someHolds_10 : decode m_S_someHolds.2.1 10 = .ok (.putfield 62, 3) := by decide +kernel
theorem q_S_someHolds_13 : decode m_S_someHolds.2.1 13 = .ok (.aload_n 0, 1) := by decide +kernel
theorem q_S_someHolds_14 : decode m_S_someHolds.2.1 14 = .ok (.iconst 0, 1) := by decide +kernel
theorem q_S_someHolds_15 : decode m_S_someHolds.2.1 15 = .ok (.lconst 0, 1) := by decide +kernel
theorem q_S_someHolds_16 : decode m_S_someHolds.2.1 16 = .ok (.invokevirtual 43, 3) := by decide +kernel
theorem q_S_someHolds_19 : decode m_S_someHolds.2.1 19 = .ok (.aload_n 0, 1) := by decide +kernel
theorem q_S_someHolds_20 : decode m_S_someHolds.2.1 20 = .ok (.getfield 47, 3) := by decide +kernel
theorem q_S_someHolds_23 : decode m_S_someHolds.2.1 23 = .ok (.iconst (-1), 1) := by decide +kernel
theorem q_S_someHolds_24 : decode m_S_someHolds.2.1 24 = .ok (.if_icmp .eq 7, 3) := by decide +kernel
theorem q_S_someHolds_27 : decode m_S_someHolds.2.1 27 = .ok (.iconst 1, 1) := by decide +kernel
theorem q_S_someHolds_28 : decode m_S_someHolds.2.1 28 = .ok (.goto 4, 3) := by decide +kernel
theorem q_S_someHolds_31 : decode m_S_someHolds.2.1 31 = .ok (.iconst 0, 1) := by decide +kernel
theorem q_S_someHolds_32 : decode m_S_someHolds.2.1 32 = .ok (.ireturn, 1) := by decide +kernel
theorem q_S_prepare_0 : decode m_S_prepare.2.1 0 = .ok (.aload_n 0, 1) := by decide +kernel
theorem q_S_prepare_1 : decode m_S_prepare.2.1 1 = .ok (.lload_n 1, 1) := by decide +kernel
theorem q_S_prepare_2 : decode m_S_prepare.2.1 2 = .ok (.putfield 66, 3) := by decide +kernel
theorem q_S_prepare_5 : decode m_S_prepare.2.1 5 = .ok (.aload_n 0, 1) := by decide +kernel
theorem q_S_prepare_6 : decode m_S_prepare.2.1 6 = .ok (.iload_n 3, 1) := by decide +kernel
theorem q_S_prepare_7 : decode m_S_prepare.2.1 7 = .ok (.putfield 70, 3) := by decide +kernel
theorem q_S_prepare_10 : decode m_S_prepare.2.1 10 = .ok (.aload_n 0, 1) := by decide +kernel
theorem q_S_prepare_11 : decode m_S_prepare.2.1 11 = .ok (.iconst 0, 1) := by decide +kernel
theorem q_S_prepare_12 : decode m_S_prepare.2.1 12 = .ok (.putfield 52, 3) := by decide +kernel
theorem q_S_prepare_15 : decode m_S_prepare.2.1 15 = .ok (.aload_n 0, 1) := by decide +kernel
theorem q_S_prepare_16 : decode m_S_prepare.2.1 16 = .ok (.iconst 0, 1) := by decide +kernel
theorem q_S_prepare_17 : decode m_S_prepare.2.1 17 = .ok (.putfield 59, 3) := by decide +kernel
theorem q_S_prepare_20 : decode m_S_prepare.2.1 20 = .ok (.aload_n 0, 1) := by decide +kernel
theorem q_S_prepare_21 : decode m_S_prepare.2.1 21 = .ok (.iconst 0, 1) := by decide +kernel
theorem q_S_prepare_22 : decode m_S_prepare.2.1 22 = .ok (.putfield 62, 3) := by decide +kernel
theorem q_S_prepare_25 : decode m_S_prepare.2.1 25 = .ok (.aload_n 0, 1) := by decide +kernel
theorem q_S_prepare_26 : decode m_S_prepare.2.1 26 = .ok (.aload_n 0, 1) := by decide +kernel
theorem q_S_prepare_27 : decode m_S_prepare.2.1 27 = .ok (.getfield 29, 3) := by decide +kernel
theorem q_S_prepare_30 : decode m_S_prepare.2.1 30 = .ok (.invokevirtual 71, 3) := by decide +kernel
theorem q_S_prepare_33 : decode m_S_prepare.2.1 33 = .ok (.putfield 74, 3) := by decide +kernel
theorem q_S_prepare_36 : decode m_S_prepare.2.1 36 = .ok (.aload_n 0, 1) := by decide +kernel
theorem q_S_prepare_37 : decode m_S_prepare.2.1 37 = .ok (.iconst (-1), 1) := by decide +kernel
theorem q_S_prepare_38 : decode m_S_prepare.2.1 38 = .ok (.putfield 47, 3) := by decide +kernel
theorem q_S_prepare_41 : decode m_S_prepare.2.1 41 = .ok (.aload_n 0, 1) := by decide +kernel
theorem q_S_prepare_42 : decode m_S_prepare.2.1 42 = .ok (.iconst 0, 1) := by decide +kernel
theorem q_S_prepare_43 : decode m_S_prepare.2.1 43 = .ok (.putfield 76, 3) := by decide +kernel
theorem q_S_prepare_46 : decode m_S_prepare.2.1 46 = .ok (.aload_n 0, 1) := by decide +kernel
theorem q_S_prepare_47 : decode m_S_prepare.2.1 47 = .ok (.iconst 0, 1) := by decide +kernel
theorem q_S_prepare_48 : decode m_S_prepare.2.1 48 = .ok (.putfield 79, 3) := by decide +kernel
theorem q_S_prepare_51 : decode m_S_prepare.2.1 51 = .ok (.aload_n 0, 1) := by decide +kernel
theorem q_S_prepare_52 : decode m_S_prepare.2.1 52 = .ok (.iconst 0, 1) := by decide +kernel
theorem q_S_prepare_53 : decode m_S_prepare.2.1 53 = .ok (.putfield 82, 3) := by decide +kernel
theorem q_S_prepare_56 : decode m_S_prepare.2.1 56 = .ok (.aload_n 0, 1) := by decide +kernel
theorem q_S_prepare_57 : decode m_S_prepare.2.1 57 = .ok (.lconst 0, 1) := by decide +kernel
theorem q_S_prepare_58 : decode m_S_prepare.2.1 58 = .ok (.putfield 85, 3) := by decide +kernel
theorem q_S_prepare_61 : decode m_S_prepare.2.1 61 = .ok (.iconst 0, 1) := by decide +kernel
theorem q_S_prepare_62 : decode m_S_prepare.2.1 62 = .ok (.istore 4, 2) := by decide +kernel
theorem q_S_prepare_64 : decode m_S_prepare.2.1 64 = .ok (.iload 4, 2) := by decide +kernel
theorem q_S_prepare_66 : decode m_S_prepare.2.1 66 = .ok (.iconst 4, 1) := by decide +kernel
theorem q_S_prepare_67 : decode m_S_prepare.2.1 67 = .ok (.if_icmp .ge 17, 3) := by decide +kernel
theorem q_S_prepare_70 : decode m_S_prepare.2.1 70 = .ok (.aload_n 0, 1) := by decide +kernel
theorem q_S_prepare_71 : decode m_S_prepare.2.1 71 = .ok (.getfield 26, 3) := by decide +kernel
theorem q_S_prepare_74 : decode m_S_prepare.2.1 74 = .ok (.iload 4, 2) := by decide +kernel
theorem q_S_prepare_76 : decode m_S_prepare.2.1 76 = .ok (.lconst 0, 1) := by decide +kernel
theorem q_S_prepare_77 : decode m_S_prepare.2.1 77 = .ok (.lastore, 1) := by decide +kernel
theorem q_S_prepare_78 : decode m_S_prepare.2.1 78 = .ok (.iinc 4 1, 3) := by decide +kernel
theorem q_S_prepare_81 : decode m_S_prepare.2.1 81 = .ok (.goto (-17), 3) := by decide +kernel
theorem q_S_prepare_84 : decode m_S_prepare.2.1 84 = .ok (.iconst 0, 1) := by decide +kernel
theorem q_S_prepare_85 : decode m_S_prepare.2.1 85 = .ok (.istore 4, 2) := by decide +kernel
theorem q_S_prepare_87 : decode m_S_prepare.2.1 87 = .ok (.iload 4, 2) := by decide +kernel
theorem q_S_prepare_89 : decode m_S_prepare.2.1 89 = .ok (.bipush 6, 2) := by decide +kernel
theorem q_S_prepare_91 : decode m_S_prepare.2.1 91 = .ok (.if_icmp .ge 34, 3) := by decide +kernel
theorem q_S_prepare_94 : decode m_S_prepare.2.1 94 = .ok (.aload_n 0, 1) := by decide +kernel
theorem q_S_prepare_95 : decode m_S_prepare.2.1 95 = .ok (.getfield 23, 3) := by decide +kernel
theorem q_S_prepare_98 : decode m_S_prepare.2.1 98 = .ok (.iload 4, 2) := by decide +kernel
theorem q_S_prepare_100 : decode m_S_prepare.2.1 100 = .ok (.lconst 0, 1) := by decide +kernel
theorem q_S_prepare_101 : decode m_S_prepare.2.1 101 = .ok (.lastore, 1) := by decide +kernel
theorem q_S_prepare_102 : decode m_S_prepare.2.1 102 = .ok (.aload_n 0, 1) := by decide +kernel
theorem q_S_prepare_103 : decode m_S_prepare.2.1 103 = .ok (.getfield 9, 3) := by decide +kernel
theorem q_S_prepare_106 : decode m_S_prepare.2.1 106 = .ok (.iload 4, 2) := by decide +kernel
theorem q_S_prepare_108 : decode m_S_prepare.2.1 108 = .ok (.aload_n 0, 1) := by decide +kernel
theorem q_S_prepare_109 : decode m_S_prepare.2.1 109 = .ok (.getfield 29, 3) := by decide +kernel
theorem q_S_prepare_112 : decode m_S_prepare.2.1 112 = .ok (.getfield 88, 3) := by decide +kernel
theorem q_S_prepare_115 : decode m_S_prepare.2.1 115 = .ok (.iload 4, 2) := by decide +kernel
theorem q_S_prepare_117 : decode m_S_prepare.2.1 117 = .ok (.laload, 1) := by decide +kernel
theorem q_S_prepare_118 : decode m_S_prepare.2.1 118 = .ok (.lastore, 1) := by decide +kernel
theorem q_S_prepare_119 : decode m_S_prepare.2.1 119 = .ok (.iinc 4 1, 3) := by decide +kernel
theorem q_S_prepare_122 : decode m_S_prepare.2.1 122 = .ok (.goto (-35), 3) := by decide +kernel
theorem q_S_prepare_125 : decode m_S_prepare.2.1 125 = .ok (.aload_n 0, 1) := by decide +kernel
theorem q_S_prepare_126 : decode m_S_prepare.2.1 126 = .ok (.invokevirtual 91, 3) := by decide +kernel
theorem q_S_prepare_129 : decode m_S_prepare.2.1 129 = .ok (.return_, 1) := by decide +kernel
theorem q_S_prepareRests_0 : decode m_S_prepareRests.2.1 0 = .ok (.aload_n 0, 1) := by decide +kernel
theorem q_S_prepareRests_1 : decode m_S_prepareRests.2.1 1 = .ok (.getfield 29, 3) := by decide +kernel
theorem q_S_prepareRests_4 : decode m_S_prepareRests.2.1 4 = .ok (.getfield 94, 3) := by decide +kernel
theorem q_S_prepareRests_7 : decode m_S_prepareRests.2.1 7 = .ok (.istore_n 1, 1) := by decide +kernel
theorem q_S_prepareRests_8 : decode m_S_prepareRests.2.1 8 = .ok (.aload_n 0, 1) := by decide +kernel
theorem q_S_prepareRests_9 : decode m_S_prepareRests.2.1 9 = .ok (.getfield 20, 3) := by decide +kernel
theorem q_S_prepareRests_12 : decode m_S_prepareRests.2.1 12 = .ok (.iload_n 1, 1) := by decide +kernel
theorem q_S_prepareRests_13 : decode m_S_prepareRests.2.1 13 = .ok (.lconst 0, 1) := by decide +kernel
theorem q_S_prepareRests_14 : decode m_S_prepareRests.2.1 14 = .ok (.lastore, 1) := by decide +kernel
theorem q_S_prepareRests_15 : decode m_S_prepareRests.2.1 15 = .ok (.iconst 0, 1) := by decide +kernel
theorem q_S_prepareRests_16 : decode m_S_prepareRests.2.1 16 = .ok (.istore_n 2, 1) := by decide +kernel
theorem q_S_prepareRests_17 : decode m_S_prepareRests.2.1 17 = .ok (.iload_n 2, 1) := by decide +kernel
theorem q_S_prepareRests_18 : decode m_S_prepareRests.2.1 18 = .ok (.bipush 6, 2) := by decide +kernel
theorem q_S_prepareRests_20 : decode m_S_prepareRests.2.1 20 = .ok (.if_icmp .ge 18, 3) := by decide +kernel
theorem q_S_prepareRests_23 : decode m_S_prepareRests.2.1 23 = .ok (.aload_n 0, 1) := by decide +kernel
theorem q_S_prepareRests_24 : decode m_S_prepareRests.2.1 24 = .ok (.getfield 17, 3) := by decide +kernel
theorem q_S_prepareRests_27 : decode m_S_prepareRests.2.1 27 = .ok (.iload_n 1, 1) := by decide +kernel
theorem q_S_prepareRests_28 : decode m_S_prepareRests.2.1 28 = .ok (.aaload, 1) := by decide +kernel
theorem q_S_prepareRests_29 : decode m_S_prepareRests.2.1 29 = .ok (.iload_n 2, 1) := by decide +kernel
theorem q_S_prepareRests_30 : decode m_S_prepareRests.2.1 30 = .ok (.lconst 0, 1) := by decide +kernel
theorem q_S_prepareRests_31 : decode m_S_prepareRests.2.1 31 = .ok (.lastore, 1) := by decide +kernel
theorem q_S_prepareRests_32 : decode m_S_prepareRests.2.1 32 = .ok (.iinc 2 1, 3) := by decide +kernel
theorem q_S_prepareRests_35 : decode m_S_prepareRests.2.1 35 = .ok (.goto (-18), 3) := by decide +kernel
theorem q_S_prepareRests_38 : decode m_S_prepareRests.2.1 38 = .ok (.iload_n 1, 1) := by decide +kernel
theorem q_S_prepareRests_39 : decode m_S_prepareRests.2.1 39 = .ok (.iconst 1, 1) := by decide +kernel
theorem q_S_prepareRests_40 : decode m_S_prepareRests.2.1 40 = .ok (.isub, 1) := by decide +kernel
theorem q_S_prepareRests_41 : decode m_S_prepareRests.2.1 41 = .ok (.istore_n 2, 1) := by decide +kernel
theorem q_S_prepareRests_42 : decode m_S_prepareRests.2.1 42 = .ok (.iload_n 2, 1) := by decide +kernel
theorem q_S_prepareRests_43 : decode m_S_prepareRests.2.1 43 = .ok (.ifCond .lt 99, 3) := by decide +kernel
theorem q_S_prepareRests_46 : decode m_S_prepareRests.2.1 46 = .ok (.aload_n 0, 1) := by decide +kernel
theorem q_S_prepareRests_47 : decode m_S_prepareRests.2.1 47 = .ok (.getfield 20, 3) := by decide +kernel
theorem q_S_prepareRests_50 : decode m_S_prepareRests.2.1 50 = .ok (.iload_n 2, 1) := by decide +kernel
theorem q_S_prepareRests_51 : decode m_S_prepareRests.2.1 51 = .ok (.aload_n 0, 1) := by decide +kernel
theorem q_S_prepareRests_52 : decode m_S_prepareRests.2.1 52 = .ok (.getfield 20, 3) := by decide +kernel
theorem q_S_prepareRests_55 : decode m_S_prepareRests.2.1 55 = .ok (.iload_n 2, 1) := by decide +kernel
theorem q_S_prepareRests_56 : decode m_S_prepareRests.2.1 56 = .ok (.iconst 1, 1) := by decide +kernel
theorem q_S_prepareRests_57 : decode m_S_prepareRests.2.1 57 = .ok (.iadd, 1) := by decide +kernel
theorem q_S_prepareRests_58 : decode m_S_prepareRests.2.1 58 = .ok (.laload, 1) := by decide +kernel
theorem q_S_prepareRests_59 : decode m_S_prepareRests.2.1 59 = .ok (.aload_n 0, 1) := by decide +kernel
theorem q_S_prepareRests_60 : decode m_S_prepareRests.2.1 60 = .ok (.getfield 29, 3) := by decide +kernel
theorem q_S_prepareRests_63 : decode m_S_prepareRests.2.1 63 = .ok (.getfield 97, 3) := by decide +kernel
theorem q_S_prepareRests_66 : decode m_S_prepareRests.2.1 66 = .ok (.iload_n 2, 1) := by decide +kernel
theorem q_S_prepareRests_67 : decode m_S_prepareRests.2.1 67 = .ok (.laload, 1) := by decide +kernel
theorem q_S_prepareRests_68 : decode m_S_prepareRests.2.1 68 = .ok (.ladd, 1) := by decide +kernel
theorem q_S_prepareRests_69 : decode m_S_prepareRests.2.1 69 = .ok (.lastore, 1) := by decide +kernel
theorem q_S_prepareRests_70 : decode m_S_prepareRests.2.1 70 = .ok (.iconst 0, 1) := by decide +kernel
theorem q_S_prepareRests_71 : decode m_S_prepareRests.2.1 71 = .ok (.istore_n 3, 1) := by decide +kernel
theorem q_S_prepareRests_72 : decode m_S_prepareRests.2.1 72 = .ok (.iload_n 3, 1) := by decide +kernel
theorem q_S_prepareRests_73 : decode m_S_prepareRests.2.1 73 = .ok (.bipush 6, 2) := by decide +kernel
theorem q_S_prepareRests_75 : decode m_S_prepareRests.2.1 75 = .ok (.if_icmp .ge 27, 3) := by decide +kernel
theorem q_S_prepareRests_78 : decode m_S_prepareRests.2.1 78 = .ok (.aload_n 0, 1) := by decide +kernel
theorem q_S_prepareRests_79 : decode m_S_prepareRests.2.1 79 = .ok (.getfield 17, 3) := by decide +kernel
theorem q_S_prepareRests_82 : decode m_S_prepareRests.2.1 82 = .ok (.iload_n 2, 1) := by decide +kernel
theorem q_S_prepareRests_83 : decode m_S_prepareRests.2.1 83 = .ok (.aaload, 1) := by decide +kernel
theorem q_S_prepareRests_84 : decode m_S_prepareRests.2.1 84 = .ok (.iload_n 3, 1) := by decide +kernel
theorem q_S_prepareRests_85 : decode m_S_prepareRests.2.1 85 = .ok (.aload_n 0, 1) := by decide +kernel
theorem q_S_prepareRests_86 : decode m_S_prepareRests.2.1 86 = .ok (.getfield 17, 3) := by decide +kernel
theorem q_S_prepareRests_89 : decode m_S_prepareRests.2.1 89 = .ok (.iload_n 2, 1) := by decide +kernel
theorem q_S_prepareRests_90 : decode m_S_prepareRests.2.1 90 = .ok (.iconst 1, 1) := by decide +kernel
theorem q_S_prepareRests_91 : decode m_S_prepareRests.2.1 91 = .ok (.iadd, 1) := by decide +kernel
theorem q_S_prepareRests_92 : decode m_S_prepareRests.2.1 92 = .ok (.aaload, 1) := by decide +kernel
theorem q_S_prepareRests_93 : decode m_S_prepareRests.2.1 93 = .ok (.iload_n 3, 1) := by decide +kernel
theorem q_S_prepareRests_94 : decode m_S_prepareRests.2.1 94 = .ok (.laload, 1) := by decide +kernel
theorem q_S_prepareRests_95 : decode m_S_prepareRests.2.1 95 = .ok (.lastore, 1) := by decide +kernel
theorem q_S_prepareRests_96 : decode m_S_prepareRests.2.1 96 = .ok (.iinc 3 1, 3) := by decide +kernel
theorem q_S_prepareRests_99 : decode m_S_prepareRests.2.1 99 = .ok (.goto (-27), 3) := by decide +kernel
theorem q_S_prepareRests_102 : decode m_S_prepareRests.2.1 102 = .ok (.iconst 1, 1) := by decide +kernel
theorem q_S_prepareRests_103 : decode m_S_prepareRests.2.1 103 = .ok (.iload_n 2, 1) := by decide +kernel
theorem q_S_prepareRests_104 : decode m_S_prepareRests.2.1 104 = .ok (.ishl, 1) := by decide +kernel
theorem q_S_prepareRests_105 : decode m_S_prepareRests.2.1 105 = .ok (.iconst 1, 1) := by decide +kernel
theorem q_S_prepareRests_106 : decode m_S_prepareRests.2.1 106 = .ok (.isub, 1) := by decide +kernel
theorem q_S_prepareRests_107 : decode m_S_prepareRests.2.1 107 = .ok (.istore_n 3, 1) := by decide +kernel
theorem q_S_prepareRests_108 : decode m_S_prepareRests.2.1 108 = .ok (.aload_n 0, 1) := by decide +kernel
theorem q_S_prepareRests_109 : decode m_S_prepareRests.2.1 109 = .ok (.getfield 17, 3) := by decide +kernel
theorem q_S_prepareRests_112 : decode m_S_prepareRests.2.1 112 = .ok (.iload_n 2, 1) := by decide +kernel
theorem q_S_prepareRests_113 : decode m_S_prepareRests.2.1 113 = .ok (.aaload, 1) := by decide +kernel
theorem q_S_prepareRests_114 : decode m_S_prepareRests.2.1 114 = .ok (.aload_n 0, 1) := by decide +kernel
theorem q_S_prepareRests_115 : decode m_S_prepareRests.2.1 115 = .ok (.getfield 29, 3) := by decide +kernel
theorem q_S_prepareRests_118 : decode m_S_prepareRests.2.1 118 = .ok (.getfield 100, 3) := by decide +kernel
theorem q_S_prepareRests_121 : decode m_S_prepareRests.2.1 121 = .ok (.iload_n 2, 1) := by decide +kernel
theorem q_S_prepareRests_122 : decode m_S_prepareRests.2.1 122 = .ok (.iaload, 1) := by decide +kernel
theorem q_S_prepareRests_123 : decode m_S_prepareRests.2.1 123 = .ok (.dup2, 1) := by decide +kernel
theorem q_S_prepareRests_124 : decode m_S_prepareRests.2.1 124 = .ok (.laload, 1) := by decide +kernel
theorem q_S_prepareRests_125 : decode m_S_prepareRests.2.1 125 = .ok (.aload_n 0, 1) := by decide +kernel
theorem q_S_prepareRests_126 : decode m_S_prepareRests.2.1 126 = .ok (.getfield 29, 3) := by decide +kernel
theorem q_S_prepareRests_129 : decode m_S_prepareRests.2.1 129 = .ok (.iload_n 2, 1) := by decide +kernel
theorem q_S_prepareRests_130 : decode m_S_prepareRests.2.1 130 = .ok (.iload_n 3, 1) := by decide +kernel
theorem q_S_prepareRests_131 : decode m_S_prepareRests.2.1 131 = .ok (.invokevirtual 104, 3) := by decide +kernel
theorem q_S_prepareRests_134 : decode m_S_prepareRests.2.1 134 = .ok (.ladd, 1) := by decide +kernel
theorem q_S_prepareRests_135 : decode m_S_prepareRests.2.1 135 = .ok (.lastore, 1) := by decide +kernel
theorem q_S_prepareRests_136 : decode m_S_prepareRests.2.1 136 = .ok (.iinc 2 (-1), 3) := by decide +kernel
theorem q_S_prepareRests_139 : decode m_S_prepareRests.2.1 139 = .ok (.goto (-97), 3) := by decide +kernel
theorem q_S_prepareRests_142 : decode m_S_prepareRests.2.1 142 = .ok (.return_, 1) := by decide +kernel
theorem q_S_lookFrom_0 : decode m_S_lookFrom.2.1 0 = .ok (.lload_n 2, 1) := by decide +kernel
theorem q_S_lookFrom_1 : decode m_S_lookFrom.2.1 1 = .ok (.aload_n 0, 1) := by decide +kernel
theorem q_S_lookFrom_2 : decode m_S_lookFrom.2.1 2 = .ok (.getfield 66, 3) := by decide +kernel
theorem q_S_lookFrom_5 : decode m_S_lookFrom.2.1 5 = .ok (.lcmp, 1) := by decide +kernel
theorem q_S_lookFrom_6 : decode m_S_lookFrom.2.1 6 = .ok (.ifCond .ge 11, 3) := by decide +kernel
theorem q_S_lookFrom_9 : decode m_S_lookFrom.2.1 9 = .ok (.aload_n 0, 1) := by decide +kernel
theorem q_S_lookFrom_10 : decode m_S_lookFrom.2.1 10 = .ok (.iload_n 1, 1) := by decide +kernel
theorem q_S_lookFrom_11 : decode m_S_lookFrom.2.1 11 = .ok (.invokevirtual 108, 3) := by decide +kernel
theorem q_S_lookFrom_14 : decode m_S_lookFrom.2.1 14 = .ok (.ifCond .eq 4, 3) := by decide +kernel
theorem q_S_lookFrom_17 : decode m_S_lookFrom.2.1 17 = .ok (.return_, 1) := by decide +kernel
theorem q_S_lookFrom_18 : decode m_S_lookFrom.2.1 18 = .ok (.iload_n 1, 1) := by decide +kernel
theorem q_S_lookFrom_19 : decode m_S_lookFrom.2.1 19 = .ok (.aload_n 0, 1) := by decide +kernel
theorem q_S_lookFrom_20 : decode m_S_lookFrom.2.1 20 = .ok (.getfield 29, 3) := by decide +kernel
theorem q_S_lookFrom_23 : decode m_S_lookFrom.2.1 23 = .ok (.getfield 94, 3) := by decide +kernel
theorem q_S_lookFrom_26 : decode m_S_lookFrom.2.1 26 = .ok (.if_icmp .lt 8, 3) := by decide +kernel
theorem q_S_lookFrom_29 : decode m_S_lookFrom.2.1 29 = .ok (.aload_n 0, 1) := by decide +kernel
theorem q_S_lookFrom_30 : decode m_S_lookFrom.2.1 30 = .ok (.invokevirtual 112, 3) := by decide +kernel
theorem q_S_lookFrom_33 : decode m_S_lookFrom.2.1 33 = .ok (.return_, 1) := by decide +kernel
theorem q_S_lookFrom_34 : decode m_S_lookFrom.2.1 34 = .ok (.aload_n 0, 1) := by decide +kernel
theorem q_S_lookFrom_35 : decode m_S_lookFrom.2.1 35 = .ok (.iload_n 1, 1) := by decide +kernel
theorem q_S_lookFrom_36 : decode m_S_lookFrom.2.1 36 = .ok (.lload_n 2, 1) := by decide +kernel
theorem q_S_lookFrom_37 : decode m_S_lookFrom.2.1 37 = .ok (.invokevirtual 115, 3) := by decide +kernel
theorem q_S_lookFrom_40 : decode m_S_lookFrom.2.1 40 = .ok (.aload_n 0, 1) := by decide +kernel
theorem q_S_lookFrom_41 : decode m_S_lookFrom.2.1 41 = .ok (.iload_n 1, 1) := by decide +kernel
theorem q_S_lookFrom_42 : decode m_S_lookFrom.2.1 42 = .ok (.lload_n 2, 1) := by decide +kernel
theorem q_S_lookFrom_43 : decode m_S_lookFrom.2.1 43 = .ok (.lconst 1, 1) := by decide +kernel
theorem q_S_lookFrom_44 : decode m_S_lookFrom.2.1 44 = .ok (.aload_n 0, 1) := by decide +kernel
theorem q_S_lookFrom_45 : decode m_S_lookFrom.2.1 45 = .ok (.getfield 29, 3) := by decide +kernel
theorem q_S_lookFrom_48 : decode m_S_lookFrom.2.1 48 = .ok (.getfield 94, 3) := by decide +kernel
theorem q_S_lookFrom_51 : decode m_S_lookFrom.2.1 51 = .ok (.iconst 1, 1) := by decide +kernel
theorem q_S_lookFrom_52 : decode m_S_lookFrom.2.1 52 = .ok (.isub, 1) := by decide +kernel
theorem q_S_lookFrom_53 : decode m_S_lookFrom.2.1 53 = .ok (.iload_n 1, 1) := by decide +kernel
theorem q_S_lookFrom_54 : decode m_S_lookFrom.2.1 54 = .ok (.isub, 1) := by decide +kernel
theorem q_S_lookFrom_55 : decode m_S_lookFrom.2.1 55 = .ok (.lshl, 1) := by decide +kernel
theorem q_S_lookFrom_56 : decode m_S_lookFrom.2.1 56 = .ok (.ladd, 1) := by decide +kernel
theorem q_S_lookFrom_57 : decode m_S_lookFrom.2.1 57 = .ok (.invokevirtual 118, 3) := by decide +kernel
theorem q_S_lookFrom_60 : decode m_S_lookFrom.2.1 60 = .ok (.return_, 1) := by decide +kernel
theorem q_S_lookWith_0 : decode m_S_lookWith.2.1 0 = .ok (.aload_n 0, 1) := by decide +kernel
theorem q_S_lookWith_1 : decode m_S_lookWith.2.1 1 = .ok (.getfield 79, 3) := by decide +kernel
theorem q_S_lookWith_4 : decode m_S_lookWith.2.1 4 = .ok (.aload_n 0, 1) := by decide +kernel
theorem q_S_lookWith_5 : decode m_S_lookWith.2.1 5 = .ok (.getfield 29, 3) := by decide +kernel
theorem q_S_lookWith_8 : decode m_S_lookWith.2.1 8 = .ok (.getfield 121, 3) := by decide +kernel
theorem q_S_lookWith_11 : decode m_S_lookWith.2.1 11 = .ok (.iload_n 1, 1) := by decide +kernel
theorem q_S_lookWith_12 : decode m_S_lookWith.2.1 12 = .ok (.iaload, 1) := by decide +kernel
theorem q_S_lookWith_13 : decode m_S_lookWith.2.1 13 = .ok (.invokestatic 124, 3) := by decide +kernel
theorem q_S_lookWith_16 : decode m_S_lookWith.2.1 16 = .ok (.ifCond .eq 4, 3) := by decide +kernel
theorem q_S_lookWith_19 : decode m_S_lookWith.2.1 19 = .ok (.return_, 1) := by decide +kernel
theorem q_S_lookWith_20 : decode m_S_lookWith.2.1 20 = .ok (.aload_n 0, 1) := by decide +kernel
theorem q_S_lookWith_21 : decode m_S_lookWith.2.1 21 = .ok (.iload_n 1, 1) := by decide +kernel
theorem q_S_lookWith_22 : decode m_S_lookWith.2.1 22 = .ok (.iconst 1, 1) := by decide +kernel
theorem q_S_lookWith_23 : decode m_S_lookWith.2.1 23 = .ok (.invokevirtual 128, 3) := by decide +kernel
theorem q_S_lookWith_26 : decode m_S_lookWith.2.1 26 = .ok (.aload_n 0, 1) := by decide +kernel
theorem q_S_lookWith_27 : decode m_S_lookWith.2.1 27 = .ok (.iload_n 1, 1) := by decide +kernel
theorem q_S_lookWith_28 : decode m_S_lookWith.2.1 28 = .ok (.invokevirtual 132, 3) := by decide +kernel
theorem q_S_lookWith_31 : decode m_S_lookWith.2.1 31 = .ok (.ifCond .ne 11, 3) := by decide +kernel
theorem q_S_lookWith_34 : decode m_S_lookWith.2.1 34 = .ok (.aload_n 0, 1) := by decide +kernel
theorem q_S_lookWith_35 : decode m_S_lookWith.2.1 35 = .ok (.iload_n 1, 1) := by decide +kernel
theorem q_S_lookWith_36 : decode m_S_lookWith.2.1 36 = .ok (.iconst 1, 1) := by decide +kernel
theorem q_S_lookWith_37 : decode m_S_lookWith.2.1 37 = .ok (.iadd, 1) := by decide +kernel
theorem q_S_lookWith_38 : decode m_S_lookWith.2.1 38 = .ok (.lload_n 2, 1) := by decide +kernel
theorem q_S_lookWith_39 : decode m_S_lookWith.2.1 39 = .ok (.invokevirtual 43, 3) := by decide +kernel
theorem q_S_lookWith_42 : decode m_S_lookWith.2.1 42 = .ok (.aload_n 0, 1) := by decide +kernel
theorem q_S_lookWith_43 : decode m_S_lookWith.2.1 43 = .ok (.iload_n 1, 1) := by decide +kernel
theorem q_S_lookWith_44 : decode m_S_lookWith.2.1 44 = .ok (.iconst (-1), 1) := by decide +kernel
theorem q_S_lookWith_45 : decode m_S_lookWith.2.1 45 = .ok (.invokevirtual 128, 3) := by decide +kernel
theorem q_S_lookWith_48 : decode m_S_lookWith.2.1 48 = .ok (.return_, 1) := by decide +kernel
theorem q_S_lookWithout_0 : decode m_S_lookWithout.2.1 0 = .ok (.aload_n 0, 1) := by decide +kernel
theorem q_S_lookWithout_1 : decode m_S_lookWithout.2.1 1 = .ok (.getfield 70, 3) := by decide +kernel
theorem q_S_lookWithout_4 : decode m_S_lookWithout.2.1 4 = .ok (.iload_n 1, 1) := by decide +kernel
theorem q_S_lookWithout_5 : decode m_S_lookWithout.2.1 5 = .ok (.invokestatic 124, 3) := by decide +kernel
theorem q_S_lookWithout_8 : decode m_S_lookWithout.2.1 8 = .ok (.ifCond .ne 19, 3) := by decide +kernel
theorem q_S_lookWithout_11 : decode m_S_lookWithout.2.1 11 = .ok (.aload_n 0, 1) := by decide +kernel
theorem q_S_lookWithout_12 : decode m_S_lookWithout.2.1 12 = .ok (.iload_n 1, 1) := by decide +kernel
theorem q_S_lookWithout_13 : decode m_S_lookWithout.2.1 13 = .ok (.invokevirtual 132, 3) := by decide +kernel
theorem q_S_lookWithout_16 : decode m_S_lookWithout.2.1 16 = .ok (.ifCond .ne 11, 3) := by decide +kernel
theorem q_S_lookWithout_19 : decode m_S_lookWithout.2.1 19 = .ok (.aload_n 0, 1) := by decide +kernel
theorem q_S_lookWithout_20 : decode m_S_lookWithout.2.1 20 = .ok (.iload_n 1, 1) := by decide +kernel
theorem q_S_lookWithout_21 : decode m_S_lookWithout.2.1 21 = .ok (.iconst 1, 1) := by decide +kernel
theorem q_S_lookWithout_22 : decode m_S_lookWithout.2.1 22 = .ok (.iadd, 1) := by decide +kernel
theorem q_S_lookWithout_23 : decode m_S_lookWithout.2.1 23 = .ok (.lload_n 2, 1) := by decide +kernel
theorem q_S_lookWithout_24 : decode m_S_lookWithout.2.1 24 = .ok (.invokevirtual 43, 3) := by decide +kernel
theorem q_S_lookWithout_27 : decode m_S_lookWithout.2.1 27 = .ok (.return_, 1) := by decide +kernel
theorem q_S_pick_0 : decode m_S_pick.2.1 0 = .ok (.aload_n 0, 1) := by decide +kernel
theorem q_S_pick_1 : decode m_S_pick.2.1 1 = .ok (.getfield 29, 3) := by decide +kernel
theorem q_S_pick_4 : decode m_S_pick.2.1 4 = .ok (.getfield 100, 3) := by decide +kernel
theorem q_S_pick_7 : decode m_S_pick.2.1 7 = .ok (.iload_n 1, 1) := by decide +kernel
theorem q_S_pick_8 : decode m_S_pick.2.1 8 = .ok (.iaload, 1) := by decide +kernel
theorem q_S_pick_9 : decode m_S_pick.2.1 9 = .ok (.istore_n 3, 1) := by decide +kernel
theorem q_S_pick_10 : decode m_S_pick.2.1 10 = .ok (.aload_n 0, 1) := by decide +kernel
theorem q_S_pick_11 : decode m_S_pick.2.1 11 = .ok (.getfield 29, 3) := by decide +kernel
theorem q_S_pick_14 : decode m_S_pick.2.1 14 = .ok (.getfield 97, 3) := by decide +kernel
theorem q_S_pick_17 : decode m_S_pick.2.1 17 = .ok (.iload_n 1, 1) := by decide +kernel
theorem q_S_pick_18 : decode m_S_pick.2.1 18 = .ok (.laload, 1) := by decide +kernel
theorem q_S_pick_19 : decode m_S_pick.2.1 19 = .ok (.lstore 4, 2) := by decide +kernel
theorem q_S_pick_21 : decode m_S_pick.2.1 21 = .ok (.aload_n 0, 1) := by decide +kernel
theorem q_S_pick_22 : decode m_S_pick.2.1 22 = .ok (.getfield 23, 3) := by decide +kernel
theorem q_S_pick_25 : decode m_S_pick.2.1 25 = .ok (.iload_n 3, 1) := by decide +kernel
theorem q_S_pick_26 : decode m_S_pick.2.1 26 = .ok (.dup2, 1) := by decide +kernel
theorem q_S_pick_27 : decode m_S_pick.2.1 27 = .ok (.laload, 1) := by decide +kernel
theorem q_S_pick_28 : decode m_S_pick.2.1 28 = .ok (.iload_n 2, 1) := by decide +kernel
theorem q_S_pick_29 : decode m_S_pick.2.1 29 = .ok (.i2l, 1) := by decide +kernel
theorem q_S_pick_30 : decode m_S_pick.2.1 30 = .ok (.aload_n 0, 1) := by decide +kernel
theorem q_S_pick_31 : decode m_S_pick.2.1 31 = .ok (.getfield 29, 3) := by decide +kernel
theorem q_S_pick_34 : decode m_S_pick.2.1 34 = .ok (.getfield 135, 3) := by decide +kernel
theorem q_S_pick_37 : decode m_S_pick.2.1 37 = .ok (.iload_n 1, 1) := by decide +kernel
theorem q_S_pick_38 : decode m_S_pick.2.1 38 = .ok (.laload, 1) := by decide +kernel
theorem q_S_pick_39 : decode m_S_pick.2.1 39 = .ok (.aload_n 0, 1) := by decide +kernel
theorem q_S_pick_40 : decode m_S_pick.2.1 40 = .ok (.getfield 29, 3) := by decide +kernel
theorem q_S_pick_43 : decode m_S_pick.2.1 43 = .ok (.iload_n 1, 1) := by decide +kernel
theorem q_S_pick_44 : decode m_S_pick.2.1 44 = .ok (.aload_n 0, 1) := by decide +kernel
theorem q_S_pick_45 : decode m_S_pick.2.1 45 = .ok (.getfield 76, 3) := by decide +kernel
theorem q_S_pick_48 : decode m_S_pick.2.1 48 = .ok (.invokevirtual 104, 3) := by decide +kernel
theorem q_S_pick_51 : decode m_S_pick.2.1 51 = .ok (.lsub, 1) := by decide +kernel
theorem q_S_pick_52 : decode m_S_pick.2.1 52 = .ok (.lmul, 1) := by decide +kernel
theorem q_S_pick_53 : decode m_S_pick.2.1 53 = .ok (.ladd, 1) := by decide +kernel
theorem q_S_pick_54 : decode m_S_pick.2.1 54 = .ok (.lastore, 1) := by decide +kernel
theorem q_S_pick_55 : decode m_S_pick.2.1 55 = .ok (.aload_n 0, 1) := by decide +kernel
theorem q_S_pick_56 : decode m_S_pick.2.1 56 = .ok (.getfield 26, 3) := by decide +kernel
theorem q_S_pick_59 : decode m_S_pick.2.1 59 = .ok (.aload_n 0, 1) := by decide +kernel
theorem q_S_pick_60 : decode m_S_pick.2.1 60 = .ok (.getfield 29, 3) := by decide +kernel
theorem q_S_pick_63 : decode m_S_pick.2.1 63 = .ok (.iload_n 1, 1) := by decide +kernel
theorem q_S_pick_64 : decode m_S_pick.2.1 64 = .ok (.invokevirtual 138, 3) := by decide +kernel
theorem q_S_pick_67 : decode m_S_pick.2.1 67 = .ok (.dup2, 1) := by decide +kernel
theorem q_S_pick_68 : decode m_S_pick.2.1 68 = .ok (.laload, 1) := by decide +kernel
theorem q_S_pick_69 : decode m_S_pick.2.1 69 = .ok (.iload_n 2, 1) := by decide +kernel
theorem q_S_pick_70 : decode m_S_pick.2.1 70 = .ok (.i2l, 1) := by decide +kernel
theorem q_S_pick_71 : decode m_S_pick.2.1 71 = .ok (.lload 4, 2) := by decide +kernel
theorem q_S_pick_73 : decode m_S_pick.2.1 73 = .ok (.lmul, 1) := by decide +kernel
theorem q_S_pick_74 : decode m_S_pick.2.1 74 = .ok (.ladd, 1) := by decide +kernel
theorem q_S_pick_75 : decode m_S_pick.2.1 75 = .ok (.lastore, 1) := by decide +kernel
theorem q_S_pick_76 : decode m_S_pick.2.1 76 = .ok (.aload_n 0, 1) := by decide +kernel
theorem q_S_pick_77 : decode m_S_pick.2.1 77 = .ok (.dup, 1) := by decide +kernel
theorem q_S_pick_78 : decode m_S_pick.2.1 78 = .ok (.getfield 85, 3) := by decide +kernel
theorem q_S_pick_81 : decode m_S_pick.2.1 81 = .ok (.iload_n 2, 1) := by decide +kernel
theorem q_S_pick_82 : decode m_S_pick.2.1 82 = .ok (.i2l, 1) := by decide +kernel
theorem q_S_pick_83 : decode m_S_pick.2.1 83 = .ok (.lload 4, 2) := by decide +kernel
theorem q_S_pick_85 : decode m_S_pick.2.1 85 = .ok (.lmul, 1) := by decide +kernel
theorem q_S_pick_86 : decode m_S_pick.2.1 86 = .ok (.ladd, 1) := by decide +kernel
theorem q_S_pick_87 : decode m_S_pick.2.1 87 = .ok (.putfield 85, 3) := by decide +kernel
theorem q_S_pick_90 : decode m_S_pick.2.1 90 = .ok (.aload_n 0, 1) := by decide +kernel
theorem q_S_pick_91 : decode m_S_pick.2.1 91 = .ok (.dup, 1) := by decide +kernel
theorem q_S_pick_92 : decode m_S_pick.2.1 92 = .ok (.getfield 82, 3) := by decide +kernel
theorem q_S_pick_95 : decode m_S_pick.2.1 95 = .ok (.iload_n 2, 1) := by decide +kernel
theorem q_S_pick_96 : decode m_S_pick.2.1 96 = .ok (.iload_n 3, 1) := by decide +kernel
theorem q_S_pick_97 : decode m_S_pick.2.1 97 = .ok (.imul, 1) := by decide +kernel
theorem q_S_pick_98 : decode m_S_pick.2.1 98 = .ok (.iadd, 1) := by decide +kernel
theorem q_S_pick_99 : decode m_S_pick.2.1 99 = .ok (.putfield 82, 3) := by decide +kernel
theorem q_S_pick_102 : decode m_S_pick.2.1 102 = .ok (.aload_n 0, 1) := by decide +kernel
theorem q_S_pick_103 : decode m_S_pick.2.1 103 = .ok (.dup, 1) := by decide +kernel
theorem q_S_pick_104 : decode m_S_pick.2.1 104 = .ok (.getfield 76, 3) := by decide +kernel
theorem q_S_pick_107 : decode m_S_pick.2.1 107 = .ok (.iconst 1, 1) := by decide +kernel
theorem q_S_pick_108 : decode m_S_pick.2.1 108 = .ok (.iload_n 1, 1) := by decide +kernel
theorem q_S_pick_109 : decode m_S_pick.2.1 109 = .ok (.ishl, 1) := by decide +kernel
theorem q_S_pick_110 : decode m_S_pick.2.1 110 = .ok (.ixor, 1) := by decide +kernel
theorem q_S_pick_111 : decode m_S_pick.2.1 111 = .ok (.putfield 76, 3) := by decide +kernel
theorem q_S_pick_114 : decode m_S_pick.2.1 114 = .ok (.aload_n 0, 1) := by decide +kernel
theorem q_S_pick_115 : decode m_S_pick.2.1 115 = .ok (.dup, 1) := by decide +kernel
theorem q_S_pick_116 : decode m_S_pick.2.1 116 = .ok (.getfield 79, 3) := by decide +kernel
theorem q_S_pick_119 : decode m_S_pick.2.1 119 = .ok (.iconst 1, 1) := by decide +kernel
theorem q_S_pick_120 : decode m_S_pick.2.1 120 = .ok (.aload_n 0, 1) := by decide +kernel
theorem q_S_pick_121 : decode m_S_pick.2.1 121 = .ok (.getfield 29, 3) := by decide +kernel
theorem q_S_pick_124 : decode m_S_pick.2.1 124 = .ok (.getfield 121, 3) := by decide +kernel
theorem q_S_pick_127 : decode m_S_pick.2.1 127 = .ok (.iload_n 1, 1) := by decide +kernel
theorem q_S_pick_128 : decode m_S_pick.2.1 128 = .ok (.iaload, 1) := by decide +kernel
theorem q_S_pick_129 : decode m_S_pick.2.1 129 = .ok (.ishl, 1) := by decide +kernel
theorem q_S_pick_130 : decode m_S_pick.2.1 130 = .ok (.ixor, 1) := by decide +kernel
theorem q_S_pick_131 : decode m_S_pick.2.1 131 = .ok (.putfield 79, 3) := by decide +kernel
theorem q_S_pick_134 : decode m_S_pick.2.1 134 = .ok (.return_, 1) := by decide +kernel
theorem q_S_isOverspent_0 : decode m_S_isOverspent.2.1 0 = .ok (.aload_n 0, 1) := by decide +kernel
theorem q_S_isOverspent_1 : decode m_S_isOverspent.2.1 1 = .ok (.getfield 29, 3) := by decide +kernel
theorem q_S_isOverspent_4 : decode m_S_isOverspent.2.1 4 = .ok (.getfield 100, 3) := by decide +kernel
theorem q_S_isOverspent_7 : decode m_S_isOverspent.2.1 7 = .ok (.iload_n 1, 1) := by decide +kernel
theorem q_S_isOverspent_8 : decode m_S_isOverspent.2.1 8 = .ok (.iaload, 1) := by decide +kernel
theorem q_S_isOverspent_9 : decode m_S_isOverspent.2.1 9 = .ok (.istore_n 2, 1) := by decide +kernel
theorem q_S_isOverspent_10 : decode m_S_isOverspent.2.1 10 = .ok (.aload_n 0, 1) := by decide +kernel
theorem q_S_isOverspent_11 : decode m_S_isOverspent.2.1 11 = .ok (.getfield 23, 3) := by decide +kernel
theorem q_S_isOverspent_14 : decode m_S_isOverspent.2.1 14 = .ok (.iload_n 2, 1) := by decide +kernel
theorem q_S_isOverspent_15 : decode m_S_isOverspent.2.1 15 = .ok (.laload, 1) := by decide +kernel
theorem q_S_isOverspent_16 : decode m_S_isOverspent.2.1 16 = .ok (.aload_n 0, 1) := by decide +kernel
theorem q_S_isOverspent_17 : decode m_S_isOverspent.2.1 17 = .ok (.getfield 17, 3) := by decide +kernel
theorem q_S_isOverspent_20 : decode m_S_isOverspent.2.1 20 = .ok (.iload_n 1, 1) := by decide +kernel
theorem q_S_isOverspent_21 : decode m_S_isOverspent.2.1 21 = .ok (.iconst 1, 1) := by decide +kernel
theorem q_S_isOverspent_22 : decode m_S_isOverspent.2.1 22 = .ok (.iadd, 1) := by decide +kernel
theorem q_S_isOverspent_23 : decode m_S_isOverspent.2.1 23 = .ok (.aaload, 1) := by decide +kernel
theorem q_S_isOverspent_24 : decode m_S_isOverspent.2.1 24 = .ok (.iload_n 2, 1) := by decide +kernel
theorem q_S_isOverspent_25 : decode m_S_isOverspent.2.1 25 = .ok (.laload, 1) := by decide +kernel
theorem q_S_isOverspent_26 : decode m_S_isOverspent.2.1 26 = .ok (.lsub, 1) := by decide +kernel
theorem q_S_isOverspent_27 : decode m_S_isOverspent.2.1 27 = .ok (.aload_n 0, 1) := by decide +kernel
theorem q_S_isOverspent_28 : decode m_S_isOverspent.2.1 28 = .ok (.getfield 9, 3) := by decide +kernel
theorem q_S_isOverspent_31 : decode m_S_isOverspent.2.1 31 = .ok (.iload_n 2, 1) := by decide +kernel
theorem q_S_isOverspent_32 : decode m_S_isOverspent.2.1 32 = .ok (.laload, 1) := by decide +kernel
theorem q_S_isOverspent_33 : decode m_S_isOverspent.2.1 33 = .ok (.lcmp, 1) := by decide +kernel
theorem q_S_isOverspent_34 : decode m_S_isOverspent.2.1 34 = .ok (.ifCond .le 7, 3) := by decide +kernel
theorem q_S_isOverspent_37 : decode m_S_isOverspent.2.1 37 = .ok (.iconst 1, 1) := by decide +kernel
theorem q_S_isOverspent_38 : decode m_S_isOverspent.2.1 38 = .ok (.goto 4, 3) := by decide +kernel
theorem q_S_isOverspent_41 : decode m_S_isOverspent.2.1 41 = .ok (.iconst 0, 1) := by decide +kernel
theorem q_S_isOverspent_42 : decode m_S_isOverspent.2.1 42 = .ok (.ireturn, 1) := by decide +kernel
theorem q_S_isHopeless_0 : decode m_S_isHopeless.2.1 0 = .ok (.aload_n 0, 1) := by decide +kernel
theorem q_S_isHopeless_1 : decode m_S_isHopeless.2.1 1 = .ok (.getfield 47, 3) := by decide +kernel
theorem q_S_isHopeless_4 : decode m_S_isHopeless.2.1 4 = .ok (.iconst (-1), 1) := by decide +kernel
theorem q_S_isHopeless_5 : decode m_S_isHopeless.2.1 5 = .ok (.if_icmp .ne 5, 3) := by decide +kernel
theorem q_S_isHopeless_8 : decode m_S_isHopeless.2.1 8 = .ok (.iconst 0, 1) := by decide +kernel
theorem q_S_isHopeless_9 : decode m_S_isHopeless.2.1 9 = .ok (.ireturn, 1) := by decide +kernel
theorem q_S_isHopeless_10 : decode m_S_isHopeless.2.1 10 = .ok (.iconst 1, 1) := by decide +kernel
theorem q_S_isHopeless_11 : decode m_S_isHopeless.2.1 11 = .ok (.iload_n 1, 1) := by decide +kernel
theorem q_S_isHopeless_12 : decode m_S_isHopeless.2.1 12 = .ok (.ishl, 1) := by decide +kernel
theorem q_S_isHopeless_13 : decode m_S_isHopeless.2.1 13 = .ok (.iconst 1, 1) := by decide +kernel
theorem q_S_isHopeless_14 : decode m_S_isHopeless.2.1 14 = .ok (.isub, 1) := by decide +kernel
theorem q_S_isHopeless_15 : decode m_S_isHopeless.2.1 15 = .ok (.istore_n 2, 1) := by decide +kernel
theorem q_S_isHopeless_16 : decode m_S_isHopeless.2.1 16 = .ok (.aload_n 0, 1) := by decide +kernel
theorem q_S_isHopeless_17 : decode m_S_isHopeless.2.1 17 = .ok (.iload_n 2, 1) := by decide +kernel
theorem q_S_isHopeless_18 : decode m_S_isHopeless.2.1 18 = .ok (.invokevirtual 142, 3) := by decide +kernel
theorem q_S_isHopeless_21 : decode m_S_isHopeless.2.1 21 = .ok (.istore_n 3, 1) := by decide +kernel
theorem q_S_isHopeless_22 : decode m_S_isHopeless.2.1 22 = .ok (.aload_n 0, 1) := by decide +kernel
theorem q_S_isHopeless_23 : decode m_S_isHopeless.2.1 23 = .ok (.getfield 62, 3) := by decide +kernel
theorem q_S_isHopeless_26 : decode m_S_isHopeless.2.1 26 = .ok (.ifCond .ne 38, 3) := by decide +kernel
theorem q_S_isHopeless_29 : decode m_S_isHopeless.2.1 29 = .ok (.iload_n 3, 1) := by decide +kernel
theorem q_S_isHopeless_30 : decode m_S_isHopeless.2.1 30 = .ok (.aload_n 0, 1) := by decide +kernel
theorem q_S_isHopeless_31 : decode m_S_isHopeless.2.1 31 = .ok (.getfield 145, 3) := by decide +kernel
theorem q_S_isHopeless_34 : decode m_S_isHopeless.2.1 34 = .ok (.if_icmp .gt 30, 3) := by decide +kernel
theorem q_S_isHopeless_37 : decode m_S_isHopeless.2.1 37 = .ok (.iload_n 3, 1) := by decide +kernel
theorem q_S_isHopeless_38 : decode m_S_isHopeless.2.1 38 = .ok (.aload_n 0, 1) := by decide +kernel
theorem q_S_isHopeless_39 : decode m_S_isHopeless.2.1 39 = .ok (.getfield 145, 3) := by decide +kernel
theorem q_S_isHopeless_42 : decode m_S_isHopeless.2.1 42 = .ok (.if_icmp .ne 26, 3) := by decide +kernel
theorem q_S_isHopeless_45 : decode m_S_isHopeless.2.1 45 = .ok (.aload_n 0, 1) := by decide +kernel
theorem q_S_isHopeless_46 : decode m_S_isHopeless.2.1 46 = .ok (.getfield 85, 3) := by decide +kernel
theorem q_S_isHopeless_49 : decode m_S_isHopeless.2.1 49 = .ok (.aload_n 0, 1) := by decide +kernel
theorem q_S_isHopeless_50 : decode m_S_isHopeless.2.1 50 = .ok (.getfield 20, 3) := by decide +kernel
theorem q_S_isHopeless_53 : decode m_S_isHopeless.2.1 53 = .ok (.iload_n 1, 1) := by decide +kernel
theorem q_S_isHopeless_54 : decode m_S_isHopeless.2.1 54 = .ok (.laload, 1) := by decide +kernel
theorem q_S_isHopeless_55 : decode m_S_isHopeless.2.1 55 = .ok (.ladd, 1) := by decide +kernel
theorem q_S_isHopeless_56 : decode m_S_isHopeless.2.1 56 = .ok (.aload_n 0, 1) := by decide +kernel
theorem q_S_isHopeless_57 : decode m_S_isHopeless.2.1 57 = .ok (.getfield 148, 3) := by decide +kernel
theorem q_S_isHopeless_60 : decode m_S_isHopeless.2.1 60 = .ok (.lcmp, 1) := by decide +kernel
theorem q_S_isHopeless_61 : decode m_S_isHopeless.2.1 61 = .ok (.ifCond .ge 7, 3) := by decide +kernel
theorem q_S_isHopeless_64 : decode m_S_isHopeless.2.1 64 = .ok (.iconst 1, 1) := by decide +kernel
theorem q_S_isHopeless_65 : decode m_S_isHopeless.2.1 65 = .ok (.goto 4, 3) := by decide +kernel
theorem q_S_isHopeless_68 : decode m_S_isHopeless.2.1 68 = .ok (.iconst 0, 1) := by decide +kernel
theorem q_S_isHopeless_69 : decode m_S_isHopeless.2.1 69 = .ok (.ireturn, 1) := by decide +kernel
theorem q_S_countOfChanges_0 : decode m_S_countOfChanges.2.1 0 = .ok (.aload_n 0, 1) := by decide +kernel
theorem q_S_countOfChanges_1 : decode m_S_countOfChanges.2.1 1 = .ok (.getfield 76, 3) := by decide +kernel
theorem q_S_countOfChanges_4 : decode m_S_countOfChanges.2.1 4 = .ok (.aload_n 0, 1) := by decide +kernel
theorem q_S_countOfChanges_5 : decode m_S_countOfChanges.2.1 5 = .ok (.getfield 52, 3) := by decide +kernel
theorem q_S_countOfChanges_8 : decode m_S_countOfChanges.2.1 8 = .ok (.ixor, 1) := by decide +kernel
theorem q_S_countOfChanges_9 : decode m_S_countOfChanges.2.1 9 = .ok (.aload_n 0, 1) := by decide +kernel
theorem q_S_countOfChanges_10 : decode m_S_countOfChanges.2.1 10 = .ok (.getfield 59, 3) := by decide +kernel
theorem q_S_countOfChanges_13 : decode m_S_countOfChanges.2.1 13 = .ok (.iand, 1) := by decide +kernel
theorem q_S_countOfChanges_14 : decode m_S_countOfChanges.2.1 14 = .ok (.iload_n 1, 1) := by decide +kernel
theorem q_S_countOfChanges_15 : decode m_S_countOfChanges.2.1 15 = .ok (.iand, 1) := by decide +kernel
theorem q_S_countOfChanges_16 : decode m_S_countOfChanges.2.1 16 = .ok (.invokestatic 151, 3) := by decide +kernel
theorem q_S_countOfChanges_19 : decode m_S_countOfChanges.2.1 19 = .ok (.ireturn, 1) := by decide +kernel
theorem q_S_weigh_0 : decode m_S_weigh.2.1 0 = .ok (.aload_n 0, 1) := by decide +kernel
theorem q_S_weigh_1 : decode m_S_weigh.2.1 1 = .ok (.aload_n 0, 1) := by decide +kernel
theorem q_S_weigh_2 : decode m_S_weigh.2.1 2 = .ok (.getfield 59, 3) := by decide +kernel
theorem q_S_weigh_5 : decode m_S_weigh.2.1 5 = .ok (.invokevirtual 142, 3) := by decide +kernel
theorem q_S_weigh_8 : decode m_S_weigh.2.1 8 = .ok (.istore_n 1, 1) := by decide +kernel
theorem q_S_weigh_9 : decode m_S_weigh.2.1 9 = .ok (.aload_n 0, 1) := by decide +kernel
theorem q_S_weigh_10 : decode m_S_weigh.2.1 10 = .ok (.invokevirtual 156, 3) := by decide +kernel
theorem q_S_weigh_13 : decode m_S_weigh.2.1 13 = .ok (.ifCond .eq 48, 3) := by decide +kernel
theorem q_S_weigh_16 : decode m_S_weigh.2.1 16 = .ok (.aload_n 0, 1) := by decide +kernel
theorem q_S_weigh_17 : decode m_S_weigh.2.1 17 = .ok (.getfield 47, 3) := by decide +kernel
theorem q_S_weigh_20 : decode m_S_weigh.2.1 20 = .ok (.iconst (-1), 1) := by decide +kernel
theorem q_S_weigh_21 : decode m_S_weigh.2.1 21 = .ok (.if_icmp .eq 11, 3) := by decide +kernel
theorem q_S_weigh_24 : decode m_S_weigh.2.1 24 = .ok (.aload_n 0, 1) := by decide +kernel
theorem q_S_weigh_25 : decode m_S_weigh.2.1 25 = .ok (.iload_n 1, 1) := by decide +kernel
theorem q_S_weigh_26 : decode m_S_weigh.2.1 26 = .ok (.invokevirtual 160, 3) := by decide +kernel
theorem q_S_weigh_29 : decode m_S_weigh.2.1 29 = .ok (.ifCond .eq 32, 3) := by decide +kernel
theorem q_S_weigh_32 : decode m_S_weigh.2.1 32 = .ok (.aload_n 0, 1) := by decide +kernel
theorem q_S_weigh_33 : decode m_S_weigh.2.1 33 = .ok (.aload_n 0, 1) := by decide +kernel
theorem q_S_weigh_34 : decode m_S_weigh.2.1 34 = .ok (.getfield 76, 3) := by decide +kernel
theorem q_S_weigh_37 : decode m_S_weigh.2.1 37 = .ok (.putfield 47, 3) := by decide +kernel
theorem q_S_weigh_40 : decode m_S_weigh.2.1 40 = .ok (.aload_n 0, 1) := by decide +kernel
theorem q_S_weigh_41 : decode m_S_weigh.2.1 41 = .ok (.iload_n 1, 1) := by decide +kernel
theorem q_S_weigh_42 : decode m_S_weigh.2.1 42 = .ok (.putfield 145, 3) := by decide +kernel
theorem q_S_weigh_45 : decode m_S_weigh.2.1 45 = .ok (.aload_n 0, 1) := by decide +kernel
theorem q_S_weigh_46 : decode m_S_weigh.2.1 46 = .ok (.aload_n 0, 1) := by decide +kernel
theorem q_S_weigh_47 : decode m_S_weigh.2.1 47 = .ok (.getfield 85, 3) := by decide +kernel
theorem q_S_weigh_50 : decode m_S_weigh.2.1 50 = .ok (.putfield 148, 3) := by decide +kernel
theorem q_S_weigh_53 : decode m_S_weigh.2.1 53 = .ok (.aload_n 0, 1) := by decide +kernel
theorem q_S_weigh_54 : decode m_S_weigh.2.1 54 = .ok (.aload_n 0, 1) := by decide +kernel
theorem q_S_weigh_55 : decode m_S_weigh.2.1 55 = .ok (.getfield 82, 3) := by decide +kernel
theorem q_S_weigh_58 : decode m_S_weigh.2.1 58 = .ok (.putfield 163, 3) := by decide +kernel
theorem q_S_weigh_61 : decode m_S_weigh.2.1 61 = .ok (.return_, 1) := by decide +kernel
theorem q_S_isBetter_0 : decode m_S_isBetter.2.1 0 = .ok (.iload_n 1, 1) := by decide +kernel
theorem q_S_isBetter_1 : decode m_S_isBetter.2.1 1 = .ok (.aload_n 0, 1) := by decide +kernel
theorem q_S_isBetter_2 : decode m_S_isBetter.2.1 2 = .ok (.getfield 145, 3) := by decide +kernel
theorem q_S_isBetter_5 : decode m_S_isBetter.2.1 5 = .ok (.if_icmp .eq 17, 3) := by decide +kernel
theorem q_S_isBetter_8 : decode m_S_isBetter.2.1 8 = .ok (.iload_n 1, 1) := by decide +kernel
theorem q_S_isBetter_9 : decode m_S_isBetter.2.1 9 = .ok (.aload_n 0, 1) := by decide +kernel
theorem q_S_isBetter_10 : decode m_S_isBetter.2.1 10 = .ok (.getfield 145, 3) := by decide +kernel
theorem q_S_isBetter_13 : decode m_S_isBetter.2.1 13 = .ok (.if_icmp .ge 7, 3) := by decide +kernel
theorem q_S_isBetter_16 : decode m_S_isBetter.2.1 16 = .ok (.iconst 1, 1) := by decide +kernel
theorem q_S_isBetter_17 : decode m_S_isBetter.2.1 17 = .ok (.goto 4, 3) := by decide +kernel
theorem q_S_isBetter_20 : decode m_S_isBetter.2.1 20 = .ok (.iconst 0, 1) := by decide +kernel
theorem q_S_isBetter_21 : decode m_S_isBetter.2.1 21 = .ok (.ireturn, 1) := by decide +kernel
theorem q_S_isBetter_22 : decode m_S_isBetter.2.1 22 = .ok (.aload_n 0, 1) := by decide +kernel
theorem q_S_isBetter_23 : decode m_S_isBetter.2.1 23 = .ok (.getfield 85, 3) := by decide +kernel
theorem q_S_isBetter_26 : decode m_S_isBetter.2.1 26 = .ok (.aload_n 0, 1) := by decide +kernel
theorem q_S_isBetter_27 : decode m_S_isBetter.2.1 27 = .ok (.getfield 148, 3) := by decide +kernel
theorem q_S_isBetter_30 : decode m_S_isBetter.2.1 30 = .ok (.lcmp, 1) := by decide +kernel
theorem q_S_isBetter_31 : decode m_S_isBetter.2.1 31 = .ok (.ifCond .eq 23, 3) := by decide +kernel
theorem q_S_isBetter_34 : decode m_S_isBetter.2.1 34 = .ok (.aload_n 0, 1) := by decide +kernel
theorem q_S_isBetter_35 : decode m_S_isBetter.2.1 35 = .ok (.getfield 85, 3) := by decide +kernel
theorem q_S_isBetter_38 : decode m_S_isBetter.2.1 38 = .ok (.aload_n 0, 1) := by decide +kernel
theorem q_S_isBetter_39 : decode m_S_isBetter.2.1 39 = .ok (.getfield 148, 3) := by decide +kernel
theorem q_S_isBetter_42 : decode m_S_isBetter.2.1 42 = .ok (.lcmp, 1) := by decide +kernel
theorem q_S_isBetter_43 : decode m_S_isBetter.2.1 43 = .ok (.ifCond .le 7, 3) := by decide +kernel
theorem q_S_isBetter_46 : decode m_S_isBetter.2.1 46 = .ok (.iconst 1, 1) := by decide +kernel
theorem q_S_isBetter_47 : decode m_S_isBetter.2.1 47 = .ok (.goto 23, 3) := by decide +kernel
theorem q_S_isBetter_50 : decode m_S_isBetter.2.1 50 = .ok (.iconst 0, 1) := by decide +kernel
theorem q_S_isBetter_51 : decode m_S_isBetter.2.1 51 = .ok (.goto 19, 3) := by decide +kernel
theorem q_S_isBetter_54 : decode m_S_isBetter.2.1 54 = .ok (.aload_n 0, 1) := by decide +kernel
theorem q_S_isBetter_55 : decode m_S_isBetter.2.1 55 = .ok (.getfield 82, 3) := by decide +kernel
theorem q_S_isBetter_58 : decode m_S_isBetter.2.1 58 = .ok (.aload_n 0, 1) := by decide +kernel
theorem q_S_isBetter_59 : decode m_S_isBetter.2.1 59 = .ok (.getfield 163, 3) := by decide +kernel
theorem q_S_isBetter_62 : decode m_S_isBetter.2.1 62 = .ok (.if_icmp .ge 7, 3) := by decide +kernel
theorem q_S_isBetter_65 : decode m_S_isBetter.2.1 65 = .ok (.iconst 1, 1) := by decide +kernel
theorem q_S_isBetter_66 : decode m_S_isBetter.2.1 66 = .ok (.goto 4, 3) := by decide +kernel
theorem q_S_isBetter_69 : decode m_S_isBetter.2.1 69 = .ok (.iconst 0, 1) := by decide +kernel
theorem q_S_isBetter_70 : decode m_S_isBetter.2.1 70 = .ok (.ireturn, 1) := by decide +kernel
theorem q_S_isFair_0 : decode m_S_isFair.2.1 0 = .ok (.aload_n 0, 1) := by decide +kernel
theorem q_S_isFair_1 : decode m_S_isFair.2.1 1 = .ok (.getfield 29, 3) := by decide +kernel
theorem q_S_isFair_4 : decode m_S_isFair.2.1 4 = .ok (.getfield 166, 3) := by decide +kernel
theorem q_S_isFair_7 : decode m_S_isFair.2.1 7 = .ok (.ldc2_w 169, 3) := by decide +kernel
theorem q_S_isFair_10 : decode m_S_isFair.2.1 10 = .ok (.lcmp, 1) := by decide +kernel
theorem q_S_isFair_11 : decode m_S_isFair.2.1 11 = .ok (.ifCond .ne 5, 3) := by decide +kernel
theorem q_S_isFair_14 : decode m_S_isFair.2.1 14 = .ok (.iconst 1, 1) := by decide +kernel
theorem q_S_isFair_15 : decode m_S_isFair.2.1 15 = .ok (.ireturn, 1) := by decide +kernel
theorem q_S_isFair_16 : decode m_S_isFair.2.1 16 = .ok (.iconst 0, 1) := by decide +kernel
theorem q_S_isFair_17 : decode m_S_isFair.2.1 17 = .ok (.istore_n 1, 1) := by decide +kernel
theorem q_S_isFair_18 : decode m_S_isFair.2.1 18 = .ok (.iload_n 1, 1) := by decide +kernel
theorem q_S_isFair_19 : decode m_S_isFair.2.1 19 = .ok (.iconst 4, 1) := by decide +kernel
theorem q_S_isFair_20 : decode m_S_isFair.2.1 20 = .ok (.if_icmp .ge 70, 3) := by decide +kernel
theorem q_S_isFair_23 : decode m_S_isFair.2.1 23 = .ok (.iconst 0, 1) := by decide +kernel
theorem q_S_isFair_24 : decode m_S_isFair.2.1 24 = .ok (.istore_n 2, 1) := by decide +kernel
theorem q_S_isFair_25 : decode m_S_isFair.2.1 25 = .ok (.iload_n 2, 1) := by decide +kernel
theorem q_S_isFair_26 : decode m_S_isFair.2.1 26 = .ok (.iconst 4, 1) := by decide +kernel
theorem q_S_isFair_27 : decode m_S_isFair.2.1 27 = .ok (.if_icmp .ge 57, 3) := by decide +kernel
theorem q_S_isFair_30 : decode m_S_isFair.2.1 30 = .ok (.aload_n 0, 1) := by decide +kernel
theorem q_S_isFair_31 : decode m_S_isFair.2.1 31 = .ok (.getfield 74, 3) := by decide +kernel
theorem q_S_isFair_34 : decode m_S_isFair.2.1 34 = .ok (.iload_n 1, 1) := by decide +kernel
theorem q_S_isFair_35 : decode m_S_isFair.2.1 35 = .ok (.invokestatic 124, 3) := by decide +kernel
theorem q_S_isFair_38 : decode m_S_isFair.2.1 38 = .ok (.ifCond .eq 40, 3) := by decide +kernel
theorem q_S_isFair_41 : decode m_S_isFair.2.1 41 = .ok (.aload_n 0, 1) := by decide +kernel
theorem q_S_isFair_42 : decode m_S_isFair.2.1 42 = .ok (.getfield 74, 3) := by decide +kernel
theorem q_S_isFair_45 : decode m_S_isFair.2.1 45 = .ok (.iload_n 2, 1) := by decide +kernel
theorem q_S_isFair_46 : decode m_S_isFair.2.1 46 = .ok (.invokestatic 124, 3) := by decide +kernel
theorem q_S_isFair_49 : decode m_S_isFair.2.1 49 = .ok (.ifCond .eq 29, 3) := by decide +kernel
theorem q_S_isFair_52 : decode m_S_isFair.2.1 52 = .ok (.aload_n 0, 1) := by decide +kernel
theorem q_S_isFair_53 : decode m_S_isFair.2.1 53 = .ok (.getfield 26, 3) := by decide +kernel
theorem q_S_isFair_56 : decode m_S_isFair.2.1 56 = .ok (.iload_n 1, 1) := by decide +kernel
theorem q_S_isFair_57 : decode m_S_isFair.2.1 57 = .ok (.laload, 1) := by decide +kernel
theorem q_S_isFair_58 : decode m_S_isFair.2.1 58 = .ok (.aload_n 0, 1) := by decide +kernel
theorem q_S_isFair_59 : decode m_S_isFair.2.1 59 = .ok (.getfield 26, 3) := by decide +kernel
theorem q_S_isFair_62 : decode m_S_isFair.2.1 62 = .ok (.iload_n 2, 1) := by decide +kernel
theorem q_S_isFair_63 : decode m_S_isFair.2.1 63 = .ok (.laload, 1) := by decide +kernel
theorem q_S_isFair_64 : decode m_S_isFair.2.1 64 = .ok (.lsub, 1) := by decide +kernel
theorem q_S_isFair_65 : decode m_S_isFair.2.1 65 = .ok (.aload_n 0, 1) := by decide +kernel
theorem q_S_isFair_66 : decode m_S_isFair.2.1 66 = .ok (.getfield 29, 3) := by decide +kernel
theorem q_S_isFair_69 : decode m_S_isFair.2.1 69 = .ok (.getfield 166, 3) := by decide +kernel
theorem q_S_isFair_72 : decode m_S_isFair.2.1 72 = .ok (.lcmp, 1) := by decide +kernel
theorem q_S_isFair_73 : decode m_S_isFair.2.1 73 = .ok (.ifCond .le 5, 3) := by decide +kernel
theorem q_S_isFair_76 : decode m_S_isFair.2.1 76 = .ok (.iconst 0, 1) := by decide +kernel
theorem q_S_isFair_77 : decode m_S_isFair.2.1 77 = .ok (.ireturn, 1) := by decide +kernel
theorem q_S_isFair_78 : decode m_S_isFair.2.1 78 = .ok (.iinc 2 1, 3) := by decide +kernel
theorem q_S_isFair_81 : decode m_S_isFair.2.1 81 = .ok (.goto (-56), 3) := by decide +kernel
theorem q_S_isFair_84 : decode m_S_isFair.2.1 84 = .ok (.iinc 1 1, 3) := by decide +kernel
theorem q_S_isFair_87 : decode m_S_isFair.2.1 87 = .ok (.goto (-69), 3) := by decide +kernel
theorem q_S_isFair_90 : decode m_S_isFair.2.1 90 = .ok (.iconst 1, 1) := by decide +kernel
theorem q_S_isFair_91 : decode m_S_isFair.2.1 91 = .ok (.ireturn, 1) := by decide +kernel
end
section
theorem q_B_init_0 : decode m_B_init.2.1 0 = .ok (.aload_n 0, 1) := by decide +kernel
theorem q_B_init_1 : decode m_B_init.2.1 1 = .ok (.invokespecial 3, 3) := by decide +kernel
theorem q_B_init_4 : decode m_B_init.2.1 4 = .ok (.aload_n 0, 1) := by decide +kernel
theorem q_B_init_5 : decode m_B_init.2.1 5 = .ok (.new 9, 3) := by decide +kernel
theorem q_B_init_8 : decode m_B_init.2.1 8 = .ok (.dup, 1) := by decide +kernel
theorem q_B_init_9 : decode m_B_init.2.1 9 = .ok (.iconst 1, 1) := by decide +kernel
theorem q_B_init_10 : decode m_B_init.2.1 10 = .ok (.bipush 6, 2) := by decide +kernel
theorem q_B_init_12 : decode m_B_init.2.1 12 = .ok (.iload_n 1, 1) := by decide +kernel
theorem q_B_init_13 : decode m_B_init.2.1 13 = .ok (.invokestatic 11, 3) := by decide +kernel
theorem q_B_init_16 : decode m_B_init.2.1 16 = .ok (.invokestatic 17, 3) := by decide +kernel
theorem q_B_init_19 : decode m_B_init.2.1 19 = .ok (.invokespecial 20, 3) := by decide +kernel
theorem q_B_init_22 : decode m_B_init.2.1 22 = .ok (.putfield 23, 3) := by decide +kernel
theorem q_B_init_25 : decode m_B_init.2.1 25 = .ok (.aload_n 0, 1) := by decide +kernel
theorem q_B_init_26 : decode m_B_init.2.1 26 = .ok (.new 27, 3) := by decide +kernel
theorem q_B_init_29 : decode m_B_init.2.1 29 = .ok (.dup, 1) := by decide +kernel
theorem q_B_init_30 : decode m_B_init.2.1 30 = .ok (.aload_n 0, 1) := by decide +kernel
theorem q_B_init_31 : decode m_B_init.2.1 31 = .ok (.getfield 23, 3) := by decide +kernel
theorem q_B_init_34 : decode m_B_init.2.1 34 = .ok (.invokespecial 29, 3) := by decide +kernel
theorem q_B_init_37 : decode m_B_init.2.1 37 = .ok (.putfield 32, 3) := by decide +kernel
theorem q_B_init_40 : decode m_B_init.2.1 40 = .ok (.aload_n 0, 1) := by decide +kernel
theorem q_B_init_41 : decode m_B_init.2.1 41 = .ok (.new 36, 3) := by decide +kernel
theorem q_B_init_44 : decode m_B_init.2.1 44 = .ok (.dup, 1) := by decide +kernel
theorem q_B_init_45 : decode m_B_init.2.1 45 = .ok (.aload_n 0, 1) := by decide +kernel
theorem q_B_init_46 : decode m_B_init.2.1 46 = .ok (.getfield 23, 3) := by decide +kernel
theorem q_B_init_49 : decode m_B_init.2.1 49 = .ok (.invokespecial 38, 3) := by decide +kernel
theorem q_B_init_52 : decode m_B_init.2.1 52 = .ok (.putfield 39, 3) := by decide +kernel
theorem q_B_init_55 : decode m_B_init.2.1 55 = .ok (.aload_n 0, 1) := by decide +kernel
theorem q_B_init_56 : decode m_B_init.2.1 56 = .ok (.new 43, 3) := by decide +kernel
theorem q_B_init_59 : decode m_B_init.2.1 59 = .ok (.dup, 1) := by decide +kernel
theorem q_B_init_60 : decode m_B_init.2.1 60 = .ok (.aload_n 0, 1) := by decide +kernel
theorem q_B_init_61 : decode m_B_init.2.1 61 = .ok (.getfield 23, 3) := by decide +kernel
theorem q_B_init_64 : decode m_B_init.2.1 64 = .ok (.invokespecial 45, 3) := by decide +kernel
theorem q_B_init_67 : decode m_B_init.2.1 67 = .ok (.putfield 46, 3) := by decide +kernel
theorem q_B_init_70 : decode m_B_init.2.1 70 = .ok (.aload_n 0, 1) := by decide +kernel
theorem q_B_init_71 : decode m_B_init.2.1 71 = .ok (.iconst (-1), 1) := by decide +kernel
theorem q_B_init_72 : decode m_B_init.2.1 72 = .ok (.putfield 50, 3) := by decide +kernel
theorem q_B_init_75 : decode m_B_init.2.1 75 = .ok (.return_, 1) := by decide +kernel
theorem q_B_thing_0 : decode m_B_thing.2.1 0 = .ok (.iload_n 1, 1) := by decide +kernel
theorem q_B_thing_1 : decode m_B_thing.2.1 1 = .ok (.ifCond .lt 22, 3) := by decide +kernel
theorem q_B_thing_4 : decode m_B_thing.2.1 4 = .ok (.iload_n 1, 1) := by decide +kernel
theorem q_B_thing_5 : decode m_B_thing.2.1 5 = .ok (.sipush 999, 3) := by decide +kernel
theorem q_B_thing_8 : decode m_B_thing.2.1 8 = .ok (.if_icmp .gt 15, 3) := by decide +kernel
theorem q_B_thing_11 : decode m_B_thing.2.1 11 = .ok (.aload_n 0, 1) := by decide +kernel
theorem q_B_thing_12 : decode m_B_thing.2.1 12 = .ok (.getfield 23, 3) := by decide +kernel
theorem q_B_thing_15 : decode m_B_thing.2.1 15 = .ok (.getfield 54, 3) := by decide +kernel
theorem q_B_thing_18 : decode m_B_thing.2.1 18 = .ok (.bipush 12, 2) := by decide +kernel
theorem q_B_thing_20 : decode m_B_thing.2.1 20 = .ok (.if_icmp .lt 5, 3) := by decide +kernel
theorem q_B_thing_23 : decode m_B_thing.2.1 23 = .ok (.iconst (-1), 1) := by decide +kernel
theorem q_B_thing_24 : decode m_B_thing.2.1 24 = .ok (.ireturn, 1) := by decide +kernel
theorem q_B_thing_25 : decode m_B_thing.2.1 25 = .ok (.aload_n 0, 1) := by decide +kernel
theorem q_B_thing_26 : decode m_B_thing.2.1 26 = .ok (.invokevirtual 57, 3) := by decide +kernel
theorem q_B_thing_29 : decode m_B_thing.2.1 29 = .ok (.aload_n 0, 1) := by decide +kernel
theorem q_B_thing_30 : decode m_B_thing.2.1 30 = .ok (.getfield 23, 3) := by decide +kernel
theorem q_B_thing_33 : decode m_B_thing.2.1 33 = .ok (.iload_n 1, 1) := by decide +kernel
theorem q_B_thing_34 : decode m_B_thing.2.1 34 = .ok (.invokevirtual 60, 3) := by decide +kernel
theorem q_B_thing_37 : decode m_B_thing.2.1 37 = .ok (.ireturn, 1) := by decide +kernel
theorem q_B_choice_0 : decode m_B_choice.2.1 0 = .ok (.aload_n 0, 1) := by decide +kernel
theorem q_B_choice_1 : decode m_B_choice.2.1 1 = .ok (.getfield 23, 3) := by decide +kernel
theorem q_B_choice_4 : decode m_B_choice.2.1 4 = .ok (.iload_n 1, 1) := by decide +kernel
theorem q_B_choice_5 : decode m_B_choice.2.1 5 = .ok (.invokevirtual 64, 3) := by decide +kernel
theorem q_B_choice_8 : decode m_B_choice.2.1 8 = .ok (.ifCond .eq 26, 3) := by decide +kernel
theorem q_B_choice_11 : decode m_B_choice.2.1 11 = .ok (.aload_n 0, 1) := by decide +kernel
theorem q_B_choice_12 : decode m_B_choice.2.1 12 = .ok (.getfield 23, 3) := by decide +kernel
theorem q_B_choice_15 : decode m_B_choice.2.1 15 = .ok (.iload_n 2, 1) := by decide +kernel
theorem q_B_choice_16 : decode m_B_choice.2.1 16 = .ok (.invokevirtual 68, 3) := by decide +kernel
theorem q_B_choice_19 : decode m_B_choice.2.1 19 = .ok (.ifCond .eq 15, 3) := by decide +kernel
theorem q_B_choice_22 : decode m_B_choice.2.1 22 = .ok (.aload_n 0, 1) := by decide +kernel
theorem q_B_choice_23 : decode m_B_choice.2.1 23 = .ok (.getfield 23, 3) := by decide +kernel
theorem q_B_choice_26 : decode m_B_choice.2.1 26 = .ok (.getfield 71, 3) := by decide +kernel
theorem q_B_choice_29 : decode m_B_choice.2.1 29 = .ok (.bipush 14, 2) := by decide +kernel
theorem q_B_choice_31 : decode m_B_choice.2.1 31 = .ok (.if_icmp .lt 5, 3) := by decide +kernel
theorem q_B_choice_34 : decode m_B_choice.2.1 34 = .ok (.iconst (-1), 1) := by decide +kernel
theorem q_B_choice_35 : decode m_B_choice.2.1 35 = .ok (.ireturn, 1) := by decide +kernel
theorem q_B_choice_36 : decode m_B_choice.2.1 36 = .ok (.lload_n 3, 1) := by decide +kernel
theorem q_B_choice_37 : decode m_B_choice.2.1 37 = .ok (.ldc2_w 74, 3) := by decide +kernel
theorem q_B_choice_40 : decode m_B_choice.2.1 40 = .ok (.invokestatic 76, 3) := by decide +kernel
theorem q_B_choice_43 : decode m_B_choice.2.1 43 = .ok (.ifCond .eq 14, 3) := by decide +kernel
theorem q_B_choice_46 : decode m_B_choice.2.1 46 = .ok (.lload 5, 2) := by decide +kernel
theorem q_B_choice_48 : decode m_B_choice.2.1 48 = .ok (.ldc2_w 74, 3) := by decide +kernel
theorem q_B_choice_51 : decode m_B_choice.2.1 51 = .ok (.invokestatic 76, 3) := by decide +kernel
theorem q_B_choice_54 : decode m_B_choice.2.1 54 = .ok (.ifCond .ne 5, 3) := by decide +kernel
theorem q_B_choice_57 : decode m_B_choice.2.1 57 = .ok (.iconst (-1), 1) := by decide +kernel
theorem q_B_choice_58 : decode m_B_choice.2.1 58 = .ok (.ireturn, 1) := by decide +kernel
theorem q_B_choice_59 : decode m_B_choice.2.1 59 = .ok (.aload_n 0, 1) := by decide +kernel
theorem q_B_choice_60 : decode m_B_choice.2.1 60 = .ok (.invokevirtual 57, 3) := by decide +kernel
theorem q_B_choice_63 : decode m_B_choice.2.1 63 = .ok (.aload_n 0, 1) := by decide +kernel
theorem q_B_choice_64 : decode m_B_choice.2.1 64 = .ok (.getfield 23, 3) := by decide +kernel
theorem q_B_choice_67 : decode m_B_choice.2.1 67 = .ok (.iload_n 1, 1) := by decide +kernel
theorem q_B_choice_68 : decode m_B_choice.2.1 68 = .ok (.iload_n 2, 1) := by decide +kernel
theorem q_B_choice_69 : decode m_B_choice.2.1 69 = .ok (.lload_n 3, 1) := by decide +kernel
theorem q_B_choice_70 : decode m_B_choice.2.1 70 = .ok (.lload 5, 2) := by decide +kernel
theorem q_B_choice_72 : decode m_B_choice.2.1 72 = .ok (.invokevirtual 80, 3) := by decide +kernel
theorem q_B_choice_75 : decode m_B_choice.2.1 75 = .ok (.ireturn, 1) := by decide +kernel
theorem q_B_must_0 : decode m_B_must.2.1 0 = .ok (.aload_n 0, 1) := by decide +kernel
theorem q_B_must_1 : decode m_B_must.2.1 1 = .ok (.getfield 23, 3) := by decide +kernel
theorem q_B_must_4 : decode m_B_must.2.1 4 = .ok (.iload_n 1, 1) := by decide +kernel
theorem q_B_must_5 : decode m_B_must.2.1 5 = .ok (.invokevirtual 84, 3) := by decide +kernel
theorem q_B_must_8 : decode m_B_must.2.1 8 = .ok (.ifCond .eq 17, 3) := by decide +kernel
theorem q_B_must_11 : decode m_B_must.2.1 11 = .ok (.aload_n 0, 1) := by decide +kernel
theorem q_B_must_12 : decode m_B_must.2.1 12 = .ok (.getfield 23, 3) := by decide +kernel
theorem q_B_must_15 : decode m_B_must.2.1 15 = .ok (.getfield 87, 3) := by decide +kernel
theorem q_B_must_18 : decode m_B_must.2.1 18 = .ok (.iload_n 1, 1) := by decide +kernel
theorem q_B_must_19 : decode m_B_must.2.1 19 = .ok (.invokestatic 90, 3) := by decide +kernel
theorem q_B_must_22 : decode m_B_must.2.1 22 = .ok (.ifCond .eq 5, 3) := by decide +kernel
theorem q_B_must_25 : decode m_B_must.2.1 25 = .ok (.iconst 0, 1) := by decide +kernel
theorem q_B_must_26 : decode m_B_must.2.1 26 = .ok (.ireturn, 1) := by decide +kernel
theorem q_B_must_27 : decode m_B_must.2.1 27 = .ok (.aload_n 0, 1) := by decide +kernel
theorem q_B_must_28 : decode m_B_must.2.1 28 = .ok (.invokevirtual 57, 3) := by decide +kernel
theorem q_B_must_31 : decode m_B_must.2.1 31 = .ok (.aload_n 0, 1) := by decide +kernel
theorem q_B_must_32 : decode m_B_must.2.1 32 = .ok (.getfield 23, 3) := by decide +kernel
theorem q_B_must_35 : decode m_B_must.2.1 35 = .ok (.dup, 1) := by decide +kernel
theorem q_B_must_36 : decode m_B_must.2.1 36 = .ok (.getfield 87, 3) := by decide +kernel
theorem q_B_must_39 : decode m_B_must.2.1 39 = .ok (.iconst 1, 1) := by decide +kernel
theorem q_B_must_40 : decode m_B_must.2.1 40 = .ok (.iload_n 1, 1) := by decide +kernel
theorem q_B_must_41 : decode m_B_must.2.1 41 = .ok (.ishl, 1) := by decide +kernel
theorem q_B_must_42 : decode m_B_must.2.1 42 = .ok (.ior, 1) := by decide +kernel
theorem q_B_must_43 : decode m_B_must.2.1 43 = .ok (.putfield 87, 3) := by decide +kernel
theorem q_B_must_46 : decode m_B_must.2.1 46 = .ok (.iconst 1, 1) := by decide +kernel
theorem q_B_must_47 : decode m_B_must.2.1 47 = .ok (.ireturn, 1) := by decide +kernel
theorem q_B_budget_0 : decode m_B_budget.2.1 0 = .ok (.aload_n 0, 1) := by decide +kernel
theorem q_B_budget_1 : decode m_B_budget.2.1 1 = .ok (.getfield 23, 3) := by decide +kernel
theorem q_B_budget_4 : decode m_B_budget.2.1 4 = .ok (.iload_n 1, 1) := by decide +kernel
theorem q_B_budget_5 : decode m_B_budget.2.1 5 = .ok (.invokevirtual 68, 3) := by decide +kernel
theorem q_B_budget_8 : decode m_B_budget.2.1 8 = .ok (.ifCond .eq 13, 3) := by decide +kernel
theorem q_B_budget_11 : decode m_B_budget.2.1 11 = .ok (.lload_n 2, 1) := by decide +kernel
theorem q_B_budget_12 : decode m_B_budget.2.1 12 = .ok (.ldc2_w 94, 3) := by decide +kernel
theorem q_B_budget_15 : decode m_B_budget.2.1 15 = .ok (.invokestatic 76, 3) := by decide +kernel
theorem q_B_budget_18 : decode m_B_budget.2.1 18 = .ok (.ifCond .ne 5, 3) := by decide +kernel
theorem q_B_budget_21 : decode m_B_budget.2.1 21 = .ok (.iconst 0, 1) := by decide +kernel
theorem q_B_budget_22 : decode m_B_budget.2.1 22 = .ok (.ireturn, 1) := by decide +kernel
theorem q_B_budget_23 : decode m_B_budget.2.1 23 = .ok (.aload_n 0, 1) := by decide +kernel
theorem q_B_budget_24 : decode m_B_budget.2.1 24 = .ok (.invokevirtual 57, 3) := by decide +kernel
theorem q_B_budget_27 : decode m_B_budget.2.1 27 = .ok (.aload_n 0, 1) := by decide +kernel
theorem q_B_budget_28 : decode m_B_budget.2.1 28 = .ok (.getfield 23, 3) := by decide +kernel
theorem q_B_budget_31 : decode m_B_budget.2.1 31 = .ok (.getfield 96, 3) := by decide +kernel
theorem q_B_budget_34 : decode m_B_budget.2.1 34 = .ok (.iload_n 1, 1) := by decide +kernel
theorem q_B_budget_35 : decode m_B_budget.2.1 35 = .ok (.lload_n 2, 1) := by decide +kernel
theorem q_B_budget_36 : decode m_B_budget.2.1 36 = .ok (.lastore, 1) := by decide +kernel
theorem q_B_budget_37 : decode m_B_budget.2.1 37 = .ok (.iconst 1, 1) := by decide +kernel
theorem q_B_budget_38 : decode m_B_budget.2.1 38 = .ok (.ireturn, 1) := by decide +kernel
theorem q_B_join_0 : decode m_B_join.2.1 0 = .ok (.aload_n 0, 1) := by decide +kernel
theorem q_B_join_1 : decode m_B_join.2.1 1 = .ok (.getfield 23, 3) := by decide +kernel
theorem q_B_join_4 : decode m_B_join.2.1 4 = .ok (.iload_n 1, 1) := by decide +kernel
theorem q_B_join_5 : decode m_B_join.2.1 5 = .ok (.invokevirtual 84, 3) := by decide +kernel
theorem q_B_join_8 : decode m_B_join.2.1 8 = .ok (.ifCond .eq 24, 3) := by decide +kernel
theorem q_B_join_11 : decode m_B_join.2.1 11 = .ok (.aload_n 0, 1) := by decide +kernel
theorem q_B_join_12 : decode m_B_join.2.1 12 = .ok (.getfield 23, 3) := by decide +kernel
theorem q_B_join_15 : decode m_B_join.2.1 15 = .ok (.iload_n 2, 1) := by decide +kernel
theorem q_B_join_16 : decode m_B_join.2.1 16 = .ok (.invokevirtual 84, 3) := by decide +kernel
theorem q_B_join_19 : decode m_B_join.2.1 19 = .ok (.ifCond .eq 13, 3) := by decide +kernel
theorem q_B_join_22 : decode m_B_join.2.1 22 = .ok (.lload_n 3, 1) := by decide +kernel
theorem q_B_join_23 : decode m_B_join.2.1 23 = .ok (.ldc2_w 74, 3) := by decide +kernel
theorem q_B_join_26 : decode m_B_join.2.1 26 = .ok (.invokestatic 76, 3) := by decide +kernel
theorem q_B_join_29 : decode m_B_join.2.1 29 = .ok (.ifCond .ne 5, 3) := by decide +kernel
theorem q_B_join_32 : decode m_B_join.2.1 32 = .ok (.iconst 0, 1) := by decide +kernel
theorem q_B_join_33 : decode m_B_join.2.1 33 = .ok (.ireturn, 1) := by decide +kernel
theorem q_B_join_34 : decode m_B_join.2.1 34 = .ok (.aload_n 0, 1) := by decide +kernel
theorem q_B_join_35 : decode m_B_join.2.1 35 = .ok (.getfield 23, 3) := by decide +kernel
theorem q_B_join_38 : decode m_B_join.2.1 38 = .ok (.iload_n 1, 1) := by decide +kernel
theorem q_B_join_39 : decode m_B_join.2.1 39 = .ok (.iload_n 2, 1) := by decide +kernel
theorem q_B_join_40 : decode m_B_join.2.1 40 = .ok (.invokevirtual 100, 3) := by decide +kernel
theorem q_B_join_43 : decode m_B_join.2.1 43 = .ok (.ifCond .eq 15, 3) := by decide +kernel
theorem q_B_join_46 : decode m_B_join.2.1 46 = .ok (.aload_n 0, 1) := by decide +kernel
theorem q_B_join_47 : decode m_B_join.2.1 47 = .ok (.getfield 23, 3) := by decide +kernel
theorem q_B_join_50 : decode m_B_join.2.1 50 = .ok (.getfield 103, 3) := by decide +kernel
theorem q_B_join_53 : decode m_B_join.2.1 53 = .ok (.bipush 20, 2) := by decide +kernel
theorem q_B_join_55 : decode m_B_join.2.1 55 = .ok (.if_icmp .lt 5, 3) := by decide +kernel
theorem q_B_join_58 : decode m_B_join.2.1 58 = .ok (.iconst 0, 1) := by decide +kernel
theorem q_B_join_59 : decode m_B_join.2.1 59 = .ok (.ireturn, 1) := by decide +kernel
theorem q_B_join_60 : decode m_B_join.2.1 60 = .ok (.aload_n 0, 1) := by decide +kernel
theorem q_B_join_61 : decode m_B_join.2.1 61 = .ok (.invokevirtual 57, 3) := by decide +kernel
theorem q_B_join_64 : decode m_B_join.2.1 64 = .ok (.aload_n 0, 1) := by decide +kernel
theorem q_B_join_65 : decode m_B_join.2.1 65 = .ok (.getfield 23, 3) := by decide +kernel
theorem q_B_join_68 : decode m_B_join.2.1 68 = .ok (.iload_n 1, 1) := by decide +kernel
theorem q_B_join_69 : decode m_B_join.2.1 69 = .ok (.iload_n 2, 1) := by decide +kernel
theorem q_B_join_70 : decode m_B_join.2.1 70 = .ok (.lload_n 3, 1) := by decide +kernel
theorem q_B_join_71 : decode m_B_join.2.1 71 = .ok (.invokevirtual 106, 3) := by decide +kernel
theorem q_B_join_74 : decode m_B_join.2.1 74 = .ok (.iconst 1, 1) := by decide +kernel
theorem q_B_join_75 : decode m_B_join.2.1 75 = .ok (.ireturn, 1) := by decide +kernel
theorem q_B_district_0 : decode m_B_district.2.1 0 = .ok (.aload_n 0, 1) := by decide +kernel
theorem q_B_district_1 : decode m_B_district.2.1 1 = .ok (.getfield 23, 3) := by decide +kernel
theorem q_B_district_4 : decode m_B_district.2.1 4 = .ok (.iload_n 1, 1) := by decide +kernel
theorem q_B_district_5 : decode m_B_district.2.1 5 = .ok (.invokevirtual 64, 3) := by decide +kernel
theorem q_B_district_8 : decode m_B_district.2.1 8 = .ok (.ifCond .eq 10, 3) := by decide +kernel
theorem q_B_district_11 : decode m_B_district.2.1 11 = .ok (.iload_n 2, 1) := by decide +kernel
theorem q_B_district_12 : decode m_B_district.2.1 12 = .ok (.invokestatic 110, 3) := by decide +kernel
theorem q_B_district_15 : decode m_B_district.2.1 15 = .ok (.ifCond .ne 5, 3) := by decide +kernel
theorem q_B_district_18 : decode m_B_district.2.1 18 = .ok (.iconst 0, 1) := by decide +kernel
theorem q_B_district_19 : decode m_B_district.2.1 19 = .ok (.ireturn, 1) := by decide +kernel
theorem q_B_district_20 : decode m_B_district.2.1 20 = .ok (.aload_n 0, 1) := by decide +kernel
theorem q_B_district_21 : decode m_B_district.2.1 21 = .ok (.invokevirtual 57, 3) := by decide +kernel
theorem q_B_district_24 : decode m_B_district.2.1 24 = .ok (.aload_n 0, 1) := by decide +kernel
theorem q_B_district_25 : decode m_B_district.2.1 25 = .ok (.getfield 23, 3) := by decide +kernel
theorem q_B_district_28 : decode m_B_district.2.1 28 = .ok (.getfield 113, 3) := by decide +kernel
theorem q_B_district_31 : decode m_B_district.2.1 31 = .ok (.iload_n 1, 1) := by decide +kernel
theorem q_B_district_32 : decode m_B_district.2.1 32 = .ok (.iload_n 2, 1) := by decide +kernel
theorem q_B_district_33 : decode m_B_district.2.1 33 = .ok (.iastore, 1) := by decide +kernel
theorem q_B_district_34 : decode m_B_district.2.1 34 = .ok (.iconst 1, 1) := by decide +kernel
theorem q_B_district_35 : decode m_B_district.2.1 35 = .ok (.ireturn, 1) := by decide +kernel
theorem q_B_fair_0 : decode m_B_fair.2.1 0 = .ok (.lload_n 1, 1) := by decide +kernel
theorem q_B_fair_1 : decode m_B_fair.2.1 1 = .ok (.ldc2_w 117, 3) := by decide +kernel
theorem q_B_fair_4 : decode m_B_fair.2.1 4 = .ok (.lcmp, 1) := by decide +kernel
theorem q_B_fair_5 : decode m_B_fair.2.1 5 = .ok (.ifCond .le 5, 3) := by decide +kernel
theorem q_B_fair_8 : decode m_B_fair.2.1 8 = .ok (.iconst 0, 1) := by decide +kernel
theorem q_B_fair_9 : decode m_B_fair.2.1 9 = .ok (.ireturn, 1) := by decide +kernel
theorem q_B_fair_10 : decode m_B_fair.2.1 10 = .ok (.aload_n 0, 1) := by decide +kernel
theorem q_B_fair_11 : decode m_B_fair.2.1 11 = .ok (.invokevirtual 57, 3) := by decide +kernel
theorem q_B_fair_14 : decode m_B_fair.2.1 14 = .ok (.aload_n 0, 1) := by decide +kernel
theorem q_B_fair_15 : decode m_B_fair.2.1 15 = .ok (.getfield 23, 3) := by decide +kernel
theorem q_B_fair_18 : decode m_B_fair.2.1 18 = .ok (.lload_n 1, 1) := by decide +kernel
theorem q_B_fair_19 : decode m_B_fair.2.1 19 = .ok (.lconst 0, 1) := by decide +kernel
theorem q_B_fair_20 : decode m_B_fair.2.1 20 = .ok (.lcmp, 1) := by decide +kernel
theorem q_B_fair_21 : decode m_B_fair.2.1 21 = .ok (.ifCond .ge 9, 3) := by decide +kernel
theorem q_B_fair_24 : decode m_B_fair.2.1 24 = .ok (.ldc2_w 119, 3) := by decide +kernel
theorem q_B_fair_27 : decode m_B_fair.2.1 27 = .ok (.goto 4, 3) := by decide +kernel
theorem q_B_fair_30 : decode m_B_fair.2.1 30 = .ok (.lload_n 1, 1) := by decide +kernel
theorem q_B_fair_31 : decode m_B_fair.2.1 31 = .ok (.putfield 121, 3) := by decide +kernel
theorem q_B_fair_34 : decode m_B_fair.2.1 34 = .ok (.iconst 1, 1) := by decide +kernel
theorem q_B_fair_35 : decode m_B_fair.2.1 35 = .ok (.ireturn, 1) := by decide +kernel
theorem q_B_run_0 : decode m_B_run.2.1 0 = .ok (.lload_n 1, 1) := by decide +kernel
theorem q_B_run_1 : decode m_B_run.2.1 1 = .ok (.invokestatic 125, 3) := by decide +kernel
theorem q_B_run_4 : decode m_B_run.2.1 4 = .ok (.ifCond .ne 5, 3) := by decide +kernel
theorem q_B_run_7 : decode m_B_run.2.1 7 = .ok (.iconst (-1), 1) := by decide +kernel
theorem q_B_run_8 : decode m_B_run.2.1 8 = .ok (.ireturn, 1) := by decide +kernel
theorem q_B_run_9 : decode m_B_run.2.1 9 = .ok (.aload_n 0, 1) := by decide +kernel
theorem q_B_run_10 : decode m_B_run.2.1 10 = .ok (.aload_n 0, 1) := by decide +kernel
theorem q_B_run_11 : decode m_B_run.2.1 11 = .ok (.getfield 32, 3) := by decide +kernel
theorem q_B_run_14 : decode m_B_run.2.1 14 = .ok (.lload_n 1, 1) := by decide +kernel
theorem q_B_run_15 : decode m_B_run.2.1 15 = .ok (.invokevirtual 129, 3) := by decide +kernel
theorem q_B_run_18 : decode m_B_run.2.1 18 = .ok (.putfield 50, 3) := by decide +kernel
theorem q_B_run_21 : decode m_B_run.2.1 21 = .ok (.lload_n 1, 1) := by decide +kernel
theorem q_B_run_22 : decode m_B_run.2.1 22 = .ok (.aload_n 0, 1) := by decide +kernel
theorem q_B_run_23 : decode m_B_run.2.1 23 = .ok (.getfield 23, 3) := by decide +kernel
theorem q_B_run_26 : decode m_B_run.2.1 26 = .ok (.invokevirtual 133, 3) := by decide +kernel
theorem q_B_run_29 : decode m_B_run.2.1 29 = .ok (.i2l, 1) := by decide +kernel
theorem q_B_run_30 : decode m_B_run.2.1 30 = .ok (.lcmp, 1) := by decide +kernel
theorem q_B_run_31 : decode m_B_run.2.1 31 = .ok (.ifCond .lt 7, 3) := by decide +kernel
theorem q_B_run_34 : decode m_B_run.2.1 34 = .ok (.iconst 1, 1) := by decide +kernel
theorem q_B_run_35 : decode m_B_run.2.1 35 = .ok (.goto 4, 3) := by decide +kernel
theorem q_B_run_38 : decode m_B_run.2.1 38 = .ok (.iconst 0, 1) := by decide +kernel
theorem q_B_run_39 : decode m_B_run.2.1 39 = .ok (.istore_n 3, 1) := by decide +kernel
theorem q_B_run_40 : decode m_B_run.2.1 40 = .ok (.aload_n 0, 1) := by decide +kernel
theorem q_B_run_41 : decode m_B_run.2.1 41 = .ok (.iload_n 3, 1) := by decide +kernel
theorem q_B_run_42 : decode m_B_run.2.1 42 = .ok (.putfield 137, 3) := by decide +kernel
theorem q_B_run_45 : decode m_B_run.2.1 45 = .ok (.iload_n 3, 1) := by decide +kernel
theorem q_B_run_46 : decode m_B_run.2.1 46 = .ok (.ifCond .ne 5, 3) := by decide +kernel
theorem q_B_run_49 : decode m_B_run.2.1 49 = .ok (.iconst 1, 1) := by decide +kernel
theorem q_B_run_50 : decode m_B_run.2.1 50 = .ok (.ireturn, 1) := by decide +kernel
theorem q_B_run_51 : decode m_B_run.2.1 51 = .ok (.aload_n 0, 1) := by decide +kernel
theorem q_B_run_52 : decode m_B_run.2.1 52 = .ok (.getfield 50, 3) := by decide +kernel
theorem q_B_run_55 : decode m_B_run.2.1 55 = .ok (.iconst (-1), 1) := by decide +kernel
theorem q_B_run_56 : decode m_B_run.2.1 56 = .ok (.if_icmp .ne 7, 3) := by decide +kernel
theorem q_B_run_59 : decode m_B_run.2.1 59 = .ok (.iconst 2, 1) := by decide +kernel
theorem q_B_run_60 : decode m_B_run.2.1 60 = .ok (.goto 4, 3) := by decide +kernel
theorem q_B_run_63 : decode m_B_run.2.1 63 = .ok (.iconst 0, 1) := by decide +kernel
theorem q_B_run_64 : decode m_B_run.2.1 64 = .ok (.ireturn, 1) := by decide +kernel
theorem q_B_chosen_0 : decode m_B_chosen.2.1 0 = .ok (.aload_n 0, 1) := by decide +kernel
theorem q_B_chosen_1 : decode m_B_chosen.2.1 1 = .ok (.getfield 23, 3) := by decide +kernel
theorem q_B_chosen_4 : decode m_B_chosen.2.1 4 = .ok (.iload_n 1, 1) := by decide +kernel
theorem q_B_chosen_5 : decode m_B_chosen.2.1 5 = .ok (.invokevirtual 84, 3) := by decide +kernel
theorem q_B_chosen_8 : decode m_B_chosen.2.1 8 = .ok (.ifCond .eq 18, 3) := by decide +kernel
theorem q_B_chosen_11 : decode m_B_chosen.2.1 11 = .ok (.aload_n 0, 1) := by decide +kernel
theorem q_B_chosen_12 : decode m_B_chosen.2.1 12 = .ok (.invokevirtual 141, 3) := by decide +kernel
theorem q_B_chosen_15 : decode m_B_chosen.2.1 15 = .ok (.iload_n 1, 1) := by decide +kernel
theorem q_B_chosen_16 : decode m_B_chosen.2.1 16 = .ok (.invokestatic 90, 3) := by decide +kernel
theorem q_B_chosen_19 : decode m_B_chosen.2.1 19 = .ok (.ifCond .eq 7, 3) := by decide +kernel
theorem q_B_chosen_22 : decode m_B_chosen.2.1 22 = .ok (.iconst 1, 1) := by decide +kernel
theorem q_B_chosen_23 : decode m_B_chosen.2.1 23 = .ok (.goto 4, 3) := by decide +kernel
theorem q_B_chosen_26 : decode m_B_chosen.2.1 26 = .ok (.iconst 0, 1) := by decide +kernel
theorem q_B_chosen_27 : decode m_B_chosen.2.1 27 = .ok (.ireturn, 1) := by decide +kernel
theorem q_B_worth_0 : decode m_B_worth.2.1 0 = .ok (.aload_n 0, 1) := by decide +kernel
theorem q_B_worth_1 : decode m_B_worth.2.1 1 = .ok (.getfield 50, 3) := by decide +kernel
theorem q_B_worth_4 : decode m_B_worth.2.1 4 = .ok (.iconst (-1), 1) := by decide +kernel
theorem q_B_worth_5 : decode m_B_worth.2.1 5 = .ok (.if_icmp .ne 9, 3) := by decide +kernel
theorem q_B_worth_8 : decode m_B_worth.2.1 8 = .ok (.ldc2_w 119, 3) := by decide +kernel
theorem q_B_worth_11 : decode m_B_worth.2.1 11 = .ok (.goto 14, 3) := by decide +kernel
theorem q_B_worth_14 : decode m_B_worth.2.1 14 = .ok (.aload_n 0, 1) := by decide +kernel
theorem q_B_worth_15 : decode m_B_worth.2.1 15 = .ok (.getfield 23, 3) := by decide +kernel
theorem q_B_worth_18 : decode m_B_worth.2.1 18 = .ok (.aload_n 0, 1) := by decide +kernel
theorem q_B_worth_19 : decode m_B_worth.2.1 19 = .ok (.getfield 50, 3) := by decide +kernel
theorem q_B_worth_22 : decode m_B_worth.2.1 22 = .ok (.invokevirtual 144, 3) := by decide +kernel
theorem q_B_worth_25 : decode m_B_worth.2.1 25 = .ok (.lreturn, 1) := by decide +kernel
theorem q_B_bound_0 : decode m_B_bound.2.1 0 = .ok (.iload_n 1, 1) := by decide +kernel
theorem q_B_bound_1 : decode m_B_bound.2.1 1 = .ok (.ifCond .ne 11, 3) := by decide +kernel
theorem q_B_bound_4 : decode m_B_bound.2.1 4 = .ok (.aload_n 0, 1) := by decide +kernel
theorem q_B_bound_5 : decode m_B_bound.2.1 5 = .ok (.getfield 39, 3) := by decide +kernel
theorem q_B_bound_8 : decode m_B_bound.2.1 8 = .ok (.invokevirtual 148, 3) := by decide +kernel
theorem q_B_bound_11 : decode m_B_bound.2.1 11 = .ok (.lreturn, 1) := by decide +kernel
theorem q_B_bound_12 : decode m_B_bound.2.1 12 = .ok (.iload_n 1, 1) := by decide +kernel
theorem q_B_bound_13 : decode m_B_bound.2.1 13 = .ok (.iconst 1, 1) := by decide +kernel
theorem q_B_bound_14 : decode m_B_bound.2.1 14 = .ok (.if_icmp .ne 14, 3) := by decide +kernel
theorem q_B_bound_17 : decode m_B_bound.2.1 17 = .ok (.aload_n 0, 1) := by decide +kernel
theorem q_B_bound_18 : decode m_B_bound.2.1 18 = .ok (.getfield 39, 3) := by decide +kernel
theorem q_B_bound_21 : decode m_B_bound.2.1 21 = .ok (.lconst 0, 1) := by decide +kernel
theorem q_B_bound_22 : decode m_B_bound.2.1 22 = .ok (.invokevirtual 152, 3) := by decide +kernel
theorem q_B_bound_25 : decode m_B_bound.2.1 25 = .ok (.goto 6, 3) := by decide +kernel
theorem q_B_bound_28 : decode m_B_bound.2.1 28 = .ok (.ldc2_w 119, 3) := by decide +kernel
theorem q_B_bound_31 : decode m_B_bound.2.1 31 = .ok (.lreturn, 1) := by decide +kernel
theorem q_B_clash_0 : decode m_B_clash.2.1 0 = .ok (.aload_n 0, 1) := by decide +kernel
theorem q_B_clash_1 : decode m_B_clash.2.1 1 = .ok (.getfield 156, 3) := by decide +kernel
theorem q_B_clash_4 : decode m_B_clash.2.1 4 = .ok (.ifCond .ne 37, 3) := by decide +kernel
theorem q_B_clash_7 : decode m_B_clash.2.1 7 = .ok (.aload_n 0, 1) := by decide +kernel
theorem q_B_clash_8 : decode m_B_clash.2.1 8 = .ok (.aload_n 0, 1) := by decide +kernel
theorem q_B_clash_9 : decode m_B_clash.2.1 9 = .ok (.getfield 32, 3) := by decide +kernel
theorem q_B_clash_12 : decode m_B_clash.2.1 12 = .ok (.aload_n 0, 1) := by decide +kernel
theorem q_B_clash_13 : decode m_B_clash.2.1 13 = .ok (.getfield 23, 3) := by decide +kernel
theorem q_B_clash_16 : decode m_B_clash.2.1 16 = .ok (.getfield 87, 3) := by decide +kernel
theorem q_B_clash_19 : decode m_B_clash.2.1 19 = .ok (.invokevirtual 159, 3) := by decide +kernel
theorem q_B_clash_22 : decode m_B_clash.2.1 22 = .ok (.ifCond .eq 7, 3) := by decide +kernel
theorem q_B_clash_25 : decode m_B_clash.2.1 25 = .ok (.iconst 0, 1) := by decide +kernel
theorem q_B_clash_26 : decode m_B_clash.2.1 26 = .ok (.goto 7, 3) := by decide +kernel
theorem q_B_clash_29 : decode m_B_clash.2.1 29 = .ok (.aload_n 0, 1) := by decide +kernel
theorem q_B_clash_30 : decode m_B_clash.2.1 30 = .ok (.invokevirtual 162, 3) := by decide +kernel
theorem q_B_clash_33 : decode m_B_clash.2.1 33 = .ok (.putfield 165, 3) := by decide +kernel
theorem q_B_clash_36 : decode m_B_clash.2.1 36 = .ok (.aload_n 0, 1) := by decide +kernel
theorem q_B_clash_37 : decode m_B_clash.2.1 37 = .ok (.iconst 1, 1) := by decide +kernel
theorem q_B_clash_38 : decode m_B_clash.2.1 38 = .ok (.putfield 156, 3) := by decide +kernel
theorem q_B_clash_41 : decode m_B_clash.2.1 41 = .ok (.aload_n 0, 1) := by decide +kernel
theorem q_B_clash_42 : decode m_B_clash.2.1 42 = .ok (.getfield 165, 3) := by decide +kernel
theorem q_B_clash_45 : decode m_B_clash.2.1 45 = .ok (.iload_n 1, 1) := by decide +kernel
theorem q_B_clash_46 : decode m_B_clash.2.1 46 = .ok (.invokestatic 168, 3) := by decide +kernel
theorem q_B_clash_49 : decode m_B_clash.2.1 49 = .ok (.ireturn, 1) := by decide +kernel
theorem q_B_proved_0 : decode m_B_proved.2.1 0 = .ok (.aload_n 0, 1) := by decide +kernel
theorem q_B_proved_1 : decode m_B_proved.2.1 1 = .ok (.getfield 137, 3) := by decide +kernel
theorem q_B_proved_4 : decode m_B_proved.2.1 4 = .ok (.ireturn, 1) := by decide +kernel
theorem q_B_price_0 : decode m_B_price.2.1 0 = .ok (.aload_n 0, 1) := by decide +kernel
theorem q_B_price_1 : decode m_B_price.2.1 1 = .ok (.getfield 23, 3) := by decide +kernel
theorem q_B_price_4 : decode m_B_price.2.1 4 = .ok (.iload_n 1, 1) := by decide +kernel
theorem q_B_price_5 : decode m_B_price.2.1 5 = .ok (.invokevirtual 68, 3) := by decide +kernel
theorem q_B_price_8 : decode m_B_price.2.1 8 = .ok (.ifCond .ne 7, 3) := by decide +kernel
theorem q_B_price_11 : decode m_B_price.2.1 11 = .ok (.ldc2_w 119, 3) := by decide +kernel
theorem q_B_price_14 : decode m_B_price.2.1 14 = .ok (.lreturn, 1) := by decide +kernel
theorem q_B_price_15 : decode m_B_price.2.1 15 = .ok (.iload_n 2, 1) := by decide +kernel
theorem q_B_price_16 : decode m_B_price.2.1 16 = .ok (.ifCond .ne 9, 3) := by decide +kernel
theorem q_B_price_19 : decode m_B_price.2.1 19 = .ok (.aload_n 0, 1) := by decide +kernel
theorem q_B_price_20 : decode m_B_price.2.1 20 = .ok (.iload_n 1, 1) := by decide +kernel
theorem q_B_price_21 : decode m_B_price.2.1 21 = .ok (.invokevirtual 171, 3) := by decide +kernel
theorem q_B_price_24 : decode m_B_price.2.1 24 = .ok (.lreturn, 1) := by decide +kernel
theorem q_B_price_25 : decode m_B_price.2.1 25 = .ok (.iload_n 2, 1) := by decide +kernel
theorem q_B_price_26 : decode m_B_price.2.1 26 = .ok (.iconst 1, 1) := by decide +kernel
theorem q_B_price_27 : decode m_B_price.2.1 27 = .ok (.if_icmp .ne 25, 3) := by decide +kernel
theorem q_B_price_30 : decode m_B_price.2.1 30 = .ok (.aload_n 0, 1) := by decide +kernel
theorem q_B_price_31 : decode m_B_price.2.1 31 = .ok (.getfield 39, 3) := by decide +kernel
theorem q_B_price_34 : decode m_B_price.2.1 34 = .ok (.ldc2_w 174, 3) := by decide +kernel
theorem q_B_price_37 : decode m_B_price.2.1 37 = .ok (.invokevirtual 152, 3) := by decide +kernel
theorem q_B_price_40 : decode m_B_price.2.1 40 = .ok (.aload_n 0, 1) := by decide +kernel
theorem q_B_price_41 : decode m_B_price.2.1 41 = .ok (.getfield 39, 3) := by decide +kernel
theorem q_B_price_44 : decode m_B_price.2.1 44 = .ok (.lconst 0, 1) := by decide +kernel
theorem q_B_price_45 : decode m_B_price.2.1 45 = .ok (.invokevirtual 152, 3) := by decide +kernel
theorem q_B_price_48 : decode m_B_price.2.1 48 = .ok (.lsub, 1) := by decide +kernel
theorem q_B_price_49 : decode m_B_price.2.1 49 = .ok (.goto 6, 3) := by decide +kernel
theorem q_B_price_52 : decode m_B_price.2.1 52 = .ok (.ldc2_w 119, 3) := by decide +kernel
theorem q_B_price_55 : decode m_B_price.2.1 55 = .ok (.lreturn, 1) := by decide +kernel
theorem q_B_old_0 : decode m_B_old.2.1 0 = .ok (.aload_n 0, 1) := by decide +kernel
theorem q_B_old_1 : decode m_B_old.2.1 1 = .ok (.getfield 23, 3) := by decide +kernel
theorem q_B_old_4 : decode m_B_old.2.1 4 = .ok (.iload_n 1, 1) := by decide +kernel
theorem q_B_old_5 : decode m_B_old.2.1 5 = .ok (.invokevirtual 84, 3) := by decide +kernel
theorem q_B_old_8 : decode m_B_old.2.1 8 = .ok (.ifCond .ne 5, 3) := by decide +kernel
theorem q_B_old_11 : decode m_B_old.2.1 11 = .ok (.iconst 0, 1) := by decide +kernel
theorem q_B_old_12 : decode m_B_old.2.1 12 = .ok (.ireturn, 1) := by decide +kernel
theorem q_B_old_13 : decode m_B_old.2.1 13 = .ok (.aload_n 0, 1) := by decide +kernel
theorem q_B_old_14 : decode m_B_old.2.1 14 = .ok (.iload_n 2, 1) := by decide +kernel
theorem q_B_old_15 : decode m_B_old.2.1 15 = .ok (.ifCond .eq 14, 3) := by decide +kernel
theorem q_B_old_18 : decode m_B_old.2.1 18 = .ok (.aload_n 0, 1) := by decide +kernel
theorem q_B_old_19 : decode m_B_old.2.1 19 = .ok (.getfield 176, 3) := by decide +kernel
theorem q_B_old_22 : decode m_B_old.2.1 22 = .ok (.iconst 1, 1) := by decide +kernel
theorem q_B_old_23 : decode m_B_old.2.1 23 = .ok (.iload_n 1, 1) := by decide +kernel
theorem q_B_old_24 : decode m_B_old.2.1 24 = .ok (.ishl, 1) := by decide +kernel
theorem q_B_old_25 : decode m_B_old.2.1 25 = .ok (.ior, 1) := by decide +kernel
theorem q_B_old_26 : decode m_B_old.2.1 26 = .ok (.goto 13, 3) := by decide +kernel
theorem q_B_old_29 : decode m_B_old.2.1 29 = .ok (.aload_n 0, 1) := by decide +kernel
theorem q_B_old_30 : decode m_B_old.2.1 30 = .ok (.getfield 176, 3) := by decide +kernel
theorem q_B_old_33 : decode m_B_old.2.1 33 = .ok (.iconst 1, 1) := by decide +kernel
theorem q_B_old_34 : decode m_B_old.2.1 34 = .ok (.iload_n 1, 1) := by decide +kernel
theorem q_B_old_35 : decode m_B_old.2.1 35 = .ok (.ishl, 1) := by decide +kernel
theorem q_B_old_36 : decode m_B_old.2.1 36 = .ok (.iconst (-1), 1) := by decide +kernel
theorem q_B_old_37 : decode m_B_old.2.1 37 = .ok (.ixor, 1) := by decide +kernel
theorem q_B_old_38 : decode m_B_old.2.1 38 = .ok (.iand, 1) := by decide +kernel
theorem q_B_old_39 : decode m_B_old.2.1 39 = .ok (.putfield 176, 3) := by decide +kernel
theorem q_B_old_42 : decode m_B_old.2.1 42 = .ok (.iconst 1, 1) := by decide +kernel
theorem q_B_old_43 : decode m_B_old.2.1 43 = .ok (.ireturn, 1) := by decide +kernel
theorem q_B_changes_0 : decode m_B_changes.2.1 0 = .ok (.lload_n 1, 1) := by decide +kernel
theorem q_B_changes_1 : decode m_B_changes.2.1 1 = .ok (.invokestatic 125, 3) := by decide +kernel
theorem q_B_changes_4 : decode m_B_changes.2.1 4 = .ok (.ifCond .ne 5, 3) := by decide +kernel
theorem q_B_changes_7 : decode m_B_changes.2.1 7 = .ok (.iconst (-1), 1) := by decide +kernel
theorem q_B_changes_8 : decode m_B_changes.2.1 8 = .ok (.ireturn, 1) := by decide +kernel
theorem q_B_changes_9 : decode m_B_changes.2.1 9 = .ok (.aload_n 0, 1) := by decide +kernel
theorem q_B_changes_10 : decode m_B_changes.2.1 10 = .ok (.aload_n 0, 1) := by decide +kernel
theorem q_B_changes_11 : decode m_B_changes.2.1 11 = .ok (.getfield 32, 3) := by decide +kernel
theorem q_B_changes_14 : decode m_B_changes.2.1 14 = .ok (.lload_n 1, 1) := by decide +kernel
theorem q_B_changes_15 : decode m_B_changes.2.1 15 = .ok (.aload_n 0, 1) := by decide +kernel
theorem q_B_changes_16 : decode m_B_changes.2.1 16 = .ok (.getfield 176, 3) := by decide +kernel
theorem q_B_changes_19 : decode m_B_changes.2.1 19 = .ok (.invokevirtual 179, 3) := by decide +kernel
theorem q_B_changes_22 : decode m_B_changes.2.1 22 = .ok (.putfield 50, 3) := by decide +kernel
theorem q_B_changes_25 : decode m_B_changes.2.1 25 = .ok (.aload_n 0, 1) := by decide +kernel
theorem q_B_changes_26 : decode m_B_changes.2.1 26 = .ok (.getfield 50, 3) := by decide +kernel
theorem q_B_changes_29 : decode m_B_changes.2.1 29 = .ok (.iconst (-1), 1) := by decide +kernel
theorem q_B_changes_30 : decode m_B_changes.2.1 30 = .ok (.if_icmp .ne 7, 3) := by decide +kernel
theorem q_B_changes_33 : decode m_B_changes.2.1 33 = .ok (.iconst (-1), 1) := by decide +kernel
theorem q_B_changes_34 : decode m_B_changes.2.1 34 = .ok (.goto 15, 3) := by decide +kernel
theorem q_B_changes_37 : decode m_B_changes.2.1 37 = .ok (.aload_n 0, 1) := by decide +kernel
theorem q_B_changes_38 : decode m_B_changes.2.1 38 = .ok (.getfield 50, 3) := by decide +kernel
theorem q_B_changes_41 : decode m_B_changes.2.1 41 = .ok (.aload_n 0, 1) := by decide +kernel
theorem q_B_changes_42 : decode m_B_changes.2.1 42 = .ok (.getfield 176, 3) := by decide +kernel
theorem q_B_changes_45 : decode m_B_changes.2.1 45 = .ok (.ixor, 1) := by decide +kernel
theorem q_B_changes_46 : decode m_B_changes.2.1 46 = .ok (.invokestatic 183, 3) := by decide +kernel
theorem q_B_changes_49 : decode m_B_changes.2.1 49 = .ok (.ireturn, 1) := by decide +kernel
theorem q_B_changed_0 : decode m_B_changed.2.1 0 = .ok (.aload_n 0, 1) := by decide +kernel
theorem q_B_changed_1 : decode m_B_changed.2.1 1 = .ok (.getfield 50, 3) := by decide +kernel
theorem q_B_changed_4 : decode m_B_changed.2.1 4 = .ok (.iconst (-1), 1) := by decide +kernel
theorem q_B_changed_5 : decode m_B_changed.2.1 5 = .ok (.if_icmp .ne 7, 3) := by decide +kernel
theorem q_B_changed_8 : decode m_B_changed.2.1 8 = .ok (.iconst (-1), 1) := by decide +kernel
theorem q_B_changed_9 : decode m_B_changed.2.1 9 = .ok (.goto 16, 3) := by decide +kernel
theorem q_B_changed_12 : decode m_B_changed.2.1 12 = .ok (.aload_n 0, 1) := by decide +kernel
theorem q_B_changed_13 : decode m_B_changed.2.1 13 = .ok (.getfield 50, 3) := by decide +kernel
theorem q_B_changed_16 : decode m_B_changed.2.1 16 = .ok (.aload_n 0, 1) := by decide +kernel
theorem q_B_changed_17 : decode m_B_changed.2.1 17 = .ok (.getfield 176, 3) := by decide +kernel
theorem q_B_changed_20 : decode m_B_changed.2.1 20 = .ok (.ixor, 1) := by decide +kernel
theorem q_B_changed_21 : decode m_B_changed.2.1 21 = .ok (.iload_n 1, 1) := by decide +kernel
theorem q_B_changed_22 : decode m_B_changed.2.1 22 = .ok (.invokestatic 168, 3) := by decide +kernel
theorem q_B_changed_25 : decode m_B_changed.2.1 25 = .ok (.ireturn, 1) := by decide +kernel
theorem q_B_backlog_0 : decode m_B_backlog.2.1 0 = .ok (.aload_n 0, 1) := by decide +kernel
theorem q_B_backlog_1 : decode m_B_backlog.2.1 1 = .ok (.getfield 23, 3) := by decide +kernel
theorem q_B_backlog_4 : decode m_B_backlog.2.1 4 = .ok (.iload_n 1, 1) := by decide +kernel
theorem q_B_backlog_5 : decode m_B_backlog.2.1 5 = .ok (.invokevirtual 68, 3) := by decide +kernel
theorem q_B_backlog_8 : decode m_B_backlog.2.1 8 = .ok (.ifCond .ne 7, 3) := by decide +kernel
theorem q_B_backlog_11 : decode m_B_backlog.2.1 11 = .ok (.ldc2_w 119, 3) := by decide +kernel
theorem q_B_backlog_14 : decode m_B_backlog.2.1 14 = .ok (.lreturn, 1) := by decide +kernel
theorem q_B_backlog_15 : decode m_B_backlog.2.1 15 = .ok (.lconst 0, 1) := by decide +kernel
theorem q_B_backlog_16 : decode m_B_backlog.2.1 16 = .ok (.lstore_n 2, 1) := by decide +kernel
theorem q_B_backlog_17 : decode m_B_backlog.2.1 17 = .ok (.iconst 0, 1) := by decide +kernel
theorem q_B_backlog_18 : decode m_B_backlog.2.1 18 = .ok (.istore 4, 2) := by decide +kernel
theorem q_B_backlog_20 : decode m_B_backlog.2.1 20 = .ok (.iload 4, 2) := by decide +kernel
theorem q_B_backlog_22 : decode m_B_backlog.2.1 22 = .ok (.aload_n 0, 1) := by decide +kernel
theorem q_B_backlog_23 : decode m_B_backlog.2.1 23 = .ok (.getfield 23, 3) := by decide +kernel
theorem q_B_backlog_26 : decode m_B_backlog.2.1 26 = .ok (.getfield 54, 3) := by decide +kernel
theorem q_B_backlog_29 : decode m_B_backlog.2.1 29 = .ok (.if_icmp .ge 39, 3) := by decide +kernel
theorem q_B_backlog_32 : decode m_B_backlog.2.1 32 = .ok (.aload_n 0, 1) := by decide +kernel
theorem q_B_backlog_33 : decode m_B_backlog.2.1 33 = .ok (.getfield 23, 3) := by decide +kernel
theorem q_B_backlog_36 : decode m_B_backlog.2.1 36 = .ok (.aload_n 0, 1) := by decide +kernel
theorem q_B_backlog_37 : decode m_B_backlog.2.1 37 = .ok (.invokevirtual 141, 3) := by decide +kernel
theorem q_B_backlog_40 : decode m_B_backlog.2.1 40 = .ok (.iload 4, 2) := by decide +kernel
theorem q_B_backlog_42 : decode m_B_backlog.2.1 42 = .ok (.iload_n 1, 1) := by decide +kernel
theorem q_B_backlog_43 : decode m_B_backlog.2.1 43 = .ok (.invokevirtual 188, 3) := by decide +kernel
theorem q_B_backlog_46 : decode m_B_backlog.2.1 46 = .ok (.ifCond .ne 16, 3) := by decide +kernel
theorem q_B_backlog_49 : decode m_B_backlog.2.1 49 = .ok (.lload_n 2, 1) := by decide +kernel
theorem q_B_backlog_50 : decode m_B_backlog.2.1 50 = .ok (.aload_n 0, 1) := by decide +kernel
theorem q_B_backlog_51 : decode m_B_backlog.2.1 51 = .ok (.getfield 23, 3) := by decide +kernel
theorem q_B_backlog_54 : decode m_B_backlog.2.1 54 = .ok (.iload 4, 2) := by decide +kernel
theorem q_B_backlog_56 : decode m_B_backlog.2.1 56 = .ok (.iload_n 1, 1) := by decide +kernel
theorem q_B_backlog_57 : decode m_B_backlog.2.1 57 = .ok (.invokevirtual 192, 3) := by decide +kernel
theorem q_B_backlog_60 : decode m_B_backlog.2.1 60 = .ok (.ladd, 1) := by decide +kernel
theorem q_B_backlog_61 : decode m_B_backlog.2.1 61 = .ok (.lstore_n 2, 1) := by decide +kernel
theorem q_B_backlog_62 : decode m_B_backlog.2.1 62 = .ok (.iinc 4 1, 3) := by decide +kernel
theorem q_B_backlog_65 : decode m_B_backlog.2.1 65 = .ok (.goto (-45), 3) := by decide +kernel
theorem q_B_backlog_68 : decode m_B_backlog.2.1 68 = .ok (.lload_n 2, 1) := by decide +kernel
theorem q_B_backlog_69 : decode m_B_backlog.2.1 69 = .ok (.lreturn, 1) := by decide +kernel
theorem q_B_rank_0 : decode m_B_rank.2.1 0 = .ok (.iconst 0, 1) := by decide +kernel
theorem q_B_rank_1 : decode m_B_rank.2.1 1 = .ok (.istore_n 2, 1) := by decide +kernel
theorem q_B_rank_2 : decode m_B_rank.2.1 2 = .ok (.iload_n 2, 1) := by decide +kernel
theorem q_B_rank_3 : decode m_B_rank.2.1 3 = .ok (.aload_n 0, 1) := by decide +kernel
theorem q_B_rank_4 : decode m_B_rank.2.1 4 = .ok (.getfield 23, 3) := by decide +kernel
theorem q_B_rank_7 : decode m_B_rank.2.1 7 = .ok (.getfield 54, 3) := by decide +kernel
theorem q_B_rank_10 : decode m_B_rank.2.1 10 = .ok (.if_icmp .ge 20, 3) := by decide +kernel
theorem q_B_rank_13 : decode m_B_rank.2.1 13 = .ok (.aload_n 0, 1) := by decide +kernel
theorem q_B_rank_14 : decode m_B_rank.2.1 14 = .ok (.iload_n 2, 1) := by decide +kernel
theorem q_B_rank_15 : decode m_B_rank.2.1 15 = .ok (.invokevirtual 196, 3) := by decide +kernel
theorem q_B_rank_18 : decode m_B_rank.2.1 18 = .ok (.iload_n 1, 1) := by decide +kernel
theorem q_B_rank_19 : decode m_B_rank.2.1 19 = .ok (.if_icmp .ne 5, 3) := by decide +kernel
theorem q_B_rank_22 : decode m_B_rank.2.1 22 = .ok (.iload_n 2, 1) := by decide +kernel
theorem q_B_rank_23 : decode m_B_rank.2.1 23 = .ok (.ireturn, 1) := by decide +kernel
theorem q_B_rank_24 : decode m_B_rank.2.1 24 = .ok (.iinc 2 1, 3) := by decide +kernel
theorem q_B_rank_27 : decode m_B_rank.2.1 27 = .ok (.goto (-25), 3) := by decide +kernel
theorem q_B_rank_30 : decode m_B_rank.2.1 30 = .ok (.iconst (-1), 1) := by decide +kernel
theorem q_B_rank_31 : decode m_B_rank.2.1 31 = .ok (.ireturn, 1) := by decide +kernel
theorem q_B_share_0 : decode m_B_share.2.1 0 = .ok (.iload_n 1, 1) := by decide +kernel
theorem q_B_share_1 : decode m_B_share.2.1 1 = .ok (.invokestatic 110, 3) := by decide +kernel
theorem q_B_share_4 : decode m_B_share.2.1 4 = .ok (.ifCond .eq 20, 3) := by decide +kernel
theorem q_B_share_7 : decode m_B_share.2.1 7 = .ok (.iload_n 2, 1) := by decide +kernel
theorem q_B_share_8 : decode m_B_share.2.1 8 = .ok (.ifCond .lt 16, 3) := by decide +kernel
theorem q_B_share_11 : decode m_B_share.2.1 11 = .ok (.iload_n 2, 1) := by decide +kernel
theorem q_B_share_12 : decode m_B_share.2.1 12 = .ok (.iconst 1, 1) := by decide +kernel
theorem q_B_share_13 : decode m_B_share.2.1 13 = .ok (.if_icmp .gt 11, 3) := by decide +kernel
theorem q_B_share_16 : decode m_B_share.2.1 16 = .ok (.aload_n 0, 1) := by decide +kernel
theorem q_B_share_17 : decode m_B_share.2.1 17 = .ok (.getfield 50, 3) := by decide +kernel
theorem q_B_share_20 : decode m_B_share.2.1 20 = .ok (.iconst (-1), 1) := by decide +kernel
theorem q_B_share_21 : decode m_B_share.2.1 21 = .ok (.if_icmp .ne 7, 3) := by decide +kernel
theorem q_B_share_24 : decode m_B_share.2.1 24 = .ok (.ldc2_w 119, 3) := by decide +kernel
theorem q_B_share_27 : decode m_B_share.2.1 27 = .ok (.lreturn, 1) := by decide +kernel
theorem q_B_share_28 : decode m_B_share.2.1 28 = .ok (.aload_n 0, 1) := by decide +kernel
theorem q_B_share_29 : decode m_B_share.2.1 29 = .ok (.getfield 23, 3) := by decide +kernel
theorem q_B_share_32 : decode m_B_share.2.1 32 = .ok (.aload_n 0, 1) := by decide +kernel
theorem q_B_share_33 : decode m_B_share.2.1 33 = .ok (.getfield 50, 3) := by decide +kernel
theorem q_B_share_36 : decode m_B_share.2.1 36 = .ok (.invokevirtual 144, 3) := by decide +kernel
theorem q_B_share_39 : decode m_B_share.2.1 39 = .ok (.lstore_n 3, 1) := by decide +kernel
theorem q_B_share_40 : decode m_B_share.2.1 40 = .ok (.aload_n 0, 1) := by decide +kernel
theorem q_B_share_41 : decode m_B_share.2.1 41 = .ok (.getfield 23, 3) := by decide +kernel
theorem q_B_share_44 : decode m_B_share.2.1 44 = .ok (.aload_n 0, 1) := by decide +kernel
theorem q_B_share_45 : decode m_B_share.2.1 45 = .ok (.getfield 50, 3) := by decide +kernel
theorem q_B_share_48 : decode m_B_share.2.1 48 = .ok (.iload_n 1, 1) := by decide +kernel
theorem q_B_share_49 : decode m_B_share.2.1 49 = .ok (.invokevirtual 199, 3) := by decide +kernel
theorem q_B_share_52 : decode m_B_share.2.1 52 = .ok (.lstore 5, 2) := by decide +kernel
theorem q_B_share_54 : decode m_B_share.2.1 54 = .ok (.lload_n 3, 1) := by decide +kernel
theorem q_B_share_55 : decode m_B_share.2.1 55 = .ok (.lload 5, 2) := by decide +kernel
theorem q_B_share_57 : decode m_B_share.2.1 57 = .ok (.invokestatic 202, 3) := by decide +kernel
theorem q_B_share_60 : decode m_B_share.2.1 60 = .ok (.lstore 7, 2) := by decide +kernel
theorem q_B_share_62 : decode m_B_share.2.1 62 = .ok (.lload 7, 2) := by decide +kernel
theorem q_B_share_64 : decode m_B_share.2.1 64 = .ok (.lconst 0, 1) := by decide +kernel
theorem q_B_share_65 : decode m_B_share.2.1 65 = .ok (.lcmp, 1) := by decide +kernel
theorem q_B_share_66 : decode m_B_share.2.1 66 = .ok (.ifCond .ne 6, 3) := by decide +kernel
theorem q_B_share_69 : decode m_B_share.2.1 69 = .ok (.iload_n 2, 1) := by decide +kernel
theorem q_B_share_70 : decode m_B_share.2.1 70 = .ok (.i2l, 1) := by decide +kernel
theorem q_B_share_71 : decode m_B_share.2.1 71 = .ok (.lreturn, 1) := by decide +kernel
theorem q_B_share_72 : decode m_B_share.2.1 72 = .ok (.iload_n 2, 1) := by decide +kernel
theorem q_B_share_73 : decode m_B_share.2.1 73 = .ok (.ifCond .ne 11, 3) := by decide +kernel
theorem q_B_share_76 : decode m_B_share.2.1 76 = .ok (.lload 5, 2) := by decide +kernel
theorem q_B_share_78 : decode m_B_share.2.1 78 = .ok (.lload 7, 2) := by decide +kernel
theorem q_B_share_80 : decode m_B_share.2.1 80 = .ok (.ldiv, 1) := by decide +kernel
theorem q_B_share_81 : decode m_B_share.2.1 81 = .ok (.goto 7, 3) := by decide +kernel
theorem q_B_share_84 : decode m_B_share.2.1 84 = .ok (.lload_n 3, 1) := by decide +kernel
theorem q_B_share_85 : decode m_B_share.2.1 85 = .ok (.lload 7, 2) := by decide +kernel
theorem q_B_share_87 : decode m_B_share.2.1 87 = .ok (.ldiv, 1) := by decide +kernel
theorem q_B_share_88 : decode m_B_share.2.1 88 = .ok (.lreturn, 1) := by decide +kernel
theorem q_B_policy_0 : decode m_B_policy.2.1 0 = .ok (.aload_n 0, 1) := by decide +kernel
theorem q_B_policy_1 : decode m_B_policy.2.1 1 = .ok (.aload_n 0, 1) := by decide +kernel
theorem q_B_policy_2 : decode m_B_policy.2.1 2 = .ok (.getfield 46, 3) := by decide +kernel
theorem q_B_policy_5 : decode m_B_policy.2.1 5 = .ok (.iload_n 1, 1) := by decide +kernel
theorem q_B_policy_6 : decode m_B_policy.2.1 6 = .ok (.invokevirtual 206, 3) := by decide +kernel
theorem q_B_policy_9 : decode m_B_policy.2.1 9 = .ok (.putfield 50, 3) := by decide +kernel
theorem q_B_policy_12 : decode m_B_policy.2.1 12 = .ok (.aload_n 0, 1) := by decide +kernel
theorem q_B_policy_13 : decode m_B_policy.2.1 13 = .ok (.getfield 50, 3) := by decide +kernel
theorem q_B_policy_16 : decode m_B_policy.2.1 16 = .ok (.iconst (-1), 1) := by decide +kernel
theorem q_B_policy_17 : decode m_B_policy.2.1 17 = .ok (.if_icmp .ne 7, 3) := by decide +kernel
theorem q_B_policy_20 : decode m_B_policy.2.1 20 = .ok (.iconst (-1), 1) := by decide +kernel
theorem q_B_policy_21 : decode m_B_policy.2.1 21 = .ok (.goto 15, 3) := by decide +kernel
theorem q_B_policy_24 : decode m_B_policy.2.1 24 = .ok (.aload_n 0, 1) := by decide +kernel
theorem q_B_policy_25 : decode m_B_policy.2.1 25 = .ok (.getfield 23, 3) := by decide +kernel
theorem q_B_policy_28 : decode m_B_policy.2.1 28 = .ok (.aload_n 0, 1) := by decide +kernel
theorem q_B_policy_29 : decode m_B_policy.2.1 29 = .ok (.getfield 50, 3) := by decide +kernel
theorem q_B_policy_32 : decode m_B_policy.2.1 32 = .ok (.invokevirtual 144, 3) := by decide +kernel
theorem q_B_policy_35 : decode m_B_policy.2.1 35 = .ok (.l2i, 1) := by decide +kernel
theorem q_B_policy_36 : decode m_B_policy.2.1 36 = .ok (.ireturn, 1) := by decide +kernel
theorem q_B_compare_0 : decode m_B_compare.2.1 0 = .ok (.aload_n 0, 1) := by decide +kernel
theorem q_B_compare_1 : decode m_B_compare.2.1 1 = .ok (.getfield 46, 3) := by decide +kernel
theorem q_B_compare_4 : decode m_B_compare.2.1 4 = .ok (.iload_n 1, 1) := by decide +kernel
theorem q_B_compare_5 : decode m_B_compare.2.1 5 = .ok (.invokevirtual 206, 3) := by decide +kernel
theorem q_B_compare_8 : decode m_B_compare.2.1 8 = .ok (.istore_n 3, 1) := by decide +kernel
theorem q_B_compare_9 : decode m_B_compare.2.1 9 = .ok (.aload_n 0, 1) := by decide +kernel
theorem q_B_compare_10 : decode m_B_compare.2.1 10 = .ok (.getfield 46, 3) := by decide +kernel
theorem q_B_compare_13 : decode m_B_compare.2.1 13 = .ok (.iload_n 2, 1) := by decide +kernel
theorem q_B_compare_14 : decode m_B_compare.2.1 14 = .ok (.invokevirtual 206, 3) := by decide +kernel
theorem q_B_compare_17 : decode m_B_compare.2.1 17 = .ok (.istore 4, 2) := by decide +kernel
theorem q_B_compare_19 : decode m_B_compare.2.1 19 = .ok (.iload_n 3, 1) := by decide +kernel
theorem q_B_compare_20 : decode m_B_compare.2.1 20 = .ok (.iconst (-1), 1) := by decide +kernel
theorem q_B_compare_21 : decode m_B_compare.2.1 21 = .ok (.if_icmp .eq 9, 3) := by decide +kernel
theorem q_B_compare_24 : decode m_B_compare.2.1 24 = .ok (.iload 4, 2) := by decide +kernel
theorem q_B_compare_26 : decode m_B_compare.2.1 26 = .ok (.iconst (-1), 1) := by decide +kernel
theorem q_B_compare_27 : decode m_B_compare.2.1 27 = .ok (.if_icmp .ne 7, 3) := by decide +kernel
theorem q_B_compare_30 : decode m_B_compare.2.1 30 = .ok (.ldc2_w 119, 3) := by decide +kernel
theorem q_B_compare_33 : decode m_B_compare.2.1 33 = .ok (.lreturn, 1) := by decide +kernel
theorem q_B_compare_34 : decode m_B_compare.2.1 34 = .ok (.aload_n 0, 1) := by decide +kernel
theorem q_B_compare_35 : decode m_B_compare.2.1 35 = .ok (.getfield 23, 3) := by decide +kernel
theorem q_B_compare_38 : decode m_B_compare.2.1 38 = .ok (.iload_n 3, 1) := by decide +kernel
theorem q_B_compare_39 : decode m_B_compare.2.1 39 = .ok (.invokevirtual 144, 3) := by decide +kernel
theorem q_B_compare_42 : decode m_B_compare.2.1 42 = .ok (.aload_n 0, 1) := by decide +kernel
theorem q_B_compare_43 : decode m_B_compare.2.1 43 = .ok (.getfield 23, 3) := by decide +kernel
theorem q_B_compare_46 : decode m_B_compare.2.1 46 = .ok (.iload 4, 2) := by decide +kernel
theorem q_B_compare_48 : decode m_B_compare.2.1 48 = .ok (.invokevirtual 144, 3) := by decide +kernel
theorem q_B_compare_51 : decode m_B_compare.2.1 51 = .ok (.lsub, 1) := by decide +kernel
theorem q_B_compare_52 : decode m_B_compare.2.1 52 = .ok (.lreturn, 1) := by decide +kernel
theorem q_B_list_0 : decode m_B_list.2.1 0 = .ok (.iload_n 1, 1) := by decide +kernel
theorem q_B_list_1 : decode m_B_list.2.1 1 = .ok (.invokestatic 110, 3) := by decide +kernel
theorem q_B_list_4 : decode m_B_list.2.1 4 = .ok (.ifCond .eq 7, 3) := by decide +kernel
theorem q_B_list_7 : decode m_B_list.2.1 7 = .ok (.iload_n 2, 1) := by decide +kernel
theorem q_B_list_8 : decode m_B_list.2.1 8 = .ok (.ifCond .ge 5, 3) := by decide +kernel
theorem q_B_list_11 : decode m_B_list.2.1 11 = .ok (.iconst (-1), 1) := by decide +kernel
theorem q_B_list_12 : decode m_B_list.2.1 12 = .ok (.ireturn, 1) := by decide +kernel
theorem q_B_list_13 : decode m_B_list.2.1 13 = .ok (.iload_n 2, 1) := by decide +kernel
theorem q_B_list_14 : decode m_B_list.2.1 14 = .ok (.istore_n 3, 1) := by decide +kernel
theorem q_B_list_15 : decode m_B_list.2.1 15 = .ok (.iconst 0, 1) := by decide +kernel
theorem q_B_list_16 : decode m_B_list.2.1 16 = .ok (.istore 4, 2) := by decide +kernel
theorem q_B_list_18 : decode m_B_list.2.1 18 = .ok (.iload 4, 2) := by decide +kernel
theorem q_B_list_20 : decode m_B_list.2.1 20 = .ok (.aload_n 0, 1) := by decide +kernel
theorem q_B_list_21 : decode m_B_list.2.1 21 = .ok (.getfield 23, 3) := by decide +kernel
theorem q_B_list_24 : decode m_B_list.2.1 24 = .ok (.getfield 209, 3) := by decide +kernel
theorem q_B_list_27 : decode m_B_list.2.1 27 = .ok (.if_icmp .ge 50, 3) := by decide +kernel
theorem q_B_list_30 : decode m_B_list.2.1 30 = .ok (.aload_n 0, 1) := by decide +kernel
theorem q_B_list_31 : decode m_B_list.2.1 31 = .ok (.getfield 23, 3) := by decide +kernel
theorem q_B_list_34 : decode m_B_list.2.1 34 = .ok (.aload_n 0, 1) := by decide +kernel
theorem q_B_list_35 : decode m_B_list.2.1 35 = .ok (.invokevirtual 141, 3) := by decide +kernel
theorem q_B_list_38 : decode m_B_list.2.1 38 = .ok (.iload_n 1, 1) := by decide +kernel
theorem q_B_list_39 : decode m_B_list.2.1 39 = .ok (.iload 4, 2) := by decide +kernel
theorem q_B_list_41 : decode m_B_list.2.1 41 = .ok (.invokevirtual 212, 3) := by decide +kernel
theorem q_B_list_44 : decode m_B_list.2.1 44 = .ok (.istore 5, 2) := by decide +kernel
theorem q_B_list_46 : decode m_B_list.2.1 46 = .ok (.iload 5, 2) := by decide +kernel
theorem q_B_list_48 : decode m_B_list.2.1 48 = .ok (.invokestatic 183, 3) := by decide +kernel
theorem q_B_list_51 : decode m_B_list.2.1 51 = .ok (.istore 6, 2) := by decide +kernel
theorem q_B_list_53 : decode m_B_list.2.1 53 = .ok (.iload_n 3, 1) := by decide +kernel
theorem q_B_list_54 : decode m_B_list.2.1 54 = .ok (.iload 6, 2) := by decide +kernel
theorem q_B_list_56 : decode m_B_list.2.1 56 = .ok (.if_icmp .ge 10, 3) := by decide +kernel
theorem q_B_list_59 : decode m_B_list.2.1 59 = .ok (.iload 5, 2) := by decide +kernel
theorem q_B_list_61 : decode m_B_list.2.1 61 = .ok (.iload_n 3, 1) := by decide +kernel
theorem q_B_list_62 : decode m_B_list.2.1 62 = .ok (.invokestatic 168, 3) := by decide +kernel
theorem q_B_list_65 : decode m_B_list.2.1 65 = .ok (.ireturn, 1) := by decide +kernel
theorem q_B_list_66 : decode m_B_list.2.1 66 = .ok (.iload_n 3, 1) := by decide +kernel
theorem q_B_list_67 : decode m_B_list.2.1 67 = .ok (.iload 6, 2) := by decide +kernel
theorem q_B_list_69 : decode m_B_list.2.1 69 = .ok (.isub, 1) := by decide +kernel
theorem q_B_list_70 : decode m_B_list.2.1 70 = .ok (.istore_n 3, 1) := by decide +kernel
theorem q_B_list_71 : decode m_B_list.2.1 71 = .ok (.iinc 4 1, 3) := by decide +kernel
theorem q_B_list_74 : decode m_B_list.2.1 74 = .ok (.goto (-56), 3) := by decide +kernel
theorem q_B_list_77 : decode m_B_list.2.1 77 = .ok (.iconst (-1), 1) := by decide +kernel
theorem q_B_list_78 : decode m_B_list.2.1 78 = .ok (.ireturn, 1) := by decide +kernel
theorem q_B_earlier_0 : decode m_B_earlier.2.1 0 = .ok (.aload_n 0, 1) := by decide +kernel
theorem q_B_earlier_1 : decode m_B_earlier.2.1 1 = .ok (.getfield 23, 3) := by decide +kernel
theorem q_B_earlier_4 : decode m_B_earlier.2.1 4 = .ok (.iload_n 1, 1) := by decide +kernel
theorem q_B_earlier_5 : decode m_B_earlier.2.1 5 = .ok (.invokevirtual 68, 3) := by decide +kernel
theorem q_B_earlier_8 : decode m_B_earlier.2.1 8 = .ok (.ifCond .eq 11, 3) := by decide +kernel
theorem q_B_earlier_11 : decode m_B_earlier.2.1 11 = .ok (.aload_n 0, 1) := by decide +kernel
theorem q_B_earlier_12 : decode m_B_earlier.2.1 12 = .ok (.getfield 50, 3) := by decide +kernel
theorem q_B_earlier_15 : decode m_B_earlier.2.1 15 = .ok (.iconst (-1), 1) := by decide +kernel
theorem q_B_earlier_16 : decode m_B_earlier.2.1 16 = .ok (.if_icmp .ne 5, 3) := by decide +kernel
theorem q_B_earlier_19 : decode m_B_earlier.2.1 19 = .ok (.iconst (-1), 1) := by decide +kernel
theorem q_B_earlier_20 : decode m_B_earlier.2.1 20 = .ok (.ireturn, 1) := by decide +kernel
theorem q_B_earlier_21 : decode m_B_earlier.2.1 21 = .ok (.iconst 0, 1) := by decide +kernel
theorem q_B_earlier_22 : decode m_B_earlier.2.1 22 = .ok (.istore_n 2, 1) := by decide +kernel
theorem q_B_earlier_23 : decode m_B_earlier.2.1 23 = .ok (.iconst 0, 1) := by decide +kernel
theorem q_B_earlier_24 : decode m_B_earlier.2.1 24 = .ok (.istore_n 3, 1) := by decide +kernel
theorem q_B_earlier_25 : decode m_B_earlier.2.1 25 = .ok (.iload_n 3, 1) := by decide +kernel
theorem q_B_earlier_26 : decode m_B_earlier.2.1 26 = .ok (.aload_n 0, 1) := by decide +kernel
theorem q_B_earlier_27 : decode m_B_earlier.2.1 27 = .ok (.getfield 23, 3) := by decide +kernel
theorem q_B_earlier_30 : decode m_B_earlier.2.1 30 = .ok (.getfield 71, 3) := by decide +kernel
theorem q_B_earlier_33 : decode m_B_earlier.2.1 33 = .ok (.if_icmp .ge 36, 3) := by decide +kernel
theorem q_B_earlier_36 : decode m_B_earlier.2.1 36 = .ok (.aload_n 0, 1) := by decide +kernel
theorem q_B_earlier_37 : decode m_B_earlier.2.1 37 = .ok (.getfield 50, 3) := by decide +kernel
theorem q_B_earlier_40 : decode m_B_earlier.2.1 40 = .ok (.iload_n 3, 1) := by decide +kernel
theorem q_B_earlier_41 : decode m_B_earlier.2.1 41 = .ok (.invokestatic 90, 3) := by decide +kernel
theorem q_B_earlier_44 : decode m_B_earlier.2.1 44 = .ok (.ifCond .eq 19, 3) := by decide +kernel
theorem q_B_earlier_47 : decode m_B_earlier.2.1 47 = .ok (.aload_n 0, 1) := by decide +kernel
theorem q_B_earlier_48 : decode m_B_earlier.2.1 48 = .ok (.getfield 23, 3) := by decide +kernel
theorem q_B_earlier_51 : decode m_B_earlier.2.1 51 = .ok (.getfield 216, 3) := by decide +kernel
theorem q_B_earlier_54 : decode m_B_earlier.2.1 54 = .ok (.iload_n 3, 1) := by decide +kernel
theorem q_B_earlier_55 : decode m_B_earlier.2.1 55 = .ok (.iaload, 1) := by decide +kernel
theorem q_B_earlier_56 : decode m_B_earlier.2.1 56 = .ok (.iload_n 1, 1) := by decide +kernel
theorem q_B_earlier_57 : decode m_B_earlier.2.1 57 = .ok (.if_icmp .ge 6, 3) := by decide +kernel
theorem q_B_earlier_60 : decode m_B_earlier.2.1 60 = .ok (.iinc 2 1, 3) := by decide +kernel
theorem q_B_earlier_63 : decode m_B_earlier.2.1 63 = .ok (.iinc 3 1, 3) := by decide +kernel
theorem q_B_earlier_66 : decode m_B_earlier.2.1 66 = .ok (.goto (-41), 3) := by decide +kernel
theorem q_B_earlier_69 : decode m_B_earlier.2.1 69 = .ok (.iload_n 2, 1) := by decide +kernel
theorem q_B_earlier_70 : decode m_B_earlier.2.1 70 = .ok (.ireturn, 1) := by decide +kernel
theorem q_B_holds_0 : decode m_B_holds.2.1 0 = .ok (.aload_n 0, 1) := by decide +kernel
theorem q_B_holds_1 : decode m_B_holds.2.1 1 = .ok (.getfield 23, 3) := by decide +kernel
theorem q_B_holds_4 : decode m_B_holds.2.1 4 = .ok (.iload_n 1, 1) := by decide +kernel
theorem q_B_holds_5 : decode m_B_holds.2.1 5 = .ok (.invokevirtual 68, 3) := by decide +kernel
theorem q_B_holds_8 : decode m_B_holds.2.1 8 = .ok (.ifCond .eq 30, 3) := by decide +kernel
theorem q_B_holds_11 : decode m_B_holds.2.1 11 = .ok (.aload_n 0, 1) := by decide +kernel
theorem q_B_holds_12 : decode m_B_holds.2.1 12 = .ok (.getfield 50, 3) := by decide +kernel
theorem q_B_holds_15 : decode m_B_holds.2.1 15 = .ok (.iconst (-1), 1) := by decide +kernel
theorem q_B_holds_16 : decode m_B_holds.2.1 16 = .ok (.if_icmp .eq 22, 3) := by decide +kernel
theorem q_B_holds_19 : decode m_B_holds.2.1 19 = .ok (.aload_n 0, 1) := by decide +kernel
theorem q_B_holds_20 : decode m_B_holds.2.1 20 = .ok (.getfield 23, 3) := by decide +kernel
theorem q_B_holds_23 : decode m_B_holds.2.1 23 = .ok (.aload_n 0, 1) := by decide +kernel
theorem q_B_holds_24 : decode m_B_holds.2.1 24 = .ok (.getfield 50, 3) := by decide +kernel
theorem q_B_holds_27 : decode m_B_holds.2.1 27 = .ok (.iload_n 1, 1) := by decide +kernel
theorem q_B_holds_28 : decode m_B_holds.2.1 28 = .ok (.invokevirtual 219, 3) := by decide +kernel
theorem q_B_holds_31 : decode m_B_holds.2.1 31 = .ok (.ifCond .eq 7, 3) := by decide +kernel
theorem q_B_holds_34 : decode m_B_holds.2.1 34 = .ok (.iconst 1, 1) := by decide +kernel
theorem q_B_holds_35 : decode m_B_holds.2.1 35 = .ok (.goto 4, 3) := by decide +kernel
theorem q_B_holds_38 : decode m_B_holds.2.1 38 = .ok (.iconst 0, 1) := by decide +kernel
theorem q_B_holds_39 : decode m_B_holds.2.1 39 = .ok (.ireturn, 1) := by decide +kernel
theorem q_B_forget_0 : decode m_B_forget.2.1 0 = .ok (.aload_n 0, 1) := by decide +kernel
theorem q_B_forget_1 : decode m_B_forget.2.1 1 = .ok (.iconst (-1), 1) := by decide +kernel
theorem q_B_forget_2 : decode m_B_forget.2.1 2 = .ok (.putfield 50, 3) := by decide +kernel
theorem q_B_forget_5 : decode m_B_forget.2.1 5 = .ok (.aload_n 0, 1) := by decide +kernel
theorem q_B_forget_6 : decode m_B_forget.2.1 6 = .ok (.iconst 0, 1) := by decide +kernel
theorem q_B_forget_7 : decode m_B_forget.2.1 7 = .ok (.putfield 137, 3) := by decide +kernel
theorem q_B_forget_10 : decode m_B_forget.2.1 10 = .ok (.aload_n 0, 1) := by decide +kernel
theorem q_B_forget_11 : decode m_B_forget.2.1 11 = .ok (.iconst 0, 1) := by decide +kernel
theorem q_B_forget_12 : decode m_B_forget.2.1 12 = .ok (.putfield 222, 3) := by decide +kernel
theorem q_B_forget_15 : decode m_B_forget.2.1 15 = .ok (.aload_n 0, 1) := by decide +kernel
theorem q_B_forget_16 : decode m_B_forget.2.1 16 = .ok (.iconst 0, 1) := by decide +kernel
theorem q_B_forget_17 : decode m_B_forget.2.1 17 = .ok (.putfield 156, 3) := by decide +kernel
theorem q_B_forget_20 : decode m_B_forget.2.1 20 = .ok (.return_, 1) := by decide +kernel
theorem q_B_planOrNothing_0 : decode m_B_planOrNothing.2.1 0 = .ok (.aload_n 0, 1) := by decide +kernel
theorem q_B_planOrNothing_1 : decode m_B_planOrNothing.2.1 1 = .ok (.getfield 50, 3) := by decide +kernel
theorem q_B_planOrNothing_4 : decode m_B_planOrNothing.2.1 4 = .ok (.iconst (-1), 1) := by decide +kernel
theorem q_B_planOrNothing_5 : decode m_B_planOrNothing.2.1 5 = .ok (.if_icmp .ne 7, 3) := by decide +kernel
theorem q_B_planOrNothing_8 : decode m_B_planOrNothing.2.1 8 = .ok (.iconst 0, 1) := by decide +kernel
theorem q_B_planOrNothing_9 : decode m_B_planOrNothing.2.1 9 = .ok (.goto 7, 3) := by decide +kernel
theorem q_B_planOrNothing_12 : decode m_B_planOrNothing.2.1 12 = .ok (.aload_n 0, 1) := by decide +kernel
theorem q_B_planOrNothing_13 : decode m_B_planOrNothing.2.1 13 = .ok (.getfield 50, 3) := by decide +kernel
theorem q_B_planOrNothing_16 : decode m_B_planOrNothing.2.1 16 = .ok (.ireturn, 1) := by decide +kernel
theorem q_B_gainOfBest_0 : decode m_B_gainOfBest.2.1 0 = .ok (.aload_n 0, 1) := by decide +kernel
theorem q_B_gainOfBest_1 : decode m_B_gainOfBest.2.1 1 = .ok (.getfield 222, 3) := by decide +kernel
theorem q_B_gainOfBest_4 : decode m_B_gainOfBest.2.1 4 = .ok (.ifCond .ne 22, 3) := by decide +kernel
theorem q_B_gainOfBest_7 : decode m_B_gainOfBest.2.1 7 = .ok (.aload_n 0, 1) := by decide +kernel
theorem q_B_gainOfBest_8 : decode m_B_gainOfBest.2.1 8 = .ok (.aload_n 0, 1) := by decide +kernel
theorem q_B_gainOfBest_9 : decode m_B_gainOfBest.2.1 9 = .ok (.getfield 32, 3) := by decide +kernel
theorem q_B_gainOfBest_12 : decode m_B_gainOfBest.2.1 12 = .ok (.ldc2_w 225, 3) := by decide +kernel
theorem q_B_gainOfBest_15 : decode m_B_gainOfBest.2.1 15 = .ok (.invokevirtual 129, 3) := by decide +kernel
theorem q_B_gainOfBest_18 : decode m_B_gainOfBest.2.1 18 = .ok (.putfield 227, 3) := by decide +kernel
theorem q_B_gainOfBest_21 : decode m_B_gainOfBest.2.1 21 = .ok (.aload_n 0, 1) := by decide +kernel
theorem q_B_gainOfBest_22 : decode m_B_gainOfBest.2.1 22 = .ok (.iconst 1, 1) := by decide +kernel
theorem q_B_gainOfBest_23 : decode m_B_gainOfBest.2.1 23 = .ok (.putfield 222, 3) := by decide +kernel
theorem q_B_gainOfBest_26 : decode m_B_gainOfBest.2.1 26 = .ok (.aload_n 0, 1) := by decide +kernel
theorem q_B_gainOfBest_27 : decode m_B_gainOfBest.2.1 27 = .ok (.getfield 227, 3) := by decide +kernel
theorem q_B_gainOfBest_30 : decode m_B_gainOfBest.2.1 30 = .ok (.iconst (-1), 1) := by decide +kernel
theorem q_B_gainOfBest_31 : decode m_B_gainOfBest.2.1 31 = .ok (.if_icmp .ne 7, 3) := by decide +kernel
theorem q_B_gainOfBest_34 : decode m_B_gainOfBest.2.1 34 = .ok (.ldc2_w 119, 3) := by decide +kernel
theorem q_B_gainOfBest_37 : decode m_B_gainOfBest.2.1 37 = .ok (.lreturn, 1) := by decide +kernel
theorem q_B_gainOfBest_38 : decode m_B_gainOfBest.2.1 38 = .ok (.aload_n 0, 1) := by decide +kernel
theorem q_B_gainOfBest_39 : decode m_B_gainOfBest.2.1 39 = .ok (.getfield 32, 3) := by decide +kernel
theorem q_B_gainOfBest_42 : decode m_B_gainOfBest.2.1 42 = .ok (.iload_n 1, 1) := by decide +kernel
theorem q_B_gainOfBest_43 : decode m_B_gainOfBest.2.1 43 = .ok (.ldc2_w 174, 3) := by decide +kernel
theorem q_B_gainOfBest_46 : decode m_B_gainOfBest.2.1 46 = .ok (.invokevirtual 230, 3) := by decide +kernel
theorem q_B_gainOfBest_49 : decode m_B_gainOfBest.2.1 49 = .ok (.istore_n 2, 1) := by decide +kernel
theorem q_B_gainOfBest_50 : decode m_B_gainOfBest.2.1 50 = .ok (.aload_n 0, 1) := by decide +kernel
theorem q_B_gainOfBest_51 : decode m_B_gainOfBest.2.1 51 = .ok (.getfield 23, 3) := by decide +kernel
theorem q_B_gainOfBest_54 : decode m_B_gainOfBest.2.1 54 = .ok (.iload_n 2, 1) := by decide +kernel
theorem q_B_gainOfBest_55 : decode m_B_gainOfBest.2.1 55 = .ok (.invokevirtual 144, 3) := by decide +kernel
theorem q_B_gainOfBest_58 : decode m_B_gainOfBest.2.1 58 = .ok (.aload_n 0, 1) := by decide +kernel
theorem q_B_gainOfBest_59 : decode m_B_gainOfBest.2.1 59 = .ok (.getfield 23, 3) := by decide +kernel
theorem q_B_gainOfBest_62 : decode m_B_gainOfBest.2.1 62 = .ok (.aload_n 0, 1) := by decide +kernel
theorem q_B_gainOfBest_63 : decode m_B_gainOfBest.2.1 63 = .ok (.getfield 227, 3) := by decide +kernel
theorem q_B_gainOfBest_66 : decode m_B_gainOfBest.2.1 66 = .ok (.invokevirtual 144, 3) := by decide +kernel
theorem q_B_gainOfBest_69 : decode m_B_gainOfBest.2.1 69 = .ok (.lsub, 1) := by decide +kernel
theorem q_B_gainOfBest_70 : decode m_B_gainOfBest.2.1 70 = .ok (.lreturn, 1) := by decide +kernel
theorem q_B_clashingMusts_0 : decode m_B_clashingMusts.2.1 0 = .ok (.aload_n 0, 1) := by decide +kernel
theorem q_B_clashingMusts_1 : decode m_B_clashingMusts.2.1 1 = .ok (.getfield 23, 3) := by decide +kernel
theorem q_B_clashingMusts_4 : decode m_B_clashingMusts.2.1 4 = .ok (.getfield 87, 3) := by decide +kernel
theorem q_B_clashingMusts_7 : decode m_B_clashingMusts.2.1 7 = .ok (.istore_n 1, 1) := by decide +kernel
theorem q_B_clashingMusts_8 : decode m_B_clashingMusts.2.1 8 = .ok (.iconst 0, 1) := by decide +kernel
theorem q_B_clashingMusts_9 : decode m_B_clashingMusts.2.1 9 = .ok (.istore_n 2, 1) := by decide +kernel
theorem q_B_clashingMusts_10 : decode m_B_clashingMusts.2.1 10 = .ok (.iload_n 2, 1) := by decide +kernel
theorem q_B_clashingMusts_11 : decode m_B_clashingMusts.2.1 11 = .ok (.aload_n 0, 1) := by decide +kernel
theorem q_B_clashingMusts_12 : decode m_B_clashingMusts.2.1 12 = .ok (.getfield 23, 3) := by decide +kernel
theorem q_B_clashingMusts_15 : decode m_B_clashingMusts.2.1 15 = .ok (.getfield 71, 3) := by decide +kernel
theorem q_B_clashingMusts_18 : decode m_B_clashingMusts.2.1 18 = .ok (.if_icmp .ge 35, 3) := by decide +kernel
theorem q_B_clashingMusts_21 : decode m_B_clashingMusts.2.1 21 = .ok (.iload_n 1, 1) := by decide +kernel
theorem q_B_clashingMusts_22 : decode m_B_clashingMusts.2.1 22 = .ok (.iconst 1, 1) := by decide +kernel
theorem q_B_clashingMusts_23 : decode m_B_clashingMusts.2.1 23 = .ok (.iload_n 2, 1) := by decide +kernel
theorem q_B_clashingMusts_24 : decode m_B_clashingMusts.2.1 24 = .ok (.ishl, 1) := by decide +kernel
theorem q_B_clashingMusts_25 : decode m_B_clashingMusts.2.1 25 = .ok (.iconst (-1), 1) := by decide +kernel
theorem q_B_clashingMusts_26 : decode m_B_clashingMusts.2.1 26 = .ok (.ixor, 1) := by decide +kernel
theorem q_B_clashingMusts_27 : decode m_B_clashingMusts.2.1 27 = .ok (.iand, 1) := by decide +kernel
theorem q_B_clashingMusts_28 : decode m_B_clashingMusts.2.1 28 = .ok (.istore_n 3, 1) := by decide +kernel
theorem q_B_clashingMusts_29 : decode m_B_clashingMusts.2.1 29 = .ok (.iload_n 3, 1) := by decide +kernel
theorem q_B_clashingMusts_30 : decode m_B_clashingMusts.2.1 30 = .ok (.iload_n 1, 1) := by decide +kernel
theorem q_B_clashingMusts_31 : decode m_B_clashingMusts.2.1 31 = .ok (.if_icmp .eq 16, 3) := by decide +kernel
theorem q_B_clashingMusts_34 : decode m_B_clashingMusts.2.1 34 = .ok (.aload_n 0, 1) := by decide +kernel
theorem q_B_clashingMusts_35 : decode m_B_clashingMusts.2.1 35 = .ok (.getfield 32, 3) := by decide +kernel
theorem q_B_clashingMusts_38 : decode m_B_clashingMusts.2.1 38 = .ok (.iload_n 3, 1) := by decide +kernel
theorem q_B_clashingMusts_39 : decode m_B_clashingMusts.2.1 39 = .ok (.invokevirtual 159, 3) := by decide +kernel
theorem q_B_clashingMusts_42 : decode m_B_clashingMusts.2.1 42 = .ok (.ifCond .ne 5, 3) := by decide +kernel
theorem q_B_clashingMusts_45 : decode m_B_clashingMusts.2.1 45 = .ok (.iload_n 3, 1) := by decide +kernel
theorem q_B_clashingMusts_46 : decode m_B_clashingMusts.2.1 46 = .ok (.istore_n 1, 1) := by decide +kernel
theorem q_B_clashingMusts_47 : decode m_B_clashingMusts.2.1 47 = .ok (.iinc 2 1, 3) := by decide +kernel
theorem q_B_clashingMusts_50 : decode m_B_clashingMusts.2.1 50 = .ok (.goto (-40), 3) := by decide +kernel
theorem q_B_clashingMusts_53 : decode m_B_clashingMusts.2.1 53 = .ok (.iload_n 1, 1) := by decide +kernel
theorem q_B_clashingMusts_54 : decode m_B_clashingMusts.2.1 54 = .ok (.ireturn, 1) := by decide +kernel
theorem q_B_countOfThingsBefore_0 : decode m_B_countOfThingsBefore.2.1 0 = .ok (.iconst 0, 1) := by decide +kernel
theorem q_B_countOfThingsBefore_1 : decode m_B_countOfThingsBefore.2.1 1 = .ok (.istore_n 2, 1) := by decide +kernel
theorem q_B_countOfThingsBefore_2 : decode m_B_countOfThingsBefore.2.1 2 = .ok (.iconst 0, 1) := by decide +kernel
theorem q_B_countOfThingsBefore_3 : decode m_B_countOfThingsBefore.2.1 3 = .ok (.istore_n 3, 1) := by decide +kernel
theorem q_B_countOfThingsBefore_4 : decode m_B_countOfThingsBefore.2.1 4 = .ok (.iload_n 3, 1) := by decide +kernel
theorem q_B_countOfThingsBefore_5 : decode m_B_countOfThingsBefore.2.1 5 = .ok (.aload_n 0, 1) := by decide +kernel
theorem q_B_countOfThingsBefore_6 : decode m_B_countOfThingsBefore.2.1 6 = .ok (.getfield 23, 3) := by decide +kernel
theorem q_B_countOfThingsBefore_9 : decode m_B_countOfThingsBefore.2.1 9 = .ok (.getfield 54, 3) := by decide +kernel
theorem q_B_countOfThingsBefore_12 : decode m_B_countOfThingsBefore.2.1 12 = .ok (.if_icmp .ge 24, 3) := by decide +kernel
theorem q_B_countOfThingsBefore_15 : decode m_B_countOfThingsBefore.2.1 15 = .ok (.aload_n 0, 1) := by decide +kernel
theorem q_B_countOfThingsBefore_16 : decode m_B_countOfThingsBefore.2.1 16 = .ok (.getfield 23, 3) := by decide +kernel
theorem q_B_countOfThingsBefore_19 : decode m_B_countOfThingsBefore.2.1 19 = .ok (.iload_n 3, 1) := by decide +kernel
theorem q_B_countOfThingsBefore_20 : decode m_B_countOfThingsBefore.2.1 20 = .ok (.iload_n 1, 1) := by decide +kernel
theorem q_B_countOfThingsBefore_21 : decode m_B_countOfThingsBefore.2.1 21 = .ok (.invokevirtual 234, 3) := by decide +kernel
theorem q_B_countOfThingsBefore_24 : decode m_B_countOfThingsBefore.2.1 24 = .ok (.ifCond .eq 6, 3) := by decide +kernel
theorem q_B_countOfThingsBefore_27 : decode m_B_countOfThingsBefore.2.1 27 = .ok (.iinc 2 1, 3) := by decide +kernel
theorem q_B_countOfThingsBefore_30 : decode m_B_countOfThingsBefore.2.1 30 = .ok (.iinc 3 1, 3) := by decide +kernel
theorem q_B_countOfThingsBefore_33 : decode m_B_countOfThingsBefore.2.1 33 = .ok (.goto (-29), 3) := by decide +kernel
theorem q_B_countOfThingsBefore_36 : decode m_B_countOfThingsBefore.2.1 36 = .ok (.iload_n 2, 1) := by decide +kernel
theorem q_B_countOfThingsBefore_37 : decode m_B_countOfThingsBefore.2.1 37 = .ok (.ireturn, 1) := by decide +kernel
theorem q_B_isWithin_0 : decode m_B_isWithin.2.1 0 = .ok (.lload_n 0, 1) := by decide +kernel
theorem q_B_isWithin_1 : decode m_B_isWithin.2.1 1 = .ok (.lconst 0, 1) := by decide +kernel
theorem q_B_isWithin_2 : decode m_B_isWithin.2.1 2 = .ok (.lcmp, 1) := by decide +kernel
theorem q_B_isWithin_3 : decode m_B_isWithin.2.1 3 = .ok (.ifCond .lt 13, 3) := by decide +kernel
theorem q_B_isWithin_6 : decode m_B_isWithin.2.1 6 = .ok (.lload_n 0, 1) := by decide +kernel
theorem q_B_isWithin_7 : decode m_B_isWithin.2.1 7 = .ok (.lload_n 2, 1) := by decide +kernel
theorem q_B_isWithin_8 : decode m_B_isWithin.2.1 8 = .ok (.lcmp, 1) := by decide +kernel
theorem q_B_isWithin_9 : decode m_B_isWithin.2.1 9 = .ok (.ifCond .gt 7, 3) := by decide +kernel
theorem q_B_isWithin_12 : decode m_B_isWithin.2.1 12 = .ok (.iconst 1, 1) := by decide +kernel
theorem q_B_isWithin_13 : decode m_B_isWithin.2.1 13 = .ok (.goto 4, 3) := by decide +kernel
theorem q_B_isWithin_16 : decode m_B_isWithin.2.1 16 = .ok (.iconst 0, 1) := by decide +kernel
theorem q_B_isWithin_17 : decode m_B_isWithin.2.1 17 = .ok (.ireturn, 1) := by decide +kernel
theorem q_B_isDistrict_0 : decode m_B_isDistrict.2.1 0 = .ok (.iload_n 0, 1) := by decide +kernel
theorem q_B_isDistrict_1 : decode m_B_isDistrict.2.1 1 = .ok (.ifCond .lt 12, 3) := by decide +kernel
theorem q_B_isDistrict_4 : decode m_B_isDistrict.2.1 4 = .ok (.iload_n 0, 1) := by decide +kernel
theorem q_B_isDistrict_5 : decode m_B_isDistrict.2.1 5 = .ok (.iconst 4, 1) := by decide +kernel
theorem q_B_isDistrict_6 : decode m_B_isDistrict.2.1 6 = .ok (.if_icmp .ge 7, 3) := by decide +kernel
theorem q_B_isDistrict_9 : decode m_B_isDistrict.2.1 9 = .ok (.iconst 1, 1) := by decide +kernel
theorem q_B_isDistrict_10 : decode m_B_isDistrict.2.1 10 = .ok (.goto 4, 3) := by decide +kernel
theorem q_B_isDistrict_13 : decode m_B_isDistrict.2.1 13 = .ok (.iconst 0, 1) := by decide +kernel
theorem q_B_isDistrict_14 : decode m_B_isDistrict.2.1 14 = .ok (.ireturn, 1) := by decide +kernel
end
section
theorem q_B_isNodes_0 : decode m_B_isNodes.2.1 0 = .ok (.lload_n 0, 1) := by decide +kernel
theorem q_B_isNodes_1 : decode m_B_isNodes.2.1 1 = .ok (.lconst 1, 1) := by decide +kernel
theorem q_B_isNodes_2 : decode m_B_isNodes.2.1 2 = .ok (.lcmp, 1) := by decide +kernel
theorem q_B_isNodes_3 : decode m_B_isNodes.2.1 3 = .ok (.ifCond .lt 15, 3) := by decide +kernel
theorem q_B_isNodes_6 : decode m_B_isNodes.2.1 6 = .ok (.lload_n 0, 1) := by decide +kernel
theorem q_B_isNodes_7 : decode m_B_isNodes.2.1 7 = .ok (.ldc2_w 237, 3) := by decide +kernel
theorem q_B_isNodes_10 : decode m_B_isNodes.2.1 10 = .ok (.lcmp, 1) := by decide +kernel
theorem q_B_isNodes_11 : decode m_B_isNodes.2.1 11 = .ok (.ifCond .gt 7, 3) := by decide +kernel
theorem q_B_isNodes_14 : decode m_B_isNodes.2.1 14 = .ok (.iconst 1, 1) := by decide +kernel
theorem q_B_isNodes_15 : decode m_B_isNodes.2.1 15 = .ok (.goto 4, 3) := by decide +kernel
theorem q_B_isNodes_18 : decode m_B_isNodes.2.1 18 = .ok (.iconst 0, 1) := by decide +kernel
theorem q_B_isNodes_19 : decode m_B_isNodes.2.1 19 = .ok (.ireturn, 1) := by decide +kernel
theorem q_B_isIn_0 : decode m_B_isIn.2.1 0 = .ok (.iload_n 0, 1) := by decide +kernel
theorem q_B_isIn_1 : decode m_B_isIn.2.1 1 = .ok (.iload_n 1, 1) := by decide +kernel
theorem q_B_isIn_2 : decode m_B_isIn.2.1 2 = .ok (.ishr, 1) := by decide +kernel
theorem q_B_isIn_3 : decode m_B_isIn.2.1 3 = .ok (.iconst 1, 1) := by decide +kernel
theorem q_B_isIn_4 : decode m_B_isIn.2.1 4 = .ok (.iand, 1) := by decide +kernel
theorem q_B_isIn_5 : decode m_B_isIn.2.1 5 = .ok (.iconst 1, 1) := by decide +kernel
theorem q_B_isIn_6 : decode m_B_isIn.2.1 6 = .ok (.if_icmp .ne 7, 3) := by decide +kernel
theorem q_B_isIn_9 : decode m_B_isIn.2.1 9 = .ok (.iconst 1, 1) := by decide +kernel
theorem q_B_isIn_10 : decode m_B_isIn.2.1 10 = .ok (.goto 4, 3) := by decide +kernel
theorem q_B_isIn_13 : decode m_B_isIn.2.1 13 = .ok (.iconst 0, 1) := by decide +kernel
theorem q_B_isIn_14 : decode m_B_isIn.2.1 14 = .ok (.ireturn, 1) := by decide +kernel
theorem q_B_memberOf_0 : decode m_B_memberOf.2.1 0 = .ok (.iconst 0, 1) := by decide +kernel
theorem q_B_memberOf_1 : decode m_B_memberOf.2.1 1 = .ok (.istore_n 2, 1) := by decide +kernel
theorem q_B_memberOf_2 : decode m_B_memberOf.2.1 2 = .ok (.iconst 0, 1) := by decide +kernel
theorem q_B_memberOf_3 : decode m_B_memberOf.2.1 3 = .ok (.istore_n 3, 1) := by decide +kernel
theorem q_B_memberOf_4 : decode m_B_memberOf.2.1 4 = .ok (.iload_n 3, 1) := by decide +kernel
theorem q_B_memberOf_5 : decode m_B_memberOf.2.1 5 = .ok (.bipush 14, 2) := by decide +kernel
theorem q_B_memberOf_7 : decode m_B_memberOf.2.1 7 = .ok (.if_icmp .ge 27, 3) := by decide +kernel
theorem q_B_memberOf_10 : decode m_B_memberOf.2.1 10 = .ok (.iload_n 0, 1) := by decide +kernel
theorem q_B_memberOf_11 : decode m_B_memberOf.2.1 11 = .ok (.iload_n 3, 1) := by decide +kernel
theorem q_B_memberOf_12 : decode m_B_memberOf.2.1 12 = .ok (.invokestatic 90, 3) := by decide +kernel
theorem q_B_memberOf_15 : decode m_B_memberOf.2.1 15 = .ok (.ifCond .eq 13, 3) := by decide +kernel
theorem q_B_memberOf_18 : decode m_B_memberOf.2.1 18 = .ok (.iload_n 2, 1) := by decide +kernel
theorem q_B_memberOf_19 : decode m_B_memberOf.2.1 19 = .ok (.iload_n 1, 1) := by decide +kernel
theorem q_B_memberOf_20 : decode m_B_memberOf.2.1 20 = .ok (.if_icmp .ne 5, 3) := by decide +kernel
theorem q_B_memberOf_23 : decode m_B_memberOf.2.1 23 = .ok (.iload_n 3, 1) := by decide +kernel
theorem q_B_memberOf_24 : decode m_B_memberOf.2.1 24 = .ok (.ireturn, 1) := by decide +kernel
theorem q_B_memberOf_25 : decode m_B_memberOf.2.1 25 = .ok (.iinc 2 1, 3) := by decide +kernel
theorem q_B_memberOf_28 : decode m_B_memberOf.2.1 28 = .ok (.iinc 3 1, 3) := by decide +kernel
theorem q_B_memberOf_31 : decode m_B_memberOf.2.1 31 = .ok (.goto (-27), 3) := by decide +kernel
theorem q_B_memberOf_34 : decode m_B_memberOf.2.1 34 = .ok (.iconst (-1), 1) := by decide +kernel
theorem q_B_memberOf_35 : decode m_B_memberOf.2.1 35 = .ok (.ireturn, 1) := by decide +kernel
theorem q_B_greatestDivisor_0 : decode m_B_greatestDivisor.2.1 0 = .ok (.lload_n 0, 1) := by decide +kernel
theorem q_B_greatestDivisor_1 : decode m_B_greatestDivisor.2.1 1 = .ok (.lstore 4, 2) := by decide +kernel
theorem q_B_greatestDivisor_3 : decode m_B_greatestDivisor.2.1 3 = .ok (.lload_n 2, 1) := by decide +kernel
theorem q_B_greatestDivisor_4 : decode m_B_greatestDivisor.2.1 4 = .ok (.lstore 6, 2) := by decide +kernel
theorem q_B_greatestDivisor_6 : decode m_B_greatestDivisor.2.1 6 = .ok (.iconst 0, 1) := by decide +kernel
theorem q_B_greatestDivisor_7 : decode m_B_greatestDivisor.2.1 7 = .ok (.istore 8, 2) := by decide +kernel
theorem q_B_greatestDivisor_9 : decode m_B_greatestDivisor.2.1 9 = .ok (.iload 8, 2) := by decide +kernel
theorem q_B_greatestDivisor_11 : decode m_B_greatestDivisor.2.1 11 = .ok (.bipush 100, 2) := by decide +kernel
theorem q_B_greatestDivisor_13 : decode m_B_greatestDivisor.2.1 13 = .ok (.if_icmp .ge 31, 3) := by decide +kernel
theorem q_B_greatestDivisor_16 : decode m_B_greatestDivisor.2.1 16 = .ok (.lload 6, 2) := by decide +kernel
theorem q_B_greatestDivisor_18 : decode m_B_greatestDivisor.2.1 18 = .ok (.lconst 0, 1) := by decide +kernel
theorem q_B_greatestDivisor_19 : decode m_B_greatestDivisor.2.1 19 = .ok (.lcmp, 1) := by decide +kernel
theorem q_B_greatestDivisor_20 : decode m_B_greatestDivisor.2.1 20 = .ok (.ifCond .eq 24, 3) := by decide +kernel
theorem q_B_greatestDivisor_23 : decode m_B_greatestDivisor.2.1 23 = .ok (.lload 4, 2) := by decide +kernel
theorem q_B_greatestDivisor_25 : decode m_B_greatestDivisor.2.1 25 = .ok (.lload 6, 2) := by decide +kernel
theorem q_B_greatestDivisor_27 : decode m_B_greatestDivisor.2.1 27 = .ok (.lrem, 1) := by decide +kernel
theorem q_B_greatestDivisor_28 : decode m_B_greatestDivisor.2.1 28 = .ok (.lstore 9, 2) := by decide +kernel
theorem q_B_greatestDivisor_30 : decode m_B_greatestDivisor.2.1 30 = .ok (.lload 6, 2) := by decide +kernel
theorem q_B_greatestDivisor_32 : decode m_B_greatestDivisor.2.1 32 = .ok (.lstore 4, 2) := by decide +kernel
theorem q_B_greatestDivisor_34 : decode m_B_greatestDivisor.2.1 34 = .ok (.lload 9, 2) := by decide +kernel
theorem q_B_greatestDivisor_36 : decode m_B_greatestDivisor.2.1 36 = .ok (.lstore 6, 2) := by decide +kernel
theorem q_B_greatestDivisor_38 : decode m_B_greatestDivisor.2.1 38 = .ok (.iinc 8 1, 3) := by decide +kernel
theorem q_B_greatestDivisor_41 : decode m_B_greatestDivisor.2.1 41 = .ok (.goto (-32), 3) := by decide +kernel
theorem q_B_greatestDivisor_44 : decode m_B_greatestDivisor.2.1 44 = .ok (.lload 4, 2) := by decide +kernel
theorem q_B_greatestDivisor_46 : decode m_B_greatestDivisor.2.1 46 = .ok (.lreturn, 1) := by decide +kernel
end
section
theorem q_M_init_0 : decode m_M_init.2.1 0 = .ok (.aload_n 0, 1) := by decide +kernel
theorem q_M_init_1 : decode m_M_init.2.1 1 = .ok (.invokespecial 1, 3) := by decide +kernel
theorem q_M_init_4 : decode m_M_init.2.1 4 = .ok (.aload_n 0, 1) := by decide +kernel
theorem q_M_init_5 : decode m_M_init.2.1 5 = .ok (.bipush 12, 2) := by decide +kernel
theorem q_M_init_7 : decode m_M_init.2.1 7 = .ok (.newarray .int, 2) := by decide +kernel
theorem q_M_init_9 : decode m_M_init.2.1 9 = .ok (.putfield 7, 3) := by decide +kernel
theorem q_M_init_12 : decode m_M_init.2.1 12 = .ok (.aload_n 0, 1) := by decide +kernel
theorem q_M_init_13 : decode m_M_init.2.1 13 = .ok (.bipush 12, 2) := by decide +kernel
theorem q_M_init_15 : decode m_M_init.2.1 15 = .ok (.newarray .int, 2) := by decide +kernel
theorem q_M_init_17 : decode m_M_init.2.1 17 = .ok (.putfield 13, 3) := by decide +kernel
theorem q_M_init_20 : decode m_M_init.2.1 20 = .ok (.aload_n 0, 1) := by decide +kernel
theorem q_M_init_21 : decode m_M_init.2.1 21 = .ok (.bipush 14, 2) := by decide +kernel
theorem q_M_init_23 : decode m_M_init.2.1 23 = .ok (.newarray .int, 2) := by decide +kernel
theorem q_M_init_25 : decode m_M_init.2.1 25 = .ok (.putfield 16, 3) := by decide +kernel
theorem q_M_init_28 : decode m_M_init.2.1 28 = .ok (.aload_n 0, 1) := by decide +kernel
theorem q_M_init_29 : decode m_M_init.2.1 29 = .ok (.bipush 14, 2) := by decide +kernel
theorem q_M_init_31 : decode m_M_init.2.1 31 = .ok (.newarray .int, 2) := by decide +kernel
theorem q_M_init_33 : decode m_M_init.2.1 33 = .ok (.putfield 19, 3) := by decide +kernel
theorem q_M_init_36 : decode m_M_init.2.1 36 = .ok (.aload_n 0, 1) := by decide +kernel
theorem q_M_init_37 : decode m_M_init.2.1 37 = .ok (.bipush 14, 2) := by decide +kernel
theorem q_M_init_39 : decode m_M_init.2.1 39 = .ok (.newarray .long, 2) := by decide +kernel
theorem q_M_init_41 : decode m_M_init.2.1 41 = .ok (.putfield 22, 3) := by decide +kernel
theorem q_M_init_44 : decode m_M_init.2.1 44 = .ok (.aload_n 0, 1) := by decide +kernel
theorem q_M_init_45 : decode m_M_init.2.1 45 = .ok (.bipush 14, 2) := by decide +kernel
theorem q_M_init_47 : decode m_M_init.2.1 47 = .ok (.newarray .long, 2) := by decide +kernel
theorem q_M_init_49 : decode m_M_init.2.1 49 = .ok (.putfield 26, 3) := by decide +kernel
theorem q_M_init_52 : decode m_M_init.2.1 52 = .ok (.aload_n 0, 1) := by decide +kernel
theorem q_M_init_53 : decode m_M_init.2.1 53 = .ok (.bipush 6, 2) := by decide +kernel
theorem q_M_init_55 : decode m_M_init.2.1 55 = .ok (.newarray .long, 2) := by decide +kernel
theorem q_M_init_57 : decode m_M_init.2.1 57 = .ok (.putfield 29, 3) := by decide +kernel
theorem q_M_init_60 : decode m_M_init.2.1 60 = .ok (.aload_n 0, 1) := by decide +kernel
theorem q_M_init_61 : decode m_M_init.2.1 61 = .ok (.bipush 20, 2) := by decide +kernel
theorem q_M_init_63 : decode m_M_init.2.1 63 = .ok (.newarray .int, 2) := by decide +kernel
theorem q_M_init_65 : decode m_M_init.2.1 65 = .ok (.putfield 32, 3) := by decide +kernel
theorem q_M_init_68 : decode m_M_init.2.1 68 = .ok (.aload_n 0, 1) := by decide +kernel
theorem q_M_init_69 : decode m_M_init.2.1 69 = .ok (.bipush 20, 2) := by decide +kernel
theorem q_M_init_71 : decode m_M_init.2.1 71 = .ok (.newarray .int, 2) := by decide +kernel
theorem q_M_init_73 : decode m_M_init.2.1 73 = .ok (.putfield 35, 3) := by decide +kernel
theorem q_M_init_76 : decode m_M_init.2.1 76 = .ok (.aload_n 0, 1) := by decide +kernel
theorem q_M_init_77 : decode m_M_init.2.1 77 = .ok (.bipush 20, 2) := by decide +kernel
theorem q_M_init_79 : decode m_M_init.2.1 79 = .ok (.newarray .long, 2) := by decide +kernel
theorem q_M_init_81 : decode m_M_init.2.1 81 = .ok (.putfield 38, 3) := by decide +kernel
theorem q_M_init_84 : decode m_M_init.2.1 84 = .ok (.aload_n 0, 1) := by decide +kernel
theorem q_M_init_85 : decode m_M_init.2.1 85 = .ok (.ldc2_w 41, 3) := by decide +kernel
theorem q_M_init_88 : decode m_M_init.2.1 88 = .ok (.putfield 43, 3) := by decide +kernel
theorem q_M_init_91 : decode m_M_init.2.1 91 = .ok (.aload_n 0, 1) := by decide +kernel
theorem q_M_init_92 : decode m_M_init.2.1 92 = .ok (.iconst (-1), 1) := by decide +kernel
theorem q_M_init_93 : decode m_M_init.2.1 93 = .ok (.putfield 47, 3) := by decide +kernel
theorem q_M_init_96 : decode m_M_init.2.1 96 = .ok (.aload_n 0, 1) := by decide +kernel
theorem q_M_init_97 : decode m_M_init.2.1 97 = .ok (.bipush 6, 2) := by decide +kernel
theorem q_M_init_99 : decode m_M_init.2.1 99 = .ok (.newarray .long, 2) := by decide +kernel
theorem q_M_init_101 : decode m_M_init.2.1 101 = .ok (.putfield 51, 3) := by decide +kernel
theorem q_M_init_104 : decode m_M_init.2.1 104 = .ok (.aload_n 0, 1) := by decide +kernel
theorem q_M_init_105 : decode m_M_init.2.1 105 = .ok (.iconst 4, 1) := by decide +kernel
theorem q_M_init_106 : decode m_M_init.2.1 106 = .ok (.newarray .long, 2) := by decide +kernel
theorem q_M_init_108 : decode m_M_init.2.1 108 = .ok (.putfield 54, 3) := by decide +kernel
theorem q_M_init_111 : decode m_M_init.2.1 111 = .ok (.aload_n 0, 1) := by decide +kernel
theorem q_M_init_112 : decode m_M_init.2.1 112 = .ok (.bipush 14, 2) := by decide +kernel
theorem q_M_init_114 : decode m_M_init.2.1 114 = .ok (.newarray .int, 2) := by decide +kernel
theorem q_M_init_116 : decode m_M_init.2.1 116 = .ok (.putfield 57, 3) := by decide +kernel
theorem q_M_init_119 : decode m_M_init.2.1 119 = .ok (.aload_n 0, 1) := by decide +kernel
theorem q_M_init_120 : decode m_M_init.2.1 120 = .ok (.bipush 12, 2) := by decide +kernel
theorem q_M_init_122 : decode m_M_init.2.1 122 = .ok (.newarray .int, 2) := by decide +kernel
theorem q_M_init_124 : decode m_M_init.2.1 124 = .ok (.putfield 60, 3) := by decide +kernel
theorem q_M_init_127 : decode m_M_init.2.1 127 = .ok (.aload_n 0, 1) := by decide +kernel
theorem q_M_init_128 : decode m_M_init.2.1 128 = .ok (.iload_n 1, 1) := by decide +kernel
theorem q_M_init_129 : decode m_M_init.2.1 129 = .ok (.iconst 1, 1) := by decide +kernel
theorem q_M_init_130 : decode m_M_init.2.1 130 = .ok (.if_icmp .ge 7, 3) := by decide +kernel
theorem q_M_init_133 : decode m_M_init.2.1 133 = .ok (.iconst 1, 1) := by decide +kernel
theorem q_M_init_134 : decode m_M_init.2.1 134 = .ok (.goto 15, 3) := by decide +kernel
theorem q_M_init_137 : decode m_M_init.2.1 137 = .ok (.iload_n 1, 1) := by decide +kernel
theorem q_M_init_138 : decode m_M_init.2.1 138 = .ok (.bipush 6, 2) := by decide +kernel
theorem q_M_init_140 : decode m_M_init.2.1 140 = .ok (.if_icmp .le 8, 3) := by decide +kernel
theorem q_M_init_143 : decode m_M_init.2.1 143 = .ok (.bipush 6, 2) := by decide +kernel
theorem q_M_init_145 : decode m_M_init.2.1 145 = .ok (.goto 4, 3) := by decide +kernel
theorem q_M_init_148 : decode m_M_init.2.1 148 = .ok (.iload_n 1, 1) := by decide +kernel
theorem q_M_init_149 : decode m_M_init.2.1 149 = .ok (.putfield 63, 3) := by decide +kernel
theorem q_M_init_152 : decode m_M_init.2.1 152 = .ok (.return_, 1) := by decide +kernel
theorem q_M_tell_0 : decode m_M_tell.2.1 0 = .ok (.aload_n 0, 1) := by decide +kernel
theorem q_M_tell_1 : decode m_M_tell.2.1 1 = .ok (.iconst (-1), 1) := by decide +kernel
theorem q_M_tell_2 : decode m_M_tell.2.1 2 = .ok (.putfield 47, 3) := by decide +kernel
theorem q_M_tell_5 : decode m_M_tell.2.1 5 = .ok (.aload_n 0, 1) := by decide +kernel
theorem q_M_tell_6 : decode m_M_tell.2.1 6 = .ok (.iconst 0, 1) := by decide +kernel
theorem q_M_tell_7 : decode m_M_tell.2.1 7 = .ok (.putfield 66, 3) := by decide +kernel
theorem q_M_tell_10 : decode m_M_tell.2.1 10 = .ok (.return_, 1) := by decide +kernel
theorem q_M_in_0 : decode m_M_in.2.1 0 = .ok (.lload_n 0, 1) := by decide +kernel
theorem q_M_in_1 : decode m_M_in.2.1 1 = .ok (.lload_n 2, 1) := by decide +kernel
theorem q_M_in_2 : decode m_M_in.2.1 2 = .ok (.lcmp, 1) := by decide +kernel
theorem q_M_in_3 : decode m_M_in.2.1 3 = .ok (.ifCond .lt 14, 3) := by decide +kernel
theorem q_M_in_6 : decode m_M_in.2.1 6 = .ok (.lload_n 0, 1) := by decide +kernel
theorem q_M_in_7 : decode m_M_in.2.1 7 = .ok (.lload 4, 2) := by decide +kernel
theorem q_M_in_9 : decode m_M_in.2.1 9 = .ok (.lcmp, 1) := by decide +kernel
theorem q_M_in_10 : decode m_M_in.2.1 10 = .ok (.ifCond .gt 7, 3) := by decide +kernel
theorem q_M_in_13 : decode m_M_in.2.1 13 = .ok (.iconst 1, 1) := by decide +kernel
theorem q_M_in_14 : decode m_M_in.2.1 14 = .ok (.goto 4, 3) := by decide +kernel
theorem q_M_in_17 : decode m_M_in.2.1 17 = .ok (.iconst 0, 1) := by decide +kernel
theorem q_M_in_18 : decode m_M_in.2.1 18 = .ok (.ireturn, 1) := by decide +kernel
theorem q_M_has_0 : decode m_M_has.2.1 0 = .ok (.iload_n 0, 1) := by decide +kernel
theorem q_M_has_1 : decode m_M_has.2.1 1 = .ok (.iload_n 1, 1) := by decide +kernel
theorem q_M_has_2 : decode m_M_has.2.1 2 = .ok (.ishr, 1) := by decide +kernel
theorem q_M_has_3 : decode m_M_has.2.1 3 = .ok (.iconst 1, 1) := by decide +kernel
theorem q_M_has_4 : decode m_M_has.2.1 4 = .ok (.iand, 1) := by decide +kernel
theorem q_M_has_5 : decode m_M_has.2.1 5 = .ok (.iconst 1, 1) := by decide +kernel
theorem q_M_has_6 : decode m_M_has.2.1 6 = .ok (.if_icmp .ne 7, 3) := by decide +kernel
theorem q_M_has_9 : decode m_M_has.2.1 9 = .ok (.iconst 1, 1) := by decide +kernel
theorem q_M_has_10 : decode m_M_has.2.1 10 = .ok (.goto 4, 3) := by decide +kernel
theorem q_M_has_13 : decode m_M_has.2.1 13 = .ok (.iconst 0, 1) := by decide +kernel
theorem q_M_has_14 : decode m_M_has.2.1 14 = .ok (.ireturn, 1) := by decide +kernel
theorem q_M_thing_0 : decode m_M_thing.2.1 0 = .ok (.iload_n 1, 1) := by decide +kernel
theorem q_M_thing_1 : decode m_M_thing.2.1 1 = .ok (.i2l, 1) := by decide +kernel
theorem q_M_thing_2 : decode m_M_thing.2.1 2 = .ok (.lconst 0, 1) := by decide +kernel
theorem q_M_thing_3 : decode m_M_thing.2.1 3 = .ok (.ldc2_w 70, 3) := by decide +kernel
theorem q_M_thing_6 : decode m_M_thing.2.1 6 = .ok (.invokestatic 72, 3) := by decide +kernel
theorem q_M_thing_9 : decode m_M_thing.2.1 9 = .ok (.ifCond .eq 12, 3) := by decide +kernel
theorem q_M_thing_12 : decode m_M_thing.2.1 12 = .ok (.aload_n 0, 1) := by decide +kernel
theorem q_M_thing_13 : decode m_M_thing.2.1 13 = .ok (.getfield 76, 3) := by decide +kernel
theorem q_M_thing_16 : decode m_M_thing.2.1 16 = .ok (.bipush 12, 2) := by decide +kernel
theorem q_M_thing_18 : decode m_M_thing.2.1 18 = .ok (.if_icmp .ne 5, 3) := by decide +kernel
theorem q_M_thing_21 : decode m_M_thing.2.1 21 = .ok (.iconst (-1), 1) := by decide +kernel
theorem q_M_thing_22 : decode m_M_thing.2.1 22 = .ok (.ireturn, 1) := by decide +kernel
theorem q_M_thing_23 : decode m_M_thing.2.1 23 = .ok (.aload_n 0, 1) := by decide +kernel
theorem q_M_thing_24 : decode m_M_thing.2.1 24 = .ok (.getfield 7, 3) := by decide +kernel
theorem q_M_thing_27 : decode m_M_thing.2.1 27 = .ok (.aload_n 0, 1) := by decide +kernel
theorem q_M_thing_28 : decode m_M_thing.2.1 28 = .ok (.getfield 76, 3) := by decide +kernel
theorem q_M_thing_31 : decode m_M_thing.2.1 31 = .ok (.iload_n 1, 1) := by decide +kernel
theorem q_M_thing_32 : decode m_M_thing.2.1 32 = .ok (.iastore, 1) := by decide +kernel
theorem q_M_thing_33 : decode m_M_thing.2.1 33 = .ok (.aload_n 0, 1) := by decide +kernel
theorem q_M_thing_34 : decode m_M_thing.2.1 34 = .ok (.getfield 13, 3) := by decide +kernel
theorem q_M_thing_37 : decode m_M_thing.2.1 37 = .ok (.aload_n 0, 1) := by decide +kernel
theorem q_M_thing_38 : decode m_M_thing.2.1 38 = .ok (.getfield 76, 3) := by decide +kernel
theorem q_M_thing_41 : decode m_M_thing.2.1 41 = .ok (.iconst 0, 1) := by decide +kernel
theorem q_M_thing_42 : decode m_M_thing.2.1 42 = .ok (.iastore, 1) := by decide +kernel
theorem q_M_thing_43 : decode m_M_thing.2.1 43 = .ok (.aload_n 0, 1) := by decide +kernel
theorem q_M_thing_44 : decode m_M_thing.2.1 44 = .ok (.dup, 1) := by decide +kernel
theorem q_M_thing_45 : decode m_M_thing.2.1 45 = .ok (.getfield 76, 3) := by decide +kernel
theorem q_M_thing_48 : decode m_M_thing.2.1 48 = .ok (.iconst 1, 1) := by decide +kernel
theorem q_M_thing_49 : decode m_M_thing.2.1 49 = .ok (.iadd, 1) := by decide +kernel
theorem q_M_thing_50 : decode m_M_thing.2.1 50 = .ok (.putfield 76, 3) := by decide +kernel
theorem q_M_thing_53 : decode m_M_thing.2.1 53 = .ok (.aload_n 0, 1) := by decide +kernel
theorem q_M_thing_54 : decode m_M_thing.2.1 54 = .ok (.invokevirtual 79, 3) := by decide +kernel
theorem q_M_thing_57 : decode m_M_thing.2.1 57 = .ok (.aload_n 0, 1) := by decide +kernel
theorem q_M_thing_58 : decode m_M_thing.2.1 58 = .ok (.getfield 76, 3) := by decide +kernel
theorem q_M_thing_61 : decode m_M_thing.2.1 61 = .ok (.iconst 1, 1) := by decide +kernel
theorem q_M_thing_62 : decode m_M_thing.2.1 62 = .ok (.isub, 1) := by decide +kernel
theorem q_M_thing_63 : decode m_M_thing.2.1 63 = .ok (.ireturn, 1) := by decide +kernel
theorem q_M_choice_0 : decode m_M_choice.2.1 0 = .ok (.iload_n 1, 1) := by decide +kernel
theorem q_M_choice_1 : decode m_M_choice.2.1 1 = .ok (.i2l, 1) := by decide +kernel
theorem q_M_choice_2 : decode m_M_choice.2.1 2 = .ok (.lconst 0, 1) := by decide +kernel
theorem q_M_choice_3 : decode m_M_choice.2.1 3 = .ok (.aload_n 0, 1) := by decide +kernel
theorem q_M_choice_4 : decode m_M_choice.2.1 4 = .ok (.getfield 76, 3) := by decide +kernel
theorem q_M_choice_7 : decode m_M_choice.2.1 7 = .ok (.i2l, 1) := by decide +kernel
theorem q_M_choice_8 : decode m_M_choice.2.1 8 = .ok (.lconst 1, 1) := by decide +kernel
theorem q_M_choice_9 : decode m_M_choice.2.1 9 = .ok (.lsub, 1) := by decide +kernel
theorem q_M_choice_10 : decode m_M_choice.2.1 10 = .ok (.invokestatic 72, 3) := by decide +kernel
theorem q_M_choice_13 : decode m_M_choice.2.1 13 = .ok (.ifCond .eq 46, 3) := by decide +kernel
theorem q_M_choice_16 : decode m_M_choice.2.1 16 = .ok (.iload_n 2, 1) := by decide +kernel
theorem q_M_choice_17 : decode m_M_choice.2.1 17 = .ok (.i2l, 1) := by decide +kernel
theorem q_M_choice_18 : decode m_M_choice.2.1 18 = .ok (.lconst 0, 1) := by decide +kernel
theorem q_M_choice_19 : decode m_M_choice.2.1 19 = .ok (.aload_n 0, 1) := by decide +kernel
theorem q_M_choice_20 : decode m_M_choice.2.1 20 = .ok (.getfield 63, 3) := by decide +kernel
theorem q_M_choice_23 : decode m_M_choice.2.1 23 = .ok (.i2l, 1) := by decide +kernel
theorem q_M_choice_24 : decode m_M_choice.2.1 24 = .ok (.lconst 1, 1) := by decide +kernel
theorem q_M_choice_25 : decode m_M_choice.2.1 25 = .ok (.lsub, 1) := by decide +kernel
theorem q_M_choice_26 : decode m_M_choice.2.1 26 = .ok (.invokestatic 72, 3) := by decide +kernel
theorem q_M_choice_29 : decode m_M_choice.2.1 29 = .ok (.ifCond .eq 30, 3) := by decide +kernel
theorem q_M_choice_32 : decode m_M_choice.2.1 32 = .ok (.lload_n 3, 1) := by decide +kernel
theorem q_M_choice_33 : decode m_M_choice.2.1 33 = .ok (.lconst 0, 1) := by decide +kernel
theorem q_M_choice_34 : decode m_M_choice.2.1 34 = .ok (.ldc2_w 82, 3) := by decide +kernel
theorem q_M_choice_37 : decode m_M_choice.2.1 37 = .ok (.invokestatic 72, 3) := by decide +kernel
theorem q_M_choice_40 : decode m_M_choice.2.1 40 = .ok (.ifCond .eq 19, 3) := by decide +kernel
theorem q_M_choice_43 : decode m_M_choice.2.1 43 = .ok (.lload 5, 2) := by decide +kernel
theorem q_M_choice_45 : decode m_M_choice.2.1 45 = .ok (.lconst 0, 1) := by decide +kernel
theorem q_M_choice_46 : decode m_M_choice.2.1 46 = .ok (.ldc2_w 82, 3) := by decide +kernel
theorem q_M_choice_49 : decode m_M_choice.2.1 49 = .ok (.invokestatic 72, 3) := by decide +kernel
theorem q_M_choice_52 : decode m_M_choice.2.1 52 = .ok (.ifCond .eq 7, 3) := by decide +kernel
theorem q_M_choice_55 : decode m_M_choice.2.1 55 = .ok (.iconst 1, 1) := by decide +kernel
theorem q_M_choice_56 : decode m_M_choice.2.1 56 = .ok (.goto 4, 3) := by decide +kernel
theorem q_M_choice_59 : decode m_M_choice.2.1 59 = .ok (.iconst 0, 1) := by decide +kernel
theorem q_M_choice_60 : decode m_M_choice.2.1 60 = .ok (.istore 7, 2) := by decide +kernel
theorem q_M_choice_62 : decode m_M_choice.2.1 62 = .ok (.iload 7, 2) := by decide +kernel
theorem q_M_choice_64 : decode m_M_choice.2.1 64 = .ok (.ifCond .eq 12, 3) := by decide +kernel
theorem q_M_choice_67 : decode m_M_choice.2.1 67 = .ok (.aload_n 0, 1) := by decide +kernel
theorem q_M_choice_68 : decode m_M_choice.2.1 68 = .ok (.getfield 84, 3) := by decide +kernel
theorem q_M_choice_71 : decode m_M_choice.2.1 71 = .ok (.bipush 14, 2) := by decide +kernel
theorem q_M_choice_73 : decode m_M_choice.2.1 73 = .ok (.if_icmp .ne 5, 3) := by decide +kernel
theorem q_M_choice_76 : decode m_M_choice.2.1 76 = .ok (.iconst (-1), 1) := by decide +kernel
theorem q_M_choice_77 : decode m_M_choice.2.1 77 = .ok (.ireturn, 1) := by decide +kernel
theorem q_M_choice_78 : decode m_M_choice.2.1 78 = .ok (.aload_n 0, 1) := by decide +kernel
theorem q_M_choice_79 : decode m_M_choice.2.1 79 = .ok (.getfield 16, 3) := by decide +kernel
theorem q_M_choice_82 : decode m_M_choice.2.1 82 = .ok (.aload_n 0, 1) := by decide +kernel
theorem q_M_choice_83 : decode m_M_choice.2.1 83 = .ok (.getfield 84, 3) := by decide +kernel
theorem q_M_choice_86 : decode m_M_choice.2.1 86 = .ok (.iload_n 1, 1) := by decide +kernel
theorem q_M_choice_87 : decode m_M_choice.2.1 87 = .ok (.iastore, 1) := by decide +kernel
theorem q_M_choice_88 : decode m_M_choice.2.1 88 = .ok (.aload_n 0, 1) := by decide +kernel
theorem q_M_choice_89 : decode m_M_choice.2.1 89 = .ok (.getfield 19, 3) := by decide +kernel
theorem q_M_choice_92 : decode m_M_choice.2.1 92 = .ok (.aload_n 0, 1) := by decide +kernel
theorem q_M_choice_93 : decode m_M_choice.2.1 93 = .ok (.getfield 84, 3) := by decide +kernel
theorem q_M_choice_96 : decode m_M_choice.2.1 96 = .ok (.iload_n 2, 1) := by decide +kernel
theorem q_M_choice_97 : decode m_M_choice.2.1 97 = .ok (.iastore, 1) := by decide +kernel
theorem q_M_choice_98 : decode m_M_choice.2.1 98 = .ok (.aload_n 0, 1) := by decide +kernel
theorem q_M_choice_99 : decode m_M_choice.2.1 99 = .ok (.getfield 22, 3) := by decide +kernel
theorem q_M_choice_102 : decode m_M_choice.2.1 102 = .ok (.aload_n 0, 1) := by decide +kernel
theorem q_M_choice_103 : decode m_M_choice.2.1 103 = .ok (.getfield 84, 3) := by decide +kernel
theorem q_M_choice_106 : decode m_M_choice.2.1 106 = .ok (.lload_n 3, 1) := by decide +kernel
theorem q_M_choice_107 : decode m_M_choice.2.1 107 = .ok (.lastore, 1) := by decide +kernel
theorem q_M_choice_108 : decode m_M_choice.2.1 108 = .ok (.aload_n 0, 1) := by decide +kernel
theorem q_M_choice_109 : decode m_M_choice.2.1 109 = .ok (.getfield 26, 3) := by decide +kernel
theorem q_M_choice_112 : decode m_M_choice.2.1 112 = .ok (.aload_n 0, 1) := by decide +kernel
theorem q_M_choice_113 : decode m_M_choice.2.1 113 = .ok (.getfield 84, 3) := by decide +kernel
theorem q_M_choice_116 : decode m_M_choice.2.1 116 = .ok (.lload 5, 2) := by decide +kernel
theorem q_M_choice_118 : decode m_M_choice.2.1 118 = .ok (.lastore, 1) := by decide +kernel
theorem q_M_choice_119 : decode m_M_choice.2.1 119 = .ok (.aload_n 0, 1) := by decide +kernel
theorem q_M_choice_120 : decode m_M_choice.2.1 120 = .ok (.dup, 1) := by decide +kernel
theorem q_M_choice_121 : decode m_M_choice.2.1 121 = .ok (.getfield 84, 3) := by decide +kernel
theorem q_M_choice_124 : decode m_M_choice.2.1 124 = .ok (.iconst 1, 1) := by decide +kernel
theorem q_M_choice_125 : decode m_M_choice.2.1 125 = .ok (.iadd, 1) := by decide +kernel
theorem q_M_choice_126 : decode m_M_choice.2.1 126 = .ok (.putfield 84, 3) := by decide +kernel
theorem q_M_choice_129 : decode m_M_choice.2.1 129 = .ok (.aload_n 0, 1) := by decide +kernel
theorem q_M_choice_130 : decode m_M_choice.2.1 130 = .ok (.invokevirtual 79, 3) := by decide +kernel
theorem q_M_choice_133 : decode m_M_choice.2.1 133 = .ok (.aload_n 0, 1) := by decide +kernel
theorem q_M_choice_134 : decode m_M_choice.2.1 134 = .ok (.getfield 84, 3) := by decide +kernel
theorem q_M_choice_137 : decode m_M_choice.2.1 137 = .ok (.iconst 1, 1) := by decide +kernel
theorem q_M_choice_138 : decode m_M_choice.2.1 138 = .ok (.isub, 1) := by decide +kernel
theorem q_M_choice_139 : decode m_M_choice.2.1 139 = .ok (.ireturn, 1) := by decide +kernel
theorem q_M_isChoice_0 : decode m_M_isChoice.2.1 0 = .ok (.iload_n 1, 1) := by decide +kernel
theorem q_M_isChoice_1 : decode m_M_isChoice.2.1 1 = .ok (.ifCond .lt 15, 3) := by decide +kernel
theorem q_M_isChoice_4 : decode m_M_isChoice.2.1 4 = .ok (.iload_n 1, 1) := by decide +kernel
theorem q_M_isChoice_5 : decode m_M_isChoice.2.1 5 = .ok (.aload_n 0, 1) := by decide +kernel
theorem q_M_isChoice_6 : decode m_M_isChoice.2.1 6 = .ok (.getfield 84, 3) := by decide +kernel
theorem q_M_isChoice_9 : decode m_M_isChoice.2.1 9 = .ok (.if_icmp .ge 7, 3) := by decide +kernel
theorem q_M_isChoice_12 : decode m_M_isChoice.2.1 12 = .ok (.iconst 1, 1) := by decide +kernel
theorem q_M_isChoice_13 : decode m_M_isChoice.2.1 13 = .ok (.goto 4, 3) := by decide +kernel
theorem q_M_isChoice_16 : decode m_M_isChoice.2.1 16 = .ok (.iconst 0, 1) := by decide +kernel
theorem q_M_isChoice_17 : decode m_M_isChoice.2.1 17 = .ok (.ireturn, 1) := by decide +kernel
theorem q_M_isYear_0 : decode m_M_isYear.2.1 0 = .ok (.iload_n 1, 1) := by decide +kernel
theorem q_M_isYear_1 : decode m_M_isYear.2.1 1 = .ok (.ifCond .lt 15, 3) := by decide +kernel
theorem q_M_isYear_4 : decode m_M_isYear.2.1 4 = .ok (.iload_n 1, 1) := by decide +kernel
theorem q_M_isYear_5 : decode m_M_isYear.2.1 5 = .ok (.aload_n 0, 1) := by decide +kernel
theorem q_M_isYear_6 : decode m_M_isYear.2.1 6 = .ok (.getfield 63, 3) := by decide +kernel
theorem q_M_isYear_9 : decode m_M_isYear.2.1 9 = .ok (.if_icmp .ge 7, 3) := by decide +kernel
theorem q_M_isYear_12 : decode m_M_isYear.2.1 12 = .ok (.iconst 1, 1) := by decide +kernel
theorem q_M_isYear_13 : decode m_M_isYear.2.1 13 = .ok (.goto 4, 3) := by decide +kernel
theorem q_M_isYear_16 : decode m_M_isYear.2.1 16 = .ok (.iconst 0, 1) := by decide +kernel
theorem q_M_isYear_17 : decode m_M_isYear.2.1 17 = .ok (.ireturn, 1) := by decide +kernel
theorem q_M_must_0 : decode m_M_must.2.1 0 = .ok (.aload_n 0, 1) := by decide +kernel
theorem q_M_must_1 : decode m_M_must.2.1 1 = .ok (.iload_n 1, 1) := by decide +kernel
theorem q_M_must_2 : decode m_M_must.2.1 2 = .ok (.invokevirtual 87, 3) := by decide +kernel
theorem q_M_must_5 : decode m_M_must.2.1 5 = .ok (.ifCond .eq 14, 3) := by decide +kernel
theorem q_M_must_8 : decode m_M_must.2.1 8 = .ok (.aload_n 0, 1) := by decide +kernel
theorem q_M_must_9 : decode m_M_must.2.1 9 = .ok (.getfield 91, 3) := by decide +kernel
theorem q_M_must_12 : decode m_M_must.2.1 12 = .ok (.iload_n 1, 1) := by decide +kernel
theorem q_M_must_13 : decode m_M_must.2.1 13 = .ok (.invokestatic 94, 3) := by decide +kernel
theorem q_M_must_16 : decode m_M_must.2.1 16 = .ok (.ifCond .eq 5, 3) := by decide +kernel
theorem q_M_must_19 : decode m_M_must.2.1 19 = .ok (.iconst 0, 1) := by decide +kernel
theorem q_M_must_20 : decode m_M_must.2.1 20 = .ok (.ireturn, 1) := by decide +kernel
theorem q_M_must_21 : decode m_M_must.2.1 21 = .ok (.aload_n 0, 1) := by decide +kernel
theorem q_M_must_22 : decode m_M_must.2.1 22 = .ok (.dup, 1) := by decide +kernel
theorem q_M_must_23 : decode m_M_must.2.1 23 = .ok (.getfield 91, 3) := by decide +kernel
theorem q_M_must_26 : decode m_M_must.2.1 26 = .ok (.iconst 1, 1) := by decide +kernel
theorem q_M_must_27 : decode m_M_must.2.1 27 = .ok (.iload_n 1, 1) := by decide +kernel
theorem q_M_must_28 : decode m_M_must.2.1 28 = .ok (.ishl, 1) := by decide +kernel
theorem q_M_must_29 : decode m_M_must.2.1 29 = .ok (.ior, 1) := by decide +kernel
theorem q_M_must_30 : decode m_M_must.2.1 30 = .ok (.putfield 91, 3) := by decide +kernel
theorem q_M_must_33 : decode m_M_must.2.1 33 = .ok (.aload_n 0, 1) := by decide +kernel
theorem q_M_must_34 : decode m_M_must.2.1 34 = .ok (.invokevirtual 79, 3) := by decide +kernel
theorem q_M_must_37 : decode m_M_must.2.1 37 = .ok (.iconst 1, 1) := by decide +kernel
theorem q_M_must_38 : decode m_M_must.2.1 38 = .ok (.ireturn, 1) := by decide +kernel
theorem q_M_budget_0 : decode m_M_budget.2.1 0 = .ok (.aload_n 0, 1) := by decide +kernel
theorem q_M_budget_1 : decode m_M_budget.2.1 1 = .ok (.iload_n 1, 1) := by decide +kernel
theorem q_M_budget_2 : decode m_M_budget.2.1 2 = .ok (.invokevirtual 98, 3) := by decide +kernel
theorem q_M_budget_5 : decode m_M_budget.2.1 5 = .ok (.ifCond .eq 14, 3) := by decide +kernel
theorem q_M_budget_8 : decode m_M_budget.2.1 8 = .ok (.lload_n 2, 1) := by decide +kernel
theorem q_M_budget_9 : decode m_M_budget.2.1 9 = .ok (.lconst 0, 1) := by decide +kernel
theorem q_M_budget_10 : decode m_M_budget.2.1 10 = .ok (.ldc2_w 101, 3) := by decide +kernel
theorem q_M_budget_13 : decode m_M_budget.2.1 13 = .ok (.invokestatic 72, 3) := by decide +kernel
theorem q_M_budget_16 : decode m_M_budget.2.1 16 = .ok (.ifCond .ne 5, 3) := by decide +kernel
theorem q_M_budget_19 : decode m_M_budget.2.1 19 = .ok (.iconst 0, 1) := by decide +kernel
theorem q_M_budget_20 : decode m_M_budget.2.1 20 = .ok (.ireturn, 1) := by decide +kernel
theorem q_M_budget_21 : decode m_M_budget.2.1 21 = .ok (.aload_n 0, 1) := by decide +kernel
theorem q_M_budget_22 : decode m_M_budget.2.1 22 = .ok (.getfield 29, 3) := by decide +kernel
theorem q_M_budget_25 : decode m_M_budget.2.1 25 = .ok (.iload_n 1, 1) := by decide +kernel
theorem q_M_budget_26 : decode m_M_budget.2.1 26 = .ok (.lload_n 2, 1) := by decide +kernel
theorem q_M_budget_27 : decode m_M_budget.2.1 27 = .ok (.lastore, 1) := by decide +kernel
theorem q_M_budget_28 : decode m_M_budget.2.1 28 = .ok (.aload_n 0, 1) := by decide +kernel
theorem q_M_budget_29 : decode m_M_budget.2.1 29 = .ok (.invokevirtual 79, 3) := by decide +kernel
theorem q_M_budget_32 : decode m_M_budget.2.1 32 = .ok (.iconst 1, 1) := by decide +kernel
theorem q_M_budget_33 : decode m_M_budget.2.1 33 = .ok (.ireturn, 1) := by decide +kernel
theorem q_M_join_0 : decode m_M_join.2.1 0 = .ok (.aload_n 0, 1) := by decide +kernel
theorem q_M_join_1 : decode m_M_join.2.1 1 = .ok (.iload_n 1, 1) := by decide +kernel
theorem q_M_join_2 : decode m_M_join.2.1 2 = .ok (.invokevirtual 87, 3) := by decide +kernel
theorem q_M_join_5 : decode m_M_join.2.1 5 = .ok (.ifCond .eq 66, 3) := by decide +kernel
theorem q_M_join_8 : decode m_M_join.2.1 8 = .ok (.aload_n 0, 1) := by decide +kernel
theorem q_M_join_9 : decode m_M_join.2.1 9 = .ok (.iload_n 2, 1) := by decide +kernel
theorem q_M_join_10 : decode m_M_join.2.1 10 = .ok (.invokevirtual 87, 3) := by decide +kernel
theorem q_M_join_13 : decode m_M_join.2.1 13 = .ok (.ifCond .eq 58, 3) := by decide +kernel
theorem q_M_join_16 : decode m_M_join.2.1 16 = .ok (.lload_n 3, 1) := by decide +kernel
theorem q_M_join_17 : decode m_M_join.2.1 17 = .ok (.lconst 0, 1) := by decide +kernel
theorem q_M_join_18 : decode m_M_join.2.1 18 = .ok (.ldc2_w 82, 3) := by decide +kernel
theorem q_M_join_21 : decode m_M_join.2.1 21 = .ok (.invokestatic 72, 3) := by decide +kernel
theorem q_M_join_24 : decode m_M_join.2.1 24 = .ok (.ifCond .eq 47, 3) := by decide +kernel
theorem q_M_join_27 : decode m_M_join.2.1 27 = .ok (.iload_n 1, 1) := by decide +kernel
theorem q_M_join_28 : decode m_M_join.2.1 28 = .ok (.iload_n 2, 1) := by decide +kernel
theorem q_M_join_29 : decode m_M_join.2.1 29 = .ok (.if_icmp .eq 42, 3) := by decide +kernel
theorem q_M_join_32 : decode m_M_join.2.1 32 = .ok (.aload_n 0, 1) := by decide +kernel
theorem q_M_join_33 : decode m_M_join.2.1 33 = .ok (.getfield 19, 3) := by decide +kernel
theorem q_M_join_36 : decode m_M_join.2.1 36 = .ok (.iload_n 1, 1) := by decide +kernel
theorem q_M_join_37 : decode m_M_join.2.1 37 = .ok (.iaload, 1) := by decide +kernel
theorem q_M_join_38 : decode m_M_join.2.1 38 = .ok (.aload_n 0, 1) := by decide +kernel
theorem q_M_join_39 : decode m_M_join.2.1 39 = .ok (.getfield 19, 3) := by decide +kernel
theorem q_M_join_42 : decode m_M_join.2.1 42 = .ok (.iload_n 2, 1) := by decide +kernel
theorem q_M_join_43 : decode m_M_join.2.1 43 = .ok (.iaload, 1) := by decide +kernel
theorem q_M_join_44 : decode m_M_join.2.1 44 = .ok (.if_icmp .ne 27, 3) := by decide +kernel
theorem q_M_join_47 : decode m_M_join.2.1 47 = .ok (.aload_n 0, 1) := by decide +kernel
theorem q_M_join_48 : decode m_M_join.2.1 48 = .ok (.getfield 16, 3) := by decide +kernel
theorem q_M_join_51 : decode m_M_join.2.1 51 = .ok (.iload_n 1, 1) := by decide +kernel
theorem q_M_join_52 : decode m_M_join.2.1 52 = .ok (.iaload, 1) := by decide +kernel
theorem q_M_join_53 : decode m_M_join.2.1 53 = .ok (.aload_n 0, 1) := by decide +kernel
theorem q_M_join_54 : decode m_M_join.2.1 54 = .ok (.getfield 16, 3) := by decide +kernel
theorem q_M_join_57 : decode m_M_join.2.1 57 = .ok (.iload_n 2, 1) := by decide +kernel
theorem q_M_join_58 : decode m_M_join.2.1 58 = .ok (.iaload, 1) := by decide +kernel
theorem q_M_join_59 : decode m_M_join.2.1 59 = .ok (.if_icmp .eq 12, 3) := by decide +kernel
theorem q_M_join_62 : decode m_M_join.2.1 62 = .ok (.aload_n 0, 1) := by decide +kernel
theorem q_M_join_63 : decode m_M_join.2.1 63 = .ok (.getfield 103, 3) := by decide +kernel
theorem q_M_join_66 : decode m_M_join.2.1 66 = .ok (.bipush 20, 2) := by decide +kernel
theorem q_M_join_68 : decode m_M_join.2.1 68 = .ok (.if_icmp .ne 5, 3) := by decide +kernel
theorem q_M_join_71 : decode m_M_join.2.1 71 = .ok (.iconst 0, 1) := by decide +kernel
theorem q_M_join_72 : decode m_M_join.2.1 72 = .ok (.ireturn, 1) := by decide +kernel
theorem q_M_join_73 : decode m_M_join.2.1 73 = .ok (.iconst 0, 1) := by decide +kernel
theorem q_M_join_74 : decode m_M_join.2.1 74 = .ok (.istore 5, 2) := by decide +kernel
theorem q_M_join_76 : decode m_M_join.2.1 76 = .ok (.iload 5, 2) := by decide +kernel
theorem q_M_join_78 : decode m_M_join.2.1 78 = .ok (.aload_n 0, 1) := by decide +kernel
theorem q_M_join_79 : decode m_M_join.2.1 79 = .ok (.getfield 103, 3) := by decide +kernel
theorem q_M_join_82 : decode m_M_join.2.1 82 = .ok (.if_icmp .ge 55, 3) := by decide +kernel
theorem q_M_join_85 : decode m_M_join.2.1 85 = .ok (.aload_n 0, 1) := by decide +kernel
theorem q_M_join_86 : decode m_M_join.2.1 86 = .ok (.getfield 32, 3) := by decide +kernel
theorem q_M_join_89 : decode m_M_join.2.1 89 = .ok (.iload 5, 2) := by decide +kernel
theorem q_M_join_91 : decode m_M_join.2.1 91 = .ok (.iaload, 1) := by decide +kernel
theorem q_M_join_92 : decode m_M_join.2.1 92 = .ok (.iload_n 1, 1) := by decide +kernel
theorem q_M_join_93 : decode m_M_join.2.1 93 = .ok (.if_icmp .ne 14, 3) := by decide +kernel
theorem q_M_join_96 : decode m_M_join.2.1 96 = .ok (.aload_n 0, 1) := by decide +kernel
theorem q_M_join_97 : decode m_M_join.2.1 97 = .ok (.getfield 35, 3) := by decide +kernel
theorem q_M_join_100 : decode m_M_join.2.1 100 = .ok (.iload 5, 2) := by decide +kernel
theorem q_M_join_102 : decode m_M_join.2.1 102 = .ok (.iaload, 1) := by decide +kernel
theorem q_M_join_103 : decode m_M_join.2.1 103 = .ok (.iload_n 2, 1) := by decide +kernel
theorem q_M_join_104 : decode m_M_join.2.1 104 = .ok (.if_icmp .eq 25, 3) := by decide +kernel
theorem q_M_join_107 : decode m_M_join.2.1 107 = .ok (.aload_n 0, 1) := by decide +kernel
theorem q_M_join_108 : decode m_M_join.2.1 108 = .ok (.getfield 32, 3) := by decide +kernel
theorem q_M_join_111 : decode m_M_join.2.1 111 = .ok (.iload 5, 2) := by decide +kernel
theorem q_M_join_113 : decode m_M_join.2.1 113 = .ok (.iaload, 1) := by decide +kernel
theorem q_M_join_114 : decode m_M_join.2.1 114 = .ok (.iload_n 2, 1) := by decide +kernel
theorem q_M_join_115 : decode m_M_join.2.1 115 = .ok (.if_icmp .ne 16, 3) := by decide +kernel
theorem q_M_join_118 : decode m_M_join.2.1 118 = .ok (.aload_n 0, 1) := by decide +kernel
theorem q_M_join_119 : decode m_M_join.2.1 119 = .ok (.getfield 35, 3) := by decide +kernel
theorem q_M_join_122 : decode m_M_join.2.1 122 = .ok (.iload 5, 2) := by decide +kernel
theorem q_M_join_124 : decode m_M_join.2.1 124 = .ok (.iaload, 1) := by decide +kernel
theorem q_M_join_125 : decode m_M_join.2.1 125 = .ok (.iload_n 1, 1) := by decide +kernel
theorem q_M_join_126 : decode m_M_join.2.1 126 = .ok (.if_icmp .ne 5, 3) := by decide +kernel
theorem q_M_join_129 : decode m_M_join.2.1 129 = .ok (.iconst 0, 1) := by decide +kernel
theorem q_M_join_130 : decode m_M_join.2.1 130 = .ok (.ireturn, 1) := by decide +kernel
theorem q_M_join_131 : decode m_M_join.2.1 131 = .ok (.iinc 5 1, 3) := by decide +kernel
theorem q_M_join_134 : decode m_M_join.2.1 134 = .ok (.goto (-58), 3) := by decide +kernel
theorem q_M_join_137 : decode m_M_join.2.1 137 = .ok (.aload_n 0, 1) := by decide +kernel
theorem q_M_join_138 : decode m_M_join.2.1 138 = .ok (.getfield 32, 3) := by decide +kernel
theorem q_M_join_141 : decode m_M_join.2.1 141 = .ok (.aload_n 0, 1) := by decide +kernel
theorem q_M_join_142 : decode m_M_join.2.1 142 = .ok (.getfield 103, 3) := by decide +kernel
theorem q_M_join_145 : decode m_M_join.2.1 145 = .ok (.iload_n 1, 1) := by decide +kernel
theorem q_M_join_146 : decode m_M_join.2.1 146 = .ok (.iastore, 1) := by decide +kernel
theorem q_M_join_147 : decode m_M_join.2.1 147 = .ok (.aload_n 0, 1) := by decide +kernel
theorem q_M_join_148 : decode m_M_join.2.1 148 = .ok (.getfield 35, 3) := by decide +kernel
theorem q_M_join_151 : decode m_M_join.2.1 151 = .ok (.aload_n 0, 1) := by decide +kernel
theorem q_M_join_152 : decode m_M_join.2.1 152 = .ok (.getfield 103, 3) := by decide +kernel
theorem q_M_join_155 : decode m_M_join.2.1 155 = .ok (.iload_n 2, 1) := by decide +kernel
theorem q_M_join_156 : decode m_M_join.2.1 156 = .ok (.iastore, 1) := by decide +kernel
theorem q_M_join_157 : decode m_M_join.2.1 157 = .ok (.aload_n 0, 1) := by decide +kernel
theorem q_M_join_158 : decode m_M_join.2.1 158 = .ok (.getfield 38, 3) := by decide +kernel
theorem q_M_join_161 : decode m_M_join.2.1 161 = .ok (.aload_n 0, 1) := by decide +kernel
theorem q_M_join_162 : decode m_M_join.2.1 162 = .ok (.getfield 103, 3) := by decide +kernel
theorem q_M_join_165 : decode m_M_join.2.1 165 = .ok (.lload_n 3, 1) := by decide +kernel
theorem q_M_join_166 : decode m_M_join.2.1 166 = .ok (.lastore, 1) := by decide +kernel
theorem q_M_join_167 : decode m_M_join.2.1 167 = .ok (.aload_n 0, 1) := by decide +kernel
theorem q_M_join_168 : decode m_M_join.2.1 168 = .ok (.dup, 1) := by decide +kernel
theorem q_M_join_169 : decode m_M_join.2.1 169 = .ok (.getfield 103, 3) := by decide +kernel
theorem q_M_join_172 : decode m_M_join.2.1 172 = .ok (.iconst 1, 1) := by decide +kernel
theorem q_M_join_173 : decode m_M_join.2.1 173 = .ok (.iadd, 1) := by decide +kernel
theorem q_M_join_174 : decode m_M_join.2.1 174 = .ok (.putfield 103, 3) := by decide +kernel
theorem q_M_join_177 : decode m_M_join.2.1 177 = .ok (.aload_n 0, 1) := by decide +kernel
theorem q_M_join_178 : decode m_M_join.2.1 178 = .ok (.invokevirtual 79, 3) := by decide +kernel
theorem q_M_join_181 : decode m_M_join.2.1 181 = .ok (.iconst 1, 1) := by decide +kernel
theorem q_M_join_182 : decode m_M_join.2.1 182 = .ok (.ireturn, 1) := by decide +kernel
theorem q_M_district_0 : decode m_M_district.2.1 0 = .ok (.iload_n 1, 1) := by decide +kernel
theorem q_M_district_1 : decode m_M_district.2.1 1 = .ok (.i2l, 1) := by decide +kernel
theorem q_M_district_2 : decode m_M_district.2.1 2 = .ok (.lconst 0, 1) := by decide +kernel
theorem q_M_district_3 : decode m_M_district.2.1 3 = .ok (.aload_n 0, 1) := by decide +kernel
theorem q_M_district_4 : decode m_M_district.2.1 4 = .ok (.getfield 76, 3) := by decide +kernel
theorem q_M_district_7 : decode m_M_district.2.1 7 = .ok (.i2l, 1) := by decide +kernel
theorem q_M_district_8 : decode m_M_district.2.1 8 = .ok (.lconst 1, 1) := by decide +kernel
theorem q_M_district_9 : decode m_M_district.2.1 9 = .ok (.lsub, 1) := by decide +kernel
theorem q_M_district_10 : decode m_M_district.2.1 10 = .ok (.invokestatic 72, 3) := by decide +kernel
theorem q_M_district_13 : decode m_M_district.2.1 13 = .ok (.ifCond .eq 15, 3) := by decide +kernel
theorem q_M_district_16 : decode m_M_district.2.1 16 = .ok (.iload_n 2, 1) := by decide +kernel
theorem q_M_district_17 : decode m_M_district.2.1 17 = .ok (.i2l, 1) := by decide +kernel
theorem q_M_district_18 : decode m_M_district.2.1 18 = .ok (.lconst 0, 1) := by decide +kernel
theorem q_M_district_19 : decode m_M_district.2.1 19 = .ok (.ldc2_w 106, 3) := by decide +kernel
theorem q_M_district_22 : decode m_M_district.2.1 22 = .ok (.invokestatic 72, 3) := by decide +kernel
theorem q_M_district_25 : decode m_M_district.2.1 25 = .ok (.ifCond .ne 5, 3) := by decide +kernel
theorem q_M_district_28 : decode m_M_district.2.1 28 = .ok (.iconst 0, 1) := by decide +kernel
theorem q_M_district_29 : decode m_M_district.2.1 29 = .ok (.ireturn, 1) := by decide +kernel
theorem q_M_district_30 : decode m_M_district.2.1 30 = .ok (.aload_n 0, 1) := by decide +kernel
theorem q_M_district_31 : decode m_M_district.2.1 31 = .ok (.getfield 13, 3) := by decide +kernel
theorem q_M_district_34 : decode m_M_district.2.1 34 = .ok (.iload_n 1, 1) := by decide +kernel
theorem q_M_district_35 : decode m_M_district.2.1 35 = .ok (.iload_n 2, 1) := by decide +kernel
theorem q_M_district_36 : decode m_M_district.2.1 36 = .ok (.iastore, 1) := by decide +kernel
theorem q_M_district_37 : decode m_M_district.2.1 37 = .ok (.aload_n 0, 1) := by decide +kernel
theorem q_M_district_38 : decode m_M_district.2.1 38 = .ok (.invokevirtual 79, 3) := by decide +kernel
theorem q_M_district_41 : decode m_M_district.2.1 41 = .ok (.iconst 1, 1) := by decide +kernel
theorem q_M_district_42 : decode m_M_district.2.1 42 = .ok (.ireturn, 1) := by decide +kernel
theorem q_M_fair_0 : decode m_M_fair.2.1 0 = .ok (.lload_n 1, 1) := by decide +kernel
theorem q_M_fair_1 : decode m_M_fair.2.1 1 = .ok (.ldc2_w 108, 3) := by decide +kernel
theorem q_M_fair_4 : decode m_M_fair.2.1 4 = .ok (.lcmp, 1) := by decide +kernel
theorem q_M_fair_5 : decode m_M_fair.2.1 5 = .ok (.ifCond .le 5, 3) := by decide +kernel
theorem q_M_fair_8 : decode m_M_fair.2.1 8 = .ok (.iconst 0, 1) := by decide +kernel
theorem q_M_fair_9 : decode m_M_fair.2.1 9 = .ok (.ireturn, 1) := by decide +kernel
theorem q_M_fair_10 : decode m_M_fair.2.1 10 = .ok (.aload_n 0, 1) := by decide +kernel
theorem q_M_fair_11 : decode m_M_fair.2.1 11 = .ok (.lload_n 1, 1) := by decide +kernel
theorem q_M_fair_12 : decode m_M_fair.2.1 12 = .ok (.lconst 0, 1) := by decide +kernel
theorem q_M_fair_13 : decode m_M_fair.2.1 13 = .ok (.lcmp, 1) := by decide +kernel
theorem q_M_fair_14 : decode m_M_fair.2.1 14 = .ok (.ifCond .ge 9, 3) := by decide +kernel
theorem q_M_fair_17 : decode m_M_fair.2.1 17 = .ok (.ldc2_w 41, 3) := by decide +kernel
theorem q_M_fair_20 : decode m_M_fair.2.1 20 = .ok (.goto 4, 3) := by decide +kernel
theorem q_M_fair_23 : decode m_M_fair.2.1 23 = .ok (.lload_n 1, 1) := by decide +kernel
theorem q_M_fair_24 : decode m_M_fair.2.1 24 = .ok (.putfield 43, 3) := by decide +kernel
theorem q_M_fair_27 : decode m_M_fair.2.1 27 = .ok (.aload_n 0, 1) := by decide +kernel
theorem q_M_fair_28 : decode m_M_fair.2.1 28 = .ok (.invokevirtual 79, 3) := by decide +kernel
theorem q_M_fair_31 : decode m_M_fair.2.1 31 = .ok (.iconst 1, 1) := by decide +kernel
theorem q_M_fair_32 : decode m_M_fair.2.1 32 = .ok (.ireturn, 1) := by decide +kernel
theorem q_M_setAt_0 : decode m_M_setAt.2.1 0 = .ok (.iconst 0, 1) := by decide +kernel
theorem q_M_setAt_1 : decode m_M_setAt.2.1 1 = .ok (.istore_n 2, 1) := by decide +kernel
theorem q_M_setAt_2 : decode m_M_setAt.2.1 2 = .ok (.iconst 0, 1) := by decide +kernel
theorem q_M_setAt_3 : decode m_M_setAt.2.1 3 = .ok (.istore_n 3, 1) := by decide +kernel
theorem q_M_setAt_4 : decode m_M_setAt.2.1 4 = .ok (.iload_n 3, 1) := by decide +kernel
theorem q_M_setAt_5 : decode m_M_setAt.2.1 5 = .ok (.aload_n 0, 1) := by decide +kernel
theorem q_M_setAt_6 : decode m_M_setAt.2.1 6 = .ok (.getfield 84, 3) := by decide +kernel
theorem q_M_setAt_9 : decode m_M_setAt.2.1 9 = .ok (.if_icmp .ge 34, 3) := by decide +kernel
theorem q_M_setAt_12 : decode m_M_setAt.2.1 12 = .ok (.iload_n 2, 1) := by decide +kernel
theorem q_M_setAt_13 : decode m_M_setAt.2.1 13 = .ok (.iload_n 1, 1) := by decide +kernel
theorem q_M_setAt_14 : decode m_M_setAt.2.1 14 = .ok (.aload_n 0, 1) := by decide +kernel
theorem q_M_setAt_15 : decode m_M_setAt.2.1 15 = .ok (.getfield 84, 3) := by decide +kernel
theorem q_M_setAt_18 : decode m_M_setAt.2.1 18 = .ok (.iconst 1, 1) := by decide +kernel
theorem q_M_setAt_19 : decode m_M_setAt.2.1 19 = .ok (.isub, 1) := by decide +kernel
theorem q_M_setAt_20 : decode m_M_setAt.2.1 20 = .ok (.iload_n 3, 1) := by decide +kernel
theorem q_M_setAt_21 : decode m_M_setAt.2.1 21 = .ok (.isub, 1) := by decide +kernel
theorem q_M_setAt_22 : decode m_M_setAt.2.1 22 = .ok (.ishr, 1) := by decide +kernel
theorem q_M_setAt_23 : decode m_M_setAt.2.1 23 = .ok (.iconst 1, 1) := by decide +kernel
theorem q_M_setAt_24 : decode m_M_setAt.2.1 24 = .ok (.iand, 1) := by decide +kernel
theorem q_M_setAt_25 : decode m_M_setAt.2.1 25 = .ok (.ifCond .ne 9, 3) := by decide +kernel
theorem q_M_setAt_28 : decode m_M_setAt.2.1 28 = .ok (.iconst 1, 1) := by decide +kernel
theorem q_M_setAt_29 : decode m_M_setAt.2.1 29 = .ok (.iload_n 3, 1) := by decide +kernel
theorem q_M_setAt_30 : decode m_M_setAt.2.1 30 = .ok (.ishl, 1) := by decide +kernel
theorem q_M_setAt_31 : decode m_M_setAt.2.1 31 = .ok (.goto 4, 3) := by decide +kernel
theorem q_M_setAt_34 : decode m_M_setAt.2.1 34 = .ok (.iconst 0, 1) := by decide +kernel
theorem q_M_setAt_35 : decode m_M_setAt.2.1 35 = .ok (.ior, 1) := by decide +kernel
theorem q_M_setAt_36 : decode m_M_setAt.2.1 36 = .ok (.istore_n 2, 1) := by decide +kernel
theorem q_M_setAt_37 : decode m_M_setAt.2.1 37 = .ok (.iinc 3 1, 3) := by decide +kernel
theorem q_M_setAt_40 : decode m_M_setAt.2.1 40 = .ok (.goto (-36), 3) := by decide +kernel
theorem q_M_setAt_43 : decode m_M_setAt.2.1 43 = .ok (.iload_n 2, 1) := by decide +kernel
theorem q_M_setAt_44 : decode m_M_setAt.2.1 44 = .ok (.ireturn, 1) := by decide +kernel
theorem q_M_isPlan_0 : decode m_M_isPlan.2.1 0 = .ok (.iconst 0, 1) := by decide +kernel
theorem q_M_isPlan_1 : decode m_M_isPlan.2.1 1 = .ok (.istore_n 2, 1) := by decide +kernel
theorem q_M_isPlan_2 : decode m_M_isPlan.2.1 2 = .ok (.iconst 1, 1) := by decide +kernel
theorem q_M_isPlan_3 : decode m_M_isPlan.2.1 3 = .ok (.istore_n 3, 1) := by decide +kernel
theorem q_M_isPlan_4 : decode m_M_isPlan.2.1 4 = .ok (.iconst 0, 1) := by decide +kernel
theorem q_M_isPlan_5 : decode m_M_isPlan.2.1 5 = .ok (.istore 4, 2) := by decide +kernel
theorem q_M_isPlan_7 : decode m_M_isPlan.2.1 7 = .ok (.iload 4, 2) := by decide +kernel
theorem q_M_isPlan_9 : decode m_M_isPlan.2.1 9 = .ok (.aload_n 0, 1) := by decide +kernel
theorem q_M_isPlan_10 : decode m_M_isPlan.2.1 10 = .ok (.getfield 84, 3) := by decide +kernel
theorem q_M_isPlan_13 : decode m_M_isPlan.2.1 13 = .ok (.if_icmp .ge 54, 3) := by decide +kernel
theorem q_M_isPlan_16 : decode m_M_isPlan.2.1 16 = .ok (.iload_n 3, 1) := by decide +kernel
theorem q_M_isPlan_17 : decode m_M_isPlan.2.1 17 = .ok (.ifCond .eq 50, 3) := by decide +kernel
theorem q_M_isPlan_20 : decode m_M_isPlan.2.1 20 = .ok (.iload_n 1, 1) := by decide +kernel
theorem q_M_isPlan_21 : decode m_M_isPlan.2.1 21 = .ok (.iload 4, 2) := by decide +kernel
theorem q_M_isPlan_23 : decode m_M_isPlan.2.1 23 = .ok (.invokestatic 94, 3) := by decide +kernel
theorem q_M_isPlan_26 : decode m_M_isPlan.2.1 26 = .ok (.ifCond .eq 35, 3) := by decide +kernel
theorem q_M_isPlan_29 : decode m_M_isPlan.2.1 29 = .ok (.iload_n 2, 1) := by decide +kernel
theorem q_M_isPlan_30 : decode m_M_isPlan.2.1 30 = .ok (.aload_n 0, 1) := by decide +kernel
theorem q_M_isPlan_31 : decode m_M_isPlan.2.1 31 = .ok (.getfield 16, 3) := by decide +kernel
theorem q_M_isPlan_34 : decode m_M_isPlan.2.1 34 = .ok (.iload 4, 2) := by decide +kernel
theorem q_M_isPlan_36 : decode m_M_isPlan.2.1 36 = .ok (.iaload, 1) := by decide +kernel
theorem q_M_isPlan_37 : decode m_M_isPlan.2.1 37 = .ok (.ishr, 1) := by decide +kernel
theorem q_M_isPlan_38 : decode m_M_isPlan.2.1 38 = .ok (.iconst 1, 1) := by decide +kernel
theorem q_M_isPlan_39 : decode m_M_isPlan.2.1 39 = .ok (.iand, 1) := by decide +kernel
theorem q_M_isPlan_40 : decode m_M_isPlan.2.1 40 = .ok (.ifCond .ne 7, 3) := by decide +kernel
theorem q_M_isPlan_43 : decode m_M_isPlan.2.1 43 = .ok (.iconst 1, 1) := by decide +kernel
theorem q_M_isPlan_44 : decode m_M_isPlan.2.1 44 = .ok (.goto 4, 3) := by decide +kernel
theorem q_M_isPlan_47 : decode m_M_isPlan.2.1 47 = .ok (.iconst 0, 1) := by decide +kernel
theorem q_M_isPlan_48 : decode m_M_isPlan.2.1 48 = .ok (.istore_n 3, 1) := by decide +kernel
theorem q_M_isPlan_49 : decode m_M_isPlan.2.1 49 = .ok (.iload_n 2, 1) := by decide +kernel
theorem q_M_isPlan_50 : decode m_M_isPlan.2.1 50 = .ok (.iconst 1, 1) := by decide +kernel
theorem q_M_isPlan_51 : decode m_M_isPlan.2.1 51 = .ok (.aload_n 0, 1) := by decide +kernel
theorem q_M_isPlan_52 : decode m_M_isPlan.2.1 52 = .ok (.getfield 16, 3) := by decide +kernel
theorem q_M_isPlan_55 : decode m_M_isPlan.2.1 55 = .ok (.iload 4, 2) := by decide +kernel
theorem q_M_isPlan_57 : decode m_M_isPlan.2.1 57 = .ok (.iaload, 1) := by decide +kernel
theorem q_M_isPlan_58 : decode m_M_isPlan.2.1 58 = .ok (.ishl, 1) := by decide +kernel
theorem q_M_isPlan_59 : decode m_M_isPlan.2.1 59 = .ok (.ior, 1) := by decide +kernel
theorem q_M_isPlan_60 : decode m_M_isPlan.2.1 60 = .ok (.istore_n 2, 1) := by decide +kernel
theorem q_M_isPlan_61 : decode m_M_isPlan.2.1 61 = .ok (.iinc 4 1, 3) := by decide +kernel
theorem q_M_isPlan_64 : decode m_M_isPlan.2.1 64 = .ok (.goto (-57), 3) := by decide +kernel
theorem q_M_isPlan_67 : decode m_M_isPlan.2.1 67 = .ok (.iload_n 3, 1) := by decide +kernel
theorem q_M_isPlan_68 : decode m_M_isPlan.2.1 68 = .ok (.ireturn, 1) := by decide +kernel
theorem q_M_spentIn_0 : decode m_M_spentIn.2.1 0 = .ok (.lconst 0, 1) := by decide +kernel
theorem q_M_spentIn_1 : decode m_M_spentIn.2.1 1 = .ok (.lstore_n 3, 1) := by decide +kernel
theorem q_M_spentIn_2 : decode m_M_spentIn.2.1 2 = .ok (.iconst 0, 1) := by decide +kernel
theorem q_M_spentIn_3 : decode m_M_spentIn.2.1 3 = .ok (.istore 5, 2) := by decide +kernel
theorem q_M_spentIn_5 : decode m_M_spentIn.2.1 5 = .ok (.iload 5, 2) := by decide +kernel
theorem q_M_spentIn_7 : decode m_M_spentIn.2.1 7 = .ok (.aload_n 0, 1) := by decide +kernel
theorem q_M_spentIn_8 : decode m_M_spentIn.2.1 8 = .ok (.getfield 84, 3) := by decide +kernel
theorem q_M_spentIn_11 : decode m_M_spentIn.2.1 11 = .ok (.if_icmp .ge 43, 3) := by decide +kernel
theorem q_M_spentIn_14 : decode m_M_spentIn.2.1 14 = .ok (.lload_n 3, 1) := by decide +kernel
theorem q_M_spentIn_15 : decode m_M_spentIn.2.1 15 = .ok (.iload_n 1, 1) := by decide +kernel
theorem q_M_spentIn_16 : decode m_M_spentIn.2.1 16 = .ok (.iload 5, 2) := by decide +kernel
theorem q_M_spentIn_18 : decode m_M_spentIn.2.1 18 = .ok (.invokestatic 94, 3) := by decide +kernel
theorem q_M_spentIn_21 : decode m_M_spentIn.2.1 21 = .ok (.ifCond .eq 24, 3) := by decide +kernel
theorem q_M_spentIn_24 : decode m_M_spentIn.2.1 24 = .ok (.aload_n 0, 1) := by decide +kernel
theorem q_M_spentIn_25 : decode m_M_spentIn.2.1 25 = .ok (.getfield 19, 3) := by decide +kernel
theorem q_M_spentIn_28 : decode m_M_spentIn.2.1 28 = .ok (.iload 5, 2) := by decide +kernel
theorem q_M_spentIn_30 : decode m_M_spentIn.2.1 30 = .ok (.iaload, 1) := by decide +kernel
theorem q_M_spentIn_31 : decode m_M_spentIn.2.1 31 = .ok (.iload_n 2, 1) := by decide +kernel
theorem q_M_spentIn_32 : decode m_M_spentIn.2.1 32 = .ok (.if_icmp .ne 13, 3) := by decide +kernel
theorem q_M_spentIn_35 : decode m_M_spentIn.2.1 35 = .ok (.aload_n 0, 1) := by decide +kernel
theorem q_M_spentIn_36 : decode m_M_spentIn.2.1 36 = .ok (.getfield 22, 3) := by decide +kernel
theorem q_M_spentIn_39 : decode m_M_spentIn.2.1 39 = .ok (.iload 5, 2) := by decide +kernel
theorem q_M_spentIn_41 : decode m_M_spentIn.2.1 41 = .ok (.laload, 1) := by decide +kernel
theorem q_M_spentIn_42 : decode m_M_spentIn.2.1 42 = .ok (.goto 4, 3) := by decide +kernel
theorem q_M_spentIn_45 : decode m_M_spentIn.2.1 45 = .ok (.lconst 0, 1) := by decide +kernel
theorem q_M_spentIn_46 : decode m_M_spentIn.2.1 46 = .ok (.ladd, 1) := by decide +kernel
theorem q_M_spentIn_47 : decode m_M_spentIn.2.1 47 = .ok (.lstore_n 3, 1) := by decide +kernel
theorem q_M_spentIn_48 : decode m_M_spentIn.2.1 48 = .ok (.iinc 5 1, 3) := by decide +kernel
theorem q_M_spentIn_51 : decode m_M_spentIn.2.1 51 = .ok (.goto (-46), 3) := by decide +kernel
theorem q_M_spentIn_54 : decode m_M_spentIn.2.1 54 = .ok (.iconst 0, 1) := by decide +kernel
theorem q_M_spentIn_55 : decode m_M_spentIn.2.1 55 = .ok (.istore 5, 2) := by decide +kernel
theorem q_M_spentIn_57 : decode m_M_spentIn.2.1 57 = .ok (.iload 5, 2) := by decide +kernel
theorem q_M_spentIn_59 : decode m_M_spentIn.2.1 59 = .ok (.aload_n 0, 1) := by decide +kernel
theorem q_M_spentIn_60 : decode m_M_spentIn.2.1 60 = .ok (.getfield 103, 3) := by decide +kernel
theorem q_M_spentIn_63 : decode m_M_spentIn.2.1 63 = .ok (.if_icmp .ge 67, 3) := by decide +kernel
theorem q_M_spentIn_66 : decode m_M_spentIn.2.1 66 = .ok (.lload_n 3, 1) := by decide +kernel
theorem q_M_spentIn_67 : decode m_M_spentIn.2.1 67 = .ok (.iload_n 1, 1) := by decide +kernel
theorem q_M_spentIn_68 : decode m_M_spentIn.2.1 68 = .ok (.aload_n 0, 1) := by decide +kernel
theorem q_M_spentIn_69 : decode m_M_spentIn.2.1 69 = .ok (.getfield 32, 3) := by decide +kernel
theorem q_M_spentIn_72 : decode m_M_spentIn.2.1 72 = .ok (.iload 5, 2) := by decide +kernel
theorem q_M_spentIn_74 : decode m_M_spentIn.2.1 74 = .ok (.iaload, 1) := by decide +kernel
theorem q_M_spentIn_75 : decode m_M_spentIn.2.1 75 = .ok (.invokestatic 94, 3) := by decide +kernel
theorem q_M_spentIn_78 : decode m_M_spentIn.2.1 78 = .ok (.ifCond .eq 43, 3) := by decide +kernel
theorem q_M_spentIn_81 : decode m_M_spentIn.2.1 81 = .ok (.iload_n 1, 1) := by decide +kernel
theorem q_M_spentIn_82 : decode m_M_spentIn.2.1 82 = .ok (.aload_n 0, 1) := by decide +kernel
theorem q_M_spentIn_83 : decode m_M_spentIn.2.1 83 = .ok (.getfield 35, 3) := by decide +kernel
theorem q_M_spentIn_86 : decode m_M_spentIn.2.1 86 = .ok (.iload 5, 2) := by decide +kernel
theorem q_M_spentIn_88 : decode m_M_spentIn.2.1 88 = .ok (.iaload, 1) := by decide +kernel
theorem q_M_spentIn_89 : decode m_M_spentIn.2.1 89 = .ok (.invokestatic 94, 3) := by decide +kernel
theorem q_M_spentIn_92 : decode m_M_spentIn.2.1 92 = .ok (.ifCond .eq 29, 3) := by decide +kernel
theorem q_M_spentIn_95 : decode m_M_spentIn.2.1 95 = .ok (.aload_n 0, 1) := by decide +kernel
theorem q_M_spentIn_96 : decode m_M_spentIn.2.1 96 = .ok (.getfield 19, 3) := by decide +kernel
theorem q_M_spentIn_99 : decode m_M_spentIn.2.1 99 = .ok (.aload_n 0, 1) := by decide +kernel
theorem q_M_spentIn_100 : decode m_M_spentIn.2.1 100 = .ok (.getfield 32, 3) := by decide +kernel
theorem q_M_spentIn_103 : decode m_M_spentIn.2.1 103 = .ok (.iload 5, 2) := by decide +kernel
theorem q_M_spentIn_105 : decode m_M_spentIn.2.1 105 = .ok (.iaload, 1) := by decide +kernel
theorem q_M_spentIn_106 : decode m_M_spentIn.2.1 106 = .ok (.iaload, 1) := by decide +kernel
theorem q_M_spentIn_107 : decode m_M_spentIn.2.1 107 = .ok (.iload_n 2, 1) := by decide +kernel
theorem q_M_spentIn_108 : decode m_M_spentIn.2.1 108 = .ok (.if_icmp .ne 13, 3) := by decide +kernel
theorem q_M_spentIn_111 : decode m_M_spentIn.2.1 111 = .ok (.aload_n 0, 1) := by decide +kernel
theorem q_M_spentIn_112 : decode m_M_spentIn.2.1 112 = .ok (.getfield 38, 3) := by decide +kernel
theorem q_M_spentIn_115 : decode m_M_spentIn.2.1 115 = .ok (.iload 5, 2) := by decide +kernel
theorem q_M_spentIn_117 : decode m_M_spentIn.2.1 117 = .ok (.laload, 1) := by decide +kernel
theorem q_M_spentIn_118 : decode m_M_spentIn.2.1 118 = .ok (.goto 4, 3) := by decide +kernel
theorem q_M_spentIn_121 : decode m_M_spentIn.2.1 121 = .ok (.lconst 0, 1) := by decide +kernel
theorem q_M_spentIn_122 : decode m_M_spentIn.2.1 122 = .ok (.lsub, 1) := by decide +kernel
theorem q_M_spentIn_123 : decode m_M_spentIn.2.1 123 = .ok (.lstore_n 3, 1) := by decide +kernel
theorem q_M_spentIn_124 : decode m_M_spentIn.2.1 124 = .ok (.iinc 5 1, 3) := by decide +kernel
theorem q_M_spentIn_127 : decode m_M_spentIn.2.1 127 = .ok (.goto (-70), 3) := by decide +kernel
theorem q_M_spentIn_130 : decode m_M_spentIn.2.1 130 = .ok (.lload_n 3, 1) := by decide +kernel
theorem q_M_spentIn_131 : decode m_M_spentIn.2.1 131 = .ok (.lconst 0, 1) := by decide +kernel
theorem q_M_spentIn_132 : decode m_M_spentIn.2.1 132 = .ok (.lcmp, 1) := by decide +kernel
theorem q_M_spentIn_133 : decode m_M_spentIn.2.1 133 = .ok (.ifCond .ge 7, 3) := by decide +kernel
theorem q_M_spentIn_136 : decode m_M_spentIn.2.1 136 = .ok (.lconst 0, 1) := by decide +kernel
theorem q_M_spentIn_137 : decode m_M_spentIn.2.1 137 = .ok (.goto 4, 3) := by decide +kernel
theorem q_M_spentIn_140 : decode m_M_spentIn.2.1 140 = .ok (.lload_n 3, 1) := by decide +kernel
theorem q_M_spentIn_141 : decode m_M_spentIn.2.1 141 = .ok (.lreturn, 1) := by decide +kernel
theorem q_M_fits_0 : decode m_M_fits.2.1 0 = .ok (.aload_n 0, 1) := by decide +kernel
theorem q_M_fits_1 : decode m_M_fits.2.1 1 = .ok (.iload_n 1, 1) := by decide +kernel
theorem q_M_fits_2 : decode m_M_fits.2.1 2 = .ok (.invokevirtual 110, 3) := by decide +kernel
theorem q_M_fits_5 : decode m_M_fits.2.1 5 = .ok (.istore_n 2, 1) := by decide +kernel
theorem q_M_fits_6 : decode m_M_fits.2.1 6 = .ok (.iconst 0, 1) := by decide +kernel
theorem q_M_fits_7 : decode m_M_fits.2.1 7 = .ok (.istore_n 3, 1) := by decide +kernel
theorem q_M_fits_8 : decode m_M_fits.2.1 8 = .ok (.iload_n 3, 1) := by decide +kernel
theorem q_M_fits_9 : decode m_M_fits.2.1 9 = .ok (.aload_n 0, 1) := by decide +kernel
theorem q_M_fits_10 : decode m_M_fits.2.1 10 = .ok (.getfield 63, 3) := by decide +kernel
theorem q_M_fits_13 : decode m_M_fits.2.1 13 = .ok (.if_icmp .ge 35, 3) := by decide +kernel
theorem q_M_fits_16 : decode m_M_fits.2.1 16 = .ok (.iload_n 2, 1) := by decide +kernel
theorem q_M_fits_17 : decode m_M_fits.2.1 17 = .ok (.ifCond .eq 31, 3) := by decide +kernel
theorem q_M_fits_20 : decode m_M_fits.2.1 20 = .ok (.aload_n 0, 1) := by decide +kernel
theorem q_M_fits_21 : decode m_M_fits.2.1 21 = .ok (.iload_n 1, 1) := by decide +kernel
theorem q_M_fits_22 : decode m_M_fits.2.1 22 = .ok (.iload_n 3, 1) := by decide +kernel
theorem q_M_fits_23 : decode m_M_fits.2.1 23 = .ok (.invokevirtual 113, 3) := by decide +kernel
theorem q_M_fits_26 : decode m_M_fits.2.1 26 = .ok (.aload_n 0, 1) := by decide +kernel
theorem q_M_fits_27 : decode m_M_fits.2.1 27 = .ok (.getfield 29, 3) := by decide +kernel
theorem q_M_fits_30 : decode m_M_fits.2.1 30 = .ok (.iload_n 3, 1) := by decide +kernel
theorem q_M_fits_31 : decode m_M_fits.2.1 31 = .ok (.laload, 1) := by decide +kernel
theorem q_M_fits_32 : decode m_M_fits.2.1 32 = .ok (.lcmp, 1) := by decide +kernel
theorem q_M_fits_33 : decode m_M_fits.2.1 33 = .ok (.ifCond .gt 7, 3) := by decide +kernel
theorem q_M_fits_36 : decode m_M_fits.2.1 36 = .ok (.iconst 1, 1) := by decide +kernel
theorem q_M_fits_37 : decode m_M_fits.2.1 37 = .ok (.goto 4, 3) := by decide +kernel
theorem q_M_fits_40 : decode m_M_fits.2.1 40 = .ok (.iconst 0, 1) := by decide +kernel
theorem q_M_fits_41 : decode m_M_fits.2.1 41 = .ok (.istore_n 2, 1) := by decide +kernel
theorem q_M_fits_42 : decode m_M_fits.2.1 42 = .ok (.iinc 3 1, 3) := by decide +kernel
theorem q_M_fits_45 : decode m_M_fits.2.1 45 = .ok (.goto (-37), 3) := by decide +kernel
theorem q_M_fits_48 : decode m_M_fits.2.1 48 = .ok (.iload_n 2, 1) := by decide +kernel
theorem q_M_fits_49 : decode m_M_fits.2.1 49 = .ok (.ireturn, 1) := by decide +kernel
theorem q_M_isFair_0 : decode m_M_isFair.2.1 0 = .ok (.aload_n 0, 1) := by decide +kernel
theorem q_M_isFair_1 : decode m_M_isFair.2.1 1 = .ok (.getfield 43, 3) := by decide +kernel
theorem q_M_isFair_4 : decode m_M_isFair.2.1 4 = .ok (.lconst 0, 1) := by decide +kernel
theorem q_M_isFair_5 : decode m_M_isFair.2.1 5 = .ok (.lcmp, 1) := by decide +kernel
theorem q_M_isFair_6 : decode m_M_isFair.2.1 6 = .ok (.ifCond .ge 5, 3) := by decide +kernel
theorem q_M_isFair_9 : decode m_M_isFair.2.1 9 = .ok (.iconst 1, 1) := by decide +kernel
theorem q_M_isFair_10 : decode m_M_isFair.2.1 10 = .ok (.ireturn, 1) := by decide +kernel
theorem q_M_isFair_11 : decode m_M_isFair.2.1 11 = .ok (.iconst 0, 1) := by decide +kernel
theorem q_M_isFair_12 : decode m_M_isFair.2.1 12 = .ok (.istore_n 2, 1) := by decide +kernel
theorem q_M_isFair_13 : decode m_M_isFair.2.1 13 = .ok (.iconst 0, 1) := by decide +kernel
theorem q_M_isFair_14 : decode m_M_isFair.2.1 14 = .ok (.istore_n 3, 1) := by decide +kernel
theorem q_M_isFair_15 : decode m_M_isFair.2.1 15 = .ok (.iload_n 3, 1) := by decide +kernel
theorem q_M_isFair_16 : decode m_M_isFair.2.1 16 = .ok (.iconst 4, 1) := by decide +kernel
theorem q_M_isFair_17 : decode m_M_isFair.2.1 17 = .ok (.if_icmp .ge 16, 3) := by decide +kernel
theorem q_M_isFair_20 : decode m_M_isFair.2.1 20 = .ok (.aload_n 0, 1) := by decide +kernel
theorem q_M_isFair_21 : decode m_M_isFair.2.1 21 = .ok (.getfield 54, 3) := by decide +kernel
theorem q_M_isFair_24 : decode m_M_isFair.2.1 24 = .ok (.iload_n 3, 1) := by decide +kernel
theorem q_M_isFair_25 : decode m_M_isFair.2.1 25 = .ok (.lconst 0, 1) := by decide +kernel
theorem q_M_isFair_26 : decode m_M_isFair.2.1 26 = .ok (.lastore, 1) := by decide +kernel
theorem q_M_isFair_27 : decode m_M_isFair.2.1 27 = .ok (.iinc 3 1, 3) := by decide +kernel
theorem q_M_isFair_30 : decode m_M_isFair.2.1 30 = .ok (.goto (-15), 3) := by decide +kernel
theorem q_M_isFair_33 : decode m_M_isFair.2.1 33 = .ok (.iconst 0, 1) := by decide +kernel
theorem q_M_isFair_34 : decode m_M_isFair.2.1 34 = .ok (.istore_n 3, 1) := by decide +kernel
theorem q_M_isFair_35 : decode m_M_isFair.2.1 35 = .ok (.iload_n 3, 1) := by decide +kernel
theorem q_M_isFair_36 : decode m_M_isFair.2.1 36 = .ok (.aload_n 0, 1) := by decide +kernel
theorem q_M_isFair_37 : decode m_M_isFair.2.1 37 = .ok (.getfield 76, 3) := by decide +kernel
theorem q_M_isFair_40 : decode m_M_isFair.2.1 40 = .ok (.if_icmp .ge 20, 3) := by decide +kernel
theorem q_M_isFair_43 : decode m_M_isFair.2.1 43 = .ok (.iload_n 2, 1) := by decide +kernel
theorem q_M_isFair_44 : decode m_M_isFair.2.1 44 = .ok (.iconst 1, 1) := by decide +kernel
theorem q_M_isFair_45 : decode m_M_isFair.2.1 45 = .ok (.aload_n 0, 1) := by decide +kernel
theorem q_M_isFair_46 : decode m_M_isFair.2.1 46 = .ok (.getfield 13, 3) := by decide +kernel
theorem q_M_isFair_49 : decode m_M_isFair.2.1 49 = .ok (.iload_n 3, 1) := by decide +kernel
theorem q_M_isFair_50 : decode m_M_isFair.2.1 50 = .ok (.iaload, 1) := by decide +kernel
theorem q_M_isFair_51 : decode m_M_isFair.2.1 51 = .ok (.ishl, 1) := by decide +kernel
theorem q_M_isFair_52 : decode m_M_isFair.2.1 52 = .ok (.ior, 1) := by decide +kernel
theorem q_M_isFair_53 : decode m_M_isFair.2.1 53 = .ok (.istore_n 2, 1) := by decide +kernel
theorem q_M_isFair_54 : decode m_M_isFair.2.1 54 = .ok (.iinc 3 1, 3) := by decide +kernel
theorem q_M_isFair_57 : decode m_M_isFair.2.1 57 = .ok (.goto (-22), 3) := by decide +kernel
theorem q_M_isFair_60 : decode m_M_isFair.2.1 60 = .ok (.iconst 0, 1) := by decide +kernel
theorem q_M_isFair_61 : decode m_M_isFair.2.1 61 = .ok (.istore_n 3, 1) := by decide +kernel
theorem q_M_isFair_62 : decode m_M_isFair.2.1 62 = .ok (.iload_n 3, 1) := by decide +kernel
theorem q_M_isFair_63 : decode m_M_isFair.2.1 63 = .ok (.aload_n 0, 1) := by decide +kernel
theorem q_M_isFair_64 : decode m_M_isFair.2.1 64 = .ok (.getfield 84, 3) := by decide +kernel
theorem q_M_isFair_67 : decode m_M_isFair.2.1 67 = .ok (.if_icmp .ge 46, 3) := by decide +kernel
theorem q_M_isFair_70 : decode m_M_isFair.2.1 70 = .ok (.aload_n 0, 1) := by decide +kernel
theorem q_M_isFair_71 : decode m_M_isFair.2.1 71 = .ok (.getfield 54, 3) := by decide +kernel
theorem q_M_isFair_74 : decode m_M_isFair.2.1 74 = .ok (.aload_n 0, 1) := by decide +kernel
theorem q_M_isFair_75 : decode m_M_isFair.2.1 75 = .ok (.getfield 13, 3) := by decide +kernel
theorem q_M_isFair_78 : decode m_M_isFair.2.1 78 = .ok (.aload_n 0, 1) := by decide +kernel
theorem q_M_isFair_79 : decode m_M_isFair.2.1 79 = .ok (.getfield 16, 3) := by decide +kernel
theorem q_M_isFair_82 : decode m_M_isFair.2.1 82 = .ok (.iload_n 3, 1) := by decide +kernel
theorem q_M_isFair_83 : decode m_M_isFair.2.1 83 = .ok (.iaload, 1) := by decide +kernel
theorem q_M_isFair_84 : decode m_M_isFair.2.1 84 = .ok (.iaload, 1) := by decide +kernel
theorem q_M_isFair_85 : decode m_M_isFair.2.1 85 = .ok (.dup2, 1) := by decide +kernel
theorem q_M_isFair_86 : decode m_M_isFair.2.1 86 = .ok (.laload, 1) := by decide +kernel
theorem q_M_isFair_87 : decode m_M_isFair.2.1 87 = .ok (.iload_n 1, 1) := by decide +kernel
theorem q_M_isFair_88 : decode m_M_isFair.2.1 88 = .ok (.iload_n 3, 1) := by decide +kernel
theorem q_M_isFair_89 : decode m_M_isFair.2.1 89 = .ok (.invokestatic 94, 3) := by decide +kernel
theorem q_M_isFair_92 : decode m_M_isFair.2.1 92 = .ok (.ifCond .eq 12, 3) := by decide +kernel
theorem q_M_isFair_95 : decode m_M_isFair.2.1 95 = .ok (.aload_n 0, 1) := by decide +kernel
theorem q_M_isFair_96 : decode m_M_isFair.2.1 96 = .ok (.getfield 26, 3) := by decide +kernel
theorem q_M_isFair_99 : decode m_M_isFair.2.1 99 = .ok (.iload_n 3, 1) := by decide +kernel
theorem q_M_isFair_100 : decode m_M_isFair.2.1 100 = .ok (.laload, 1) := by decide +kernel
theorem q_M_isFair_101 : decode m_M_isFair.2.1 101 = .ok (.goto 4, 3) := by decide +kernel
theorem q_M_isFair_104 : decode m_M_isFair.2.1 104 = .ok (.lconst 0, 1) := by decide +kernel
theorem q_M_isFair_105 : decode m_M_isFair.2.1 105 = .ok (.ladd, 1) := by decide +kernel
theorem q_M_isFair_106 : decode m_M_isFair.2.1 106 = .ok (.lastore, 1) := by decide +kernel
theorem q_M_isFair_107 : decode m_M_isFair.2.1 107 = .ok (.iinc 3 1, 3) := by decide +kernel
theorem q_M_isFair_110 : decode m_M_isFair.2.1 110 = .ok (.goto (-48), 3) := by decide +kernel
theorem q_M_isFair_113 : decode m_M_isFair.2.1 113 = .ok (.ldc2_w 41, 3) := by decide +kernel
theorem q_M_isFair_116 : decode m_M_isFair.2.1 116 = .ok (.lstore_n 3, 1) := by decide +kernel
theorem q_M_isFair_117 : decode m_M_isFair.2.1 117 = .ok (.lconst 0, 1) := by decide +kernel
theorem q_M_isFair_118 : decode m_M_isFair.2.1 118 = .ok (.lstore 5, 2) := by decide +kernel
theorem q_M_isFair_120 : decode m_M_isFair.2.1 120 = .ok (.iconst 0, 1) := by decide +kernel
theorem q_M_isFair_121 : decode m_M_isFair.2.1 121 = .ok (.istore 7, 2) := by decide +kernel
theorem q_M_isFair_123 : decode m_M_isFair.2.1 123 = .ok (.iload 7, 2) := by decide +kernel
theorem q_M_isFair_125 : decode m_M_isFair.2.1 125 = .ok (.iconst 4, 1) := by decide +kernel
theorem q_M_isFair_126 : decode m_M_isFair.2.1 126 = .ok (.if_icmp .ge 75, 3) := by decide +kernel
theorem q_M_isFair_129 : decode m_M_isFair.2.1 129 = .ok (.iload_n 2, 1) := by decide +kernel
theorem q_M_isFair_130 : decode m_M_isFair.2.1 130 = .ok (.iload 7, 2) := by decide +kernel
theorem q_M_isFair_132 : decode m_M_isFair.2.1 132 = .ok (.invokestatic 94, 3) := by decide +kernel
theorem q_M_isFair_135 : decode m_M_isFair.2.1 135 = .ok (.ifCond .eq 60, 3) := by decide +kernel
theorem q_M_isFair_138 : decode m_M_isFair.2.1 138 = .ok (.lload_n 3, 1) := by decide +kernel
theorem q_M_isFair_139 : decode m_M_isFair.2.1 139 = .ok (.lconst 0, 1) := by decide +kernel
theorem q_M_isFair_140 : decode m_M_isFair.2.1 140 = .ok (.lcmp, 1) := by decide +kernel
theorem q_M_isFair_141 : decode m_M_isFair.2.1 141 = .ok (.ifCond .lt 15, 3) := by decide +kernel
theorem q_M_isFair_144 : decode m_M_isFair.2.1 144 = .ok (.aload_n 0, 1) := by decide +kernel
theorem q_M_isFair_145 : decode m_M_isFair.2.1 145 = .ok (.getfield 54, 3) := by decide +kernel
theorem q_M_isFair_148 : decode m_M_isFair.2.1 148 = .ok (.iload 7, 2) := by decide +kernel
theorem q_M_isFair_150 : decode m_M_isFair.2.1 150 = .ok (.laload, 1) := by decide +kernel
theorem q_M_isFair_151 : decode m_M_isFair.2.1 151 = .ok (.lload_n 3, 1) := by decide +kernel
theorem q_M_isFair_152 : decode m_M_isFair.2.1 152 = .ok (.lcmp, 1) := by decide +kernel
theorem q_M_isFair_153 : decode m_M_isFair.2.1 153 = .ok (.ifCond .ge 13, 3) := by decide +kernel
theorem q_M_isFair_156 : decode m_M_isFair.2.1 156 = .ok (.aload_n 0, 1) := by decide +kernel
theorem q_M_isFair_157 : decode m_M_isFair.2.1 157 = .ok (.getfield 54, 3) := by decide +kernel
theorem q_M_isFair_160 : decode m_M_isFair.2.1 160 = .ok (.iload 7, 2) := by decide +kernel
theorem q_M_isFair_162 : decode m_M_isFair.2.1 162 = .ok (.laload, 1) := by decide +kernel
theorem q_M_isFair_163 : decode m_M_isFair.2.1 163 = .ok (.goto 4, 3) := by decide +kernel
theorem q_M_isFair_166 : decode m_M_isFair.2.1 166 = .ok (.lload_n 3, 1) := by decide +kernel
theorem q_M_isFair_167 : decode m_M_isFair.2.1 167 = .ok (.lstore_n 3, 1) := by decide +kernel
theorem q_M_isFair_168 : decode m_M_isFair.2.1 168 = .ok (.aload_n 0, 1) := by decide +kernel
theorem q_M_isFair_169 : decode m_M_isFair.2.1 169 = .ok (.getfield 54, 3) := by decide +kernel
theorem q_M_isFair_172 : decode m_M_isFair.2.1 172 = .ok (.iload 7, 2) := by decide +kernel
theorem q_M_isFair_174 : decode m_M_isFair.2.1 174 = .ok (.laload, 1) := by decide +kernel
theorem q_M_isFair_175 : decode m_M_isFair.2.1 175 = .ok (.lload 5, 2) := by decide +kernel
theorem q_M_isFair_177 : decode m_M_isFair.2.1 177 = .ok (.lcmp, 1) := by decide +kernel
theorem q_M_isFair_178 : decode m_M_isFair.2.1 178 = .ok (.ifCond .le 13, 3) := by decide +kernel
theorem q_M_isFair_181 : decode m_M_isFair.2.1 181 = .ok (.aload_n 0, 1) := by decide +kernel
theorem q_M_isFair_182 : decode m_M_isFair.2.1 182 = .ok (.getfield 54, 3) := by decide +kernel
theorem q_M_isFair_185 : decode m_M_isFair.2.1 185 = .ok (.iload 7, 2) := by decide +kernel
theorem q_M_isFair_187 : decode m_M_isFair.2.1 187 = .ok (.laload, 1) := by decide +kernel
theorem q_M_isFair_188 : decode m_M_isFair.2.1 188 = .ok (.goto 5, 3) := by decide +kernel
theorem q_M_isFair_191 : decode m_M_isFair.2.1 191 = .ok (.lload 5, 2) := by decide +kernel
theorem q_M_isFair_193 : decode m_M_isFair.2.1 193 = .ok (.lstore 5, 2) := by decide +kernel
theorem q_M_isFair_195 : decode m_M_isFair.2.1 195 = .ok (.iinc 7 1, 3) := by decide +kernel
theorem q_M_isFair_198 : decode m_M_isFair.2.1 198 = .ok (.goto (-75), 3) := by decide +kernel
theorem q_M_isFair_201 : decode m_M_isFair.2.1 201 = .ok (.lload_n 3, 1) := by decide +kernel
theorem q_M_isFair_202 : decode m_M_isFair.2.1 202 = .ok (.lconst 0, 1) := by decide +kernel
theorem q_M_isFair_203 : decode m_M_isFair.2.1 203 = .ok (.lcmp, 1) := by decide +kernel
theorem q_M_isFair_204 : decode m_M_isFair.2.1 204 = .ok (.ifCond .lt 15, 3) := by decide +kernel
theorem q_M_isFair_207 : decode m_M_isFair.2.1 207 = .ok (.lload 5, 2) := by decide +kernel
theorem q_M_isFair_209 : decode m_M_isFair.2.1 209 = .ok (.lload_n 3, 1) := by decide +kernel
theorem q_M_isFair_210 : decode m_M_isFair.2.1 210 = .ok (.lsub, 1) := by decide +kernel
theorem q_M_isFair_211 : decode m_M_isFair.2.1 211 = .ok (.aload_n 0, 1) := by decide +kernel
theorem q_M_isFair_212 : decode m_M_isFair.2.1 212 = .ok (.getfield 43, 3) := by decide +kernel
theorem q_M_isFair_215 : decode m_M_isFair.2.1 215 = .ok (.lcmp, 1) := by decide +kernel
theorem q_M_isFair_216 : decode m_M_isFair.2.1 216 = .ok (.ifCond .gt 7, 3) := by decide +kernel
theorem q_M_isFair_219 : decode m_M_isFair.2.1 219 = .ok (.iconst 1, 1) := by decide +kernel
theorem q_M_isFair_220 : decode m_M_isFair.2.1 220 = .ok (.goto 4, 3) := by decide +kernel
theorem q_M_isFair_223 : decode m_M_isFair.2.1 223 = .ok (.iconst 0, 1) := by decide +kernel
theorem q_M_isFair_224 : decode m_M_isFair.2.1 224 = .ok (.ireturn, 1) := by decide +kernel
theorem q_M_holdsWith_0 : decode m_M_holdsWith.2.1 0 = .ok (.iload_n 1, 1) := by decide +kernel
theorem q_M_holdsWith_1 : decode m_M_holdsWith.2.1 1 = .ok (.iload_n 2, 1) := by decide +kernel
theorem q_M_holdsWith_2 : decode m_M_holdsWith.2.1 2 = .ok (.iand, 1) := by decide +kernel
theorem q_M_holdsWith_3 : decode m_M_holdsWith.2.1 3 = .ok (.iload_n 2, 1) := by decide +kernel
theorem q_M_holdsWith_4 : decode m_M_holdsWith.2.1 4 = .ok (.if_icmp .ne 31, 3) := by decide +kernel
theorem q_M_holdsWith_7 : decode m_M_holdsWith.2.1 7 = .ok (.aload_n 0, 1) := by decide +kernel
theorem q_M_holdsWith_8 : decode m_M_holdsWith.2.1 8 = .ok (.iload_n 1, 1) := by decide +kernel
theorem q_M_holdsWith_9 : decode m_M_holdsWith.2.1 9 = .ok (.invokevirtual 110, 3) := by decide +kernel
theorem q_M_holdsWith_12 : decode m_M_holdsWith.2.1 12 = .ok (.ifCond .eq 23, 3) := by decide +kernel
theorem q_M_holdsWith_15 : decode m_M_holdsWith.2.1 15 = .ok (.aload_n 0, 1) := by decide +kernel
theorem q_M_holdsWith_16 : decode m_M_holdsWith.2.1 16 = .ok (.iload_n 1, 1) := by decide +kernel
theorem q_M_holdsWith_17 : decode m_M_holdsWith.2.1 17 = .ok (.invokevirtual 117, 3) := by decide +kernel
theorem q_M_holdsWith_20 : decode m_M_holdsWith.2.1 20 = .ok (.ifCond .eq 15, 3) := by decide +kernel
theorem q_M_holdsWith_23 : decode m_M_holdsWith.2.1 23 = .ok (.aload_n 0, 1) := by decide +kernel
theorem q_M_holdsWith_24 : decode m_M_holdsWith.2.1 24 = .ok (.iload_n 1, 1) := by decide +kernel
theorem q_M_holdsWith_25 : decode m_M_holdsWith.2.1 25 = .ok (.invokevirtual 120, 3) := by decide +kernel
theorem q_M_holdsWith_28 : decode m_M_holdsWith.2.1 28 = .ok (.ifCond .eq 7, 3) := by decide +kernel
theorem q_M_holdsWith_31 : decode m_M_holdsWith.2.1 31 = .ok (.iconst 1, 1) := by decide +kernel
theorem q_M_holdsWith_32 : decode m_M_holdsWith.2.1 32 = .ok (.goto 4, 3) := by decide +kernel
theorem q_M_holdsWith_35 : decode m_M_holdsWith.2.1 35 = .ok (.iconst 0, 1) := by decide +kernel
theorem q_M_holdsWith_36 : decode m_M_holdsWith.2.1 36 = .ok (.ireturn, 1) := by decide +kernel
theorem q_M_worthOf_0 : decode m_M_worthOf.2.1 0 = .ok (.lconst 0, 1) := by decide +kernel
theorem q_M_worthOf_1 : decode m_M_worthOf.2.1 1 = .ok (.lstore_n 2, 1) := by decide +kernel
theorem q_M_worthOf_2 : decode m_M_worthOf.2.1 2 = .ok (.iconst 0, 1) := by decide +kernel
theorem q_M_worthOf_3 : decode m_M_worthOf.2.1 3 = .ok (.istore 4, 2) := by decide +kernel
theorem q_M_worthOf_5 : decode m_M_worthOf.2.1 5 = .ok (.iload 4, 2) := by decide +kernel
theorem q_M_worthOf_7 : decode m_M_worthOf.2.1 7 = .ok (.aload_n 0, 1) := by decide +kernel
theorem q_M_worthOf_8 : decode m_M_worthOf.2.1 8 = .ok (.getfield 84, 3) := by decide +kernel
theorem q_M_worthOf_11 : decode m_M_worthOf.2.1 11 = .ok (.if_icmp .ge 32, 3) := by decide +kernel
theorem q_M_worthOf_14 : decode m_M_worthOf.2.1 14 = .ok (.lload_n 2, 1) := by decide +kernel
theorem q_M_worthOf_15 : decode m_M_worthOf.2.1 15 = .ok (.iload_n 1, 1) := by decide +kernel
theorem q_M_worthOf_16 : decode m_M_worthOf.2.1 16 = .ok (.iload 4, 2) := by decide +kernel
theorem q_M_worthOf_18 : decode m_M_worthOf.2.1 18 = .ok (.invokestatic 94, 3) := by decide +kernel
theorem q_M_worthOf_21 : decode m_M_worthOf.2.1 21 = .ok (.ifCond .eq 13, 3) := by decide +kernel
theorem q_M_worthOf_24 : decode m_M_worthOf.2.1 24 = .ok (.aload_n 0, 1) := by decide +kernel
theorem q_M_worthOf_25 : decode m_M_worthOf.2.1 25 = .ok (.getfield 26, 3) := by decide +kernel
theorem q_M_worthOf_28 : decode m_M_worthOf.2.1 28 = .ok (.iload 4, 2) := by decide +kernel
theorem q_M_worthOf_30 : decode m_M_worthOf.2.1 30 = .ok (.laload, 1) := by decide +kernel
theorem q_M_worthOf_31 : decode m_M_worthOf.2.1 31 = .ok (.goto 4, 3) := by decide +kernel
theorem q_M_worthOf_34 : decode m_M_worthOf.2.1 34 = .ok (.lconst 0, 1) := by decide +kernel
theorem q_M_worthOf_35 : decode m_M_worthOf.2.1 35 = .ok (.ladd, 1) := by decide +kernel
theorem q_M_worthOf_36 : decode m_M_worthOf.2.1 36 = .ok (.lstore_n 2, 1) := by decide +kernel
theorem q_M_worthOf_37 : decode m_M_worthOf.2.1 37 = .ok (.iinc 4 1, 3) := by decide +kernel
theorem q_M_worthOf_40 : decode m_M_worthOf.2.1 40 = .ok (.goto (-35), 3) := by decide +kernel
theorem q_M_worthOf_43 : decode m_M_worthOf.2.1 43 = .ok (.lload_n 2, 1) := by decide +kernel
theorem q_M_worthOf_44 : decode m_M_worthOf.2.1 44 = .ok (.lreturn, 1) := by decide +kernel
theorem q_M_yearsOf_0 : decode m_M_yearsOf.2.1 0 = .ok (.iconst 0, 1) := by decide +kernel
theorem q_M_yearsOf_1 : decode m_M_yearsOf.2.1 1 = .ok (.istore_n 2, 1) := by decide +kernel
theorem q_M_yearsOf_2 : decode m_M_yearsOf.2.1 2 = .ok (.iconst 0, 1) := by decide +kernel
theorem q_M_yearsOf_3 : decode m_M_yearsOf.2.1 3 = .ok (.istore_n 3, 1) := by decide +kernel
theorem q_M_yearsOf_4 : decode m_M_yearsOf.2.1 4 = .ok (.iload_n 3, 1) := by decide +kernel
theorem q_M_yearsOf_5 : decode m_M_yearsOf.2.1 5 = .ok (.aload_n 0, 1) := by decide +kernel
theorem q_M_yearsOf_6 : decode m_M_yearsOf.2.1 6 = .ok (.getfield 84, 3) := by decide +kernel
theorem q_M_yearsOf_9 : decode m_M_yearsOf.2.1 9 = .ok (.if_icmp .ge 30, 3) := by decide +kernel
end
section
theorem q_M_yearsOf_12 : decode m_M_yearsOf.2.1 12 = .ok (.iload_n 2, 1) := by decide +kernel
theorem q_M_yearsOf_13 : decode m_M_yearsOf.2.1 13 = .ok (.iload_n 1, 1) := by decide +kernel
theorem q_M_yearsOf_14 : decode m_M_yearsOf.2.1 14 = .ok (.iload_n 3, 1) := by decide +kernel
theorem q_M_yearsOf_15 : decode m_M_yearsOf.2.1 15 = .ok (.invokestatic 94, 3) := by decide +kernel
theorem q_M_yearsOf_18 : decode m_M_yearsOf.2.1 18 = .ok (.ifCond .eq 12, 3) := by decide +kernel
theorem q_M_yearsOf_21 : decode m_M_yearsOf.2.1 21 = .ok (.aload_n 0, 1) := by decide +kernel
theorem q_M_yearsOf_22 : decode m_M_yearsOf.2.1 22 = .ok (.getfield 19, 3) := by decide +kernel
theorem q_M_yearsOf_25 : decode m_M_yearsOf.2.1 25 = .ok (.iload_n 3, 1) := by decide +kernel
theorem q_M_yearsOf_26 : decode m_M_yearsOf.2.1 26 = .ok (.iaload, 1) := by decide +kernel
theorem q_M_yearsOf_27 : decode m_M_yearsOf.2.1 27 = .ok (.goto 4, 3) := by decide +kernel
theorem q_M_yearsOf_30 : decode m_M_yearsOf.2.1 30 = .ok (.iconst 0, 1) := by decide +kernel
theorem q_M_yearsOf_31 : decode m_M_yearsOf.2.1 31 = .ok (.iadd, 1) := by decide +kernel
theorem q_M_yearsOf_32 : decode m_M_yearsOf.2.1 32 = .ok (.istore_n 2, 1) := by decide +kernel
theorem q_M_yearsOf_33 : decode m_M_yearsOf.2.1 33 = .ok (.iinc 3 1, 3) := by decide +kernel
theorem q_M_yearsOf_36 : decode m_M_yearsOf.2.1 36 = .ok (.goto (-32), 3) := by decide +kernel
theorem q_M_yearsOf_39 : decode m_M_yearsOf.2.1 39 = .ok (.iload_n 2, 1) := by decide +kernel
theorem q_M_yearsOf_40 : decode m_M_yearsOf.2.1 40 = .ok (.ireturn, 1) := by decide +kernel
theorem q_M_isBetter_0 : decode m_M_isBetter.2.1 0 = .ok (.iload_n 2, 1) := by decide +kernel
theorem q_M_isBetter_1 : decode m_M_isBetter.2.1 1 = .ok (.iconst (-1), 1) := by decide +kernel
theorem q_M_isBetter_2 : decode m_M_isBetter.2.1 2 = .ok (.if_icmp .ne 5, 3) := by decide +kernel
theorem q_M_isBetter_5 : decode m_M_isBetter.2.1 5 = .ok (.iconst 1, 1) := by decide +kernel
theorem q_M_isBetter_6 : decode m_M_isBetter.2.1 6 = .ok (.ireturn, 1) := by decide +kernel
theorem q_M_isBetter_7 : decode m_M_isBetter.2.1 7 = .ok (.aload_n 0, 1) := by decide +kernel
theorem q_M_isBetter_8 : decode m_M_isBetter.2.1 8 = .ok (.iload_n 1, 1) := by decide +kernel
theorem q_M_isBetter_9 : decode m_M_isBetter.2.1 9 = .ok (.invokevirtual 123, 3) := by decide +kernel
theorem q_M_isBetter_12 : decode m_M_isBetter.2.1 12 = .ok (.lstore_n 3, 1) := by decide +kernel
theorem q_M_isBetter_13 : decode m_M_isBetter.2.1 13 = .ok (.aload_n 0, 1) := by decide +kernel
theorem q_M_isBetter_14 : decode m_M_isBetter.2.1 14 = .ok (.iload_n 2, 1) := by decide +kernel
theorem q_M_isBetter_15 : decode m_M_isBetter.2.1 15 = .ok (.invokevirtual 123, 3) := by decide +kernel
theorem q_M_isBetter_18 : decode m_M_isBetter.2.1 18 = .ok (.lstore 5, 2) := by decide +kernel
theorem q_M_isBetter_20 : decode m_M_isBetter.2.1 20 = .ok (.lload_n 3, 1) := by decide +kernel
theorem q_M_isBetter_21 : decode m_M_isBetter.2.1 21 = .ok (.lload 5, 2) := by decide +kernel
theorem q_M_isBetter_23 : decode m_M_isBetter.2.1 23 = .ok (.lcmp, 1) := by decide +kernel
theorem q_M_isBetter_24 : decode m_M_isBetter.2.1 24 = .ok (.ifCond .gt 23, 3) := by decide +kernel
theorem q_M_isBetter_27 : decode m_M_isBetter.2.1 27 = .ok (.lload_n 3, 1) := by decide +kernel
theorem q_M_isBetter_28 : decode m_M_isBetter.2.1 28 = .ok (.lload 5, 2) := by decide +kernel
theorem q_M_isBetter_30 : decode m_M_isBetter.2.1 30 = .ok (.lcmp, 1) := by decide +kernel
theorem q_M_isBetter_31 : decode m_M_isBetter.2.1 31 = .ok (.ifCond .ne 20, 3) := by decide +kernel
theorem q_M_isBetter_34 : decode m_M_isBetter.2.1 34 = .ok (.aload_n 0, 1) := by decide +kernel
theorem q_M_isBetter_35 : decode m_M_isBetter.2.1 35 = .ok (.iload_n 1, 1) := by decide +kernel
theorem q_M_isBetter_36 : decode m_M_isBetter.2.1 36 = .ok (.invokevirtual 127, 3) := by decide +kernel
theorem q_M_isBetter_39 : decode m_M_isBetter.2.1 39 = .ok (.aload_n 0, 1) := by decide +kernel
theorem q_M_isBetter_40 : decode m_M_isBetter.2.1 40 = .ok (.iload_n 2, 1) := by decide +kernel
theorem q_M_isBetter_41 : decode m_M_isBetter.2.1 41 = .ok (.invokevirtual 127, 3) := by decide +kernel
theorem q_M_isBetter_44 : decode m_M_isBetter.2.1 44 = .ok (.if_icmp .ge 7, 3) := by decide +kernel
theorem q_M_isBetter_47 : decode m_M_isBetter.2.1 47 = .ok (.iconst 1, 1) := by decide +kernel
theorem q_M_isBetter_48 : decode m_M_isBetter.2.1 48 = .ok (.goto 4, 3) := by decide +kernel
theorem q_M_isBetter_51 : decode m_M_isBetter.2.1 51 = .ok (.iconst 0, 1) := by decide +kernel
theorem q_M_isBetter_52 : decode m_M_isBetter.2.1 52 = .ok (.ireturn, 1) := by decide +kernel
theorem q_M_best_0 : decode m_M_best.2.1 0 = .ok (.iconst (-1), 1) := by decide +kernel
theorem q_M_best_1 : decode m_M_best.2.1 1 = .ok (.istore_n 3, 1) := by decide +kernel
theorem q_M_best_2 : decode m_M_best.2.1 2 = .ok (.iconst 0, 1) := by decide +kernel
theorem q_M_best_3 : decode m_M_best.2.1 3 = .ok (.istore 4, 2) := by decide +kernel
theorem q_M_best_5 : decode m_M_best.2.1 5 = .ok (.iload 4, 2) := by decide +kernel
theorem q_M_best_7 : decode m_M_best.2.1 7 = .ok (.i2l, 1) := by decide +kernel
theorem q_M_best_8 : decode m_M_best.2.1 8 = .ok (.lload_n 1, 1) := by decide +kernel
theorem q_M_best_9 : decode m_M_best.2.1 9 = .ok (.lcmp, 1) := by decide +kernel
theorem q_M_best_10 : decode m_M_best.2.1 10 = .ok (.ifCond .ge 54, 3) := by decide +kernel
theorem q_M_best_13 : decode m_M_best.2.1 13 = .ok (.iload 4, 2) := by decide +kernel
theorem q_M_best_15 : decode m_M_best.2.1 15 = .ok (.iconst 1, 1) := by decide +kernel
theorem q_M_best_16 : decode m_M_best.2.1 16 = .ok (.aload_n 0, 1) := by decide +kernel
theorem q_M_best_17 : decode m_M_best.2.1 17 = .ok (.getfield 84, 3) := by decide +kernel
theorem q_M_best_20 : decode m_M_best.2.1 20 = .ok (.ishl, 1) := by decide +kernel
theorem q_M_best_21 : decode m_M_best.2.1 21 = .ok (.if_icmp .ge 43, 3) := by decide +kernel
theorem q_M_best_24 : decode m_M_best.2.1 24 = .ok (.aload_n 0, 1) := by decide +kernel
theorem q_M_best_25 : decode m_M_best.2.1 25 = .ok (.iload 4, 2) := by decide +kernel
theorem q_M_best_27 : decode m_M_best.2.1 27 = .ok (.invokevirtual 131, 3) := by decide +kernel
theorem q_M_best_30 : decode m_M_best.2.1 30 = .ok (.istore 5, 2) := by decide +kernel
theorem q_M_best_32 : decode m_M_best.2.1 32 = .ok (.aload_n 0, 1) := by decide +kernel
theorem q_M_best_33 : decode m_M_best.2.1 33 = .ok (.iload 5, 2) := by decide +kernel
theorem q_M_best_35 : decode m_M_best.2.1 35 = .ok (.aload_n 0, 1) := by decide +kernel
theorem q_M_best_36 : decode m_M_best.2.1 36 = .ok (.getfield 91, 3) := by decide +kernel
theorem q_M_best_39 : decode m_M_best.2.1 39 = .ok (.invokevirtual 134, 3) := by decide +kernel
theorem q_M_best_42 : decode m_M_best.2.1 42 = .ok (.ifCond .eq 16, 3) := by decide +kernel
theorem q_M_best_45 : decode m_M_best.2.1 45 = .ok (.aload_n 0, 1) := by decide +kernel
theorem q_M_best_46 : decode m_M_best.2.1 46 = .ok (.iload 5, 2) := by decide +kernel
theorem q_M_best_48 : decode m_M_best.2.1 48 = .ok (.iload_n 3, 1) := by decide +kernel
theorem q_M_best_49 : decode m_M_best.2.1 49 = .ok (.invokevirtual 137, 3) := by decide +kernel
theorem q_M_best_52 : decode m_M_best.2.1 52 = .ok (.ifCond .eq 6, 3) := by decide +kernel
theorem q_M_best_55 : decode m_M_best.2.1 55 = .ok (.iload 5, 2) := by decide +kernel
theorem q_M_best_57 : decode m_M_best.2.1 57 = .ok (.istore_n 3, 1) := by decide +kernel
theorem q_M_best_58 : decode m_M_best.2.1 58 = .ok (.iinc 4 1, 3) := by decide +kernel
theorem q_M_best_61 : decode m_M_best.2.1 61 = .ok (.goto (-56), 3) := by decide +kernel
theorem q_M_best_64 : decode m_M_best.2.1 64 = .ok (.iload_n 3, 1) := by decide +kernel
theorem q_M_best_65 : decode m_M_best.2.1 65 = .ok (.ireturn, 1) := by decide +kernel
theorem q_M_run_0 : decode m_M_run.2.1 0 = .ok (.lload_n 1, 1) := by decide +kernel
theorem q_M_run_1 : decode m_M_run.2.1 1 = .ok (.lconst 1, 1) := by decide +kernel
theorem q_M_run_2 : decode m_M_run.2.1 2 = .ok (.ldc2_w 140, 3) := by decide +kernel
theorem q_M_run_5 : decode m_M_run.2.1 5 = .ok (.invokestatic 72, 3) := by decide +kernel
theorem q_M_run_8 : decode m_M_run.2.1 8 = .ok (.ifCond .ne 5, 3) := by decide +kernel
theorem q_M_run_11 : decode m_M_run.2.1 11 = .ok (.iconst (-1), 1) := by decide +kernel
theorem q_M_run_12 : decode m_M_run.2.1 12 = .ok (.ireturn, 1) := by decide +kernel
theorem q_M_run_13 : decode m_M_run.2.1 13 = .ok (.aload_n 0, 1) := by decide +kernel
theorem q_M_run_14 : decode m_M_run.2.1 14 = .ok (.aload_n 0, 1) := by decide +kernel
theorem q_M_run_15 : decode m_M_run.2.1 15 = .ok (.lload_n 1, 1) := by decide +kernel
theorem q_M_run_16 : decode m_M_run.2.1 16 = .ok (.invokevirtual 142, 3) := by decide +kernel
theorem q_M_run_19 : decode m_M_run.2.1 19 = .ok (.putfield 47, 3) := by decide +kernel
theorem q_M_run_22 : decode m_M_run.2.1 22 = .ok (.lload_n 1, 1) := by decide +kernel
theorem q_M_run_23 : decode m_M_run.2.1 23 = .ok (.lconst 1, 1) := by decide +kernel
theorem q_M_run_24 : decode m_M_run.2.1 24 = .ok (.aload_n 0, 1) := by decide +kernel
theorem q_M_run_25 : decode m_M_run.2.1 25 = .ok (.getfield 84, 3) := by decide +kernel
theorem q_M_run_28 : decode m_M_run.2.1 28 = .ok (.lshl, 1) := by decide +kernel
theorem q_M_run_29 : decode m_M_run.2.1 29 = .ok (.lcmp, 1) := by decide +kernel
theorem q_M_run_30 : decode m_M_run.2.1 30 = .ok (.ifCond .lt 7, 3) := by decide +kernel
theorem q_M_run_33 : decode m_M_run.2.1 33 = .ok (.iconst 1, 1) := by decide +kernel
theorem q_M_run_34 : decode m_M_run.2.1 34 = .ok (.goto 4, 3) := by decide +kernel
theorem q_M_run_37 : decode m_M_run.2.1 37 = .ok (.iconst 0, 1) := by decide +kernel
theorem q_M_run_38 : decode m_M_run.2.1 38 = .ok (.istore_n 3, 1) := by decide +kernel
theorem q_M_run_39 : decode m_M_run.2.1 39 = .ok (.aload_n 0, 1) := by decide +kernel
theorem q_M_run_40 : decode m_M_run.2.1 40 = .ok (.iload_n 3, 1) := by decide +kernel
theorem q_M_run_41 : decode m_M_run.2.1 41 = .ok (.putfield 66, 3) := by decide +kernel
theorem q_M_run_44 : decode m_M_run.2.1 44 = .ok (.iload_n 3, 1) := by decide +kernel
theorem q_M_run_45 : decode m_M_run.2.1 45 = .ok (.ifCond .ne 7, 3) := by decide +kernel
theorem q_M_run_48 : decode m_M_run.2.1 48 = .ok (.iconst 1, 1) := by decide +kernel
theorem q_M_run_49 : decode m_M_run.2.1 49 = .ok (.goto 16, 3) := by decide +kernel
theorem q_M_run_52 : decode m_M_run.2.1 52 = .ok (.aload_n 0, 1) := by decide +kernel
theorem q_M_run_53 : decode m_M_run.2.1 53 = .ok (.getfield 47, 3) := by decide +kernel
theorem q_M_run_56 : decode m_M_run.2.1 56 = .ok (.iconst (-1), 1) := by decide +kernel
theorem q_M_run_57 : decode m_M_run.2.1 57 = .ok (.if_icmp .ne 7, 3) := by decide +kernel
theorem q_M_run_60 : decode m_M_run.2.1 60 = .ok (.iconst 2, 1) := by decide +kernel
theorem q_M_run_61 : decode m_M_run.2.1 61 = .ok (.goto 4, 3) := by decide +kernel
theorem q_M_run_64 : decode m_M_run.2.1 64 = .ok (.iconst 0, 1) := by decide +kernel
theorem q_M_run_65 : decode m_M_run.2.1 65 = .ok (.ireturn, 1) := by decide +kernel
theorem q_M_chosen_0 : decode m_M_chosen.2.1 0 = .ok (.aload_n 0, 1) := by decide +kernel
theorem q_M_chosen_1 : decode m_M_chosen.2.1 1 = .ok (.iload_n 1, 1) := by decide +kernel
theorem q_M_chosen_2 : decode m_M_chosen.2.1 2 = .ok (.invokevirtual 87, 3) := by decide +kernel
theorem q_M_chosen_5 : decode m_M_chosen.2.1 5 = .ok (.ifCond .eq 26, 3) := by decide +kernel
theorem q_M_chosen_8 : decode m_M_chosen.2.1 8 = .ok (.aload_n 0, 1) := by decide +kernel
theorem q_M_chosen_9 : decode m_M_chosen.2.1 9 = .ok (.getfield 47, 3) := by decide +kernel
theorem q_M_chosen_12 : decode m_M_chosen.2.1 12 = .ok (.iconst (-1), 1) := by decide +kernel
theorem q_M_chosen_13 : decode m_M_chosen.2.1 13 = .ok (.if_icmp .eq 18, 3) := by decide +kernel
theorem q_M_chosen_16 : decode m_M_chosen.2.1 16 = .ok (.aload_n 0, 1) := by decide +kernel
theorem q_M_chosen_17 : decode m_M_chosen.2.1 17 = .ok (.getfield 47, 3) := by decide +kernel
theorem q_M_chosen_20 : decode m_M_chosen.2.1 20 = .ok (.iload_n 1, 1) := by decide +kernel
theorem q_M_chosen_21 : decode m_M_chosen.2.1 21 = .ok (.invokestatic 94, 3) := by decide +kernel
theorem q_M_chosen_24 : decode m_M_chosen.2.1 24 = .ok (.ifCond .eq 7, 3) := by decide +kernel
theorem q_M_chosen_27 : decode m_M_chosen.2.1 27 = .ok (.iconst 1, 1) := by decide +kernel
theorem q_M_chosen_28 : decode m_M_chosen.2.1 28 = .ok (.goto 4, 3) := by decide +kernel
theorem q_M_chosen_31 : decode m_M_chosen.2.1 31 = .ok (.iconst 0, 1) := by decide +kernel
theorem q_M_chosen_32 : decode m_M_chosen.2.1 32 = .ok (.ireturn, 1) := by decide +kernel
theorem q_M_worth_0 : decode m_M_worth.2.1 0 = .ok (.aload_n 0, 1) := by decide +kernel
theorem q_M_worth_1 : decode m_M_worth.2.1 1 = .ok (.getfield 47, 3) := by decide +kernel
theorem q_M_worth_4 : decode m_M_worth.2.1 4 = .ok (.iconst (-1), 1) := by decide +kernel
theorem q_M_worth_5 : decode m_M_worth.2.1 5 = .ok (.if_icmp .ne 9, 3) := by decide +kernel
theorem q_M_worth_8 : decode m_M_worth.2.1 8 = .ok (.ldc2_w 41, 3) := by decide +kernel
theorem q_M_worth_11 : decode m_M_worth.2.1 11 = .ok (.goto 11, 3) := by decide +kernel
theorem q_M_worth_14 : decode m_M_worth.2.1 14 = .ok (.aload_n 0, 1) := by decide +kernel
theorem q_M_worth_15 : decode m_M_worth.2.1 15 = .ok (.aload_n 0, 1) := by decide +kernel
theorem q_M_worth_16 : decode m_M_worth.2.1 16 = .ok (.getfield 47, 3) := by decide +kernel
theorem q_M_worth_19 : decode m_M_worth.2.1 19 = .ok (.invokevirtual 123, 3) := by decide +kernel
theorem q_M_worth_22 : decode m_M_worth.2.1 22 = .ok (.lreturn, 1) := by decide +kernel
theorem q_M_mostWorth_0 : decode m_M_mostWorth.2.1 0 = .ok (.lconst 0, 1) := by decide +kernel
theorem q_M_mostWorth_1 : decode m_M_mostWorth.2.1 1 = .ok (.lstore_n 3, 1) := by decide +kernel
theorem q_M_mostWorth_2 : decode m_M_mostWorth.2.1 2 = .ok (.iconst 0, 1) := by decide +kernel
theorem q_M_mostWorth_3 : decode m_M_mostWorth.2.1 3 = .ok (.istore 5, 2) := by decide +kernel
theorem q_M_mostWorth_5 : decode m_M_mostWorth.2.1 5 = .ok (.iload 5, 2) := by decide +kernel
theorem q_M_mostWorth_7 : decode m_M_mostWorth.2.1 7 = .ok (.aload_n 0, 1) := by decide +kernel
theorem q_M_mostWorth_8 : decode m_M_mostWorth.2.1 8 = .ok (.getfield 84, 3) := by decide +kernel
theorem q_M_mostWorth_11 : decode m_M_mostWorth.2.1 11 = .ok (.if_icmp .ge 55, 3) := by decide +kernel
theorem q_M_mostWorth_14 : decode m_M_mostWorth.2.1 14 = .ok (.aload_n 0, 1) := by decide +kernel
theorem q_M_mostWorth_15 : decode m_M_mostWorth.2.1 15 = .ok (.getfield 16, 3) := by decide +kernel
theorem q_M_mostWorth_18 : decode m_M_mostWorth.2.1 18 = .ok (.iload 5, 2) := by decide +kernel
theorem q_M_mostWorth_20 : decode m_M_mostWorth.2.1 20 = .ok (.iaload, 1) := by decide +kernel
theorem q_M_mostWorth_21 : decode m_M_mostWorth.2.1 21 = .ok (.iload_n 1, 1) := by decide +kernel
theorem q_M_mostWorth_22 : decode m_M_mostWorth.2.1 22 = .ok (.if_icmp .ne 36, 3) := by decide +kernel
theorem q_M_mostWorth_25 : decode m_M_mostWorth.2.1 25 = .ok (.aload_n 0, 1) := by decide +kernel
theorem q_M_mostWorth_26 : decode m_M_mostWorth.2.1 26 = .ok (.getfield 19, 3) := by decide +kernel
theorem q_M_mostWorth_29 : decode m_M_mostWorth.2.1 29 = .ok (.iload 5, 2) := by decide +kernel
theorem q_M_mostWorth_31 : decode m_M_mostWorth.2.1 31 = .ok (.iaload, 1) := by decide +kernel
theorem q_M_mostWorth_32 : decode m_M_mostWorth.2.1 32 = .ok (.iload_n 2, 1) := by decide +kernel
theorem q_M_mostWorth_33 : decode m_M_mostWorth.2.1 33 = .ok (.if_icmp .gt 25, 3) := by decide +kernel
theorem q_M_mostWorth_36 : decode m_M_mostWorth.2.1 36 = .ok (.aload_n 0, 1) := by decide +kernel
theorem q_M_mostWorth_37 : decode m_M_mostWorth.2.1 37 = .ok (.getfield 26, 3) := by decide +kernel
theorem q_M_mostWorth_40 : decode m_M_mostWorth.2.1 40 = .ok (.iload 5, 2) := by decide +kernel
theorem q_M_mostWorth_42 : decode m_M_mostWorth.2.1 42 = .ok (.laload, 1) := by decide +kernel
theorem q_M_mostWorth_43 : decode m_M_mostWorth.2.1 43 = .ok (.lload_n 3, 1) := by decide +kernel
theorem q_M_mostWorth_44 : decode m_M_mostWorth.2.1 44 = .ok (.lcmp, 1) := by decide +kernel
theorem q_M_mostWorth_45 : decode m_M_mostWorth.2.1 45 = .ok (.ifCond .le 13, 3) := by decide +kernel
theorem q_M_mostWorth_48 : decode m_M_mostWorth.2.1 48 = .ok (.aload_n 0, 1) := by decide +kernel
theorem q_M_mostWorth_49 : decode m_M_mostWorth.2.1 49 = .ok (.getfield 26, 3) := by decide +kernel
theorem q_M_mostWorth_52 : decode m_M_mostWorth.2.1 52 = .ok (.iload 5, 2) := by decide +kernel
theorem q_M_mostWorth_54 : decode m_M_mostWorth.2.1 54 = .ok (.laload, 1) := by decide +kernel
theorem q_M_mostWorth_55 : decode m_M_mostWorth.2.1 55 = .ok (.goto 4, 3) := by decide +kernel
theorem q_M_mostWorth_58 : decode m_M_mostWorth.2.1 58 = .ok (.lload_n 3, 1) := by decide +kernel
theorem q_M_mostWorth_59 : decode m_M_mostWorth.2.1 59 = .ok (.lstore_n 3, 1) := by decide +kernel
theorem q_M_mostWorth_60 : decode m_M_mostWorth.2.1 60 = .ok (.iinc 5 1, 3) := by decide +kernel
theorem q_M_mostWorth_63 : decode m_M_mostWorth.2.1 63 = .ok (.goto (-58), 3) := by decide +kernel
theorem q_M_mostWorth_66 : decode m_M_mostWorth.2.1 66 = .ok (.lload_n 3, 1) := by decide +kernel
theorem q_M_mostWorth_67 : decode m_M_mostWorth.2.1 67 = .ok (.lreturn, 1) := by decide +kernel
theorem q_M_savedBy_0 : decode m_M_savedBy.2.1 0 = .ok (.lconst 0, 1) := by decide +kernel
theorem q_M_savedBy_1 : decode m_M_savedBy.2.1 1 = .ok (.lstore_n 2, 1) := by decide +kernel
theorem q_M_savedBy_2 : decode m_M_savedBy.2.1 2 = .ok (.iconst 0, 1) := by decide +kernel
theorem q_M_savedBy_3 : decode m_M_savedBy.2.1 3 = .ok (.istore 4, 2) := by decide +kernel
theorem q_M_savedBy_5 : decode m_M_savedBy.2.1 5 = .ok (.iload 4, 2) := by decide +kernel
theorem q_M_savedBy_7 : decode m_M_savedBy.2.1 7 = .ok (.aload_n 0, 1) := by decide +kernel
theorem q_M_savedBy_8 : decode m_M_savedBy.2.1 8 = .ok (.getfield 103, 3) := by decide +kernel
theorem q_M_savedBy_11 : decode m_M_savedBy.2.1 11 = .ok (.if_icmp .ge 45, 3) := by decide +kernel
theorem q_M_savedBy_14 : decode m_M_savedBy.2.1 14 = .ok (.lload_n 2, 1) := by decide +kernel
theorem q_M_savedBy_15 : decode m_M_savedBy.2.1 15 = .ok (.aload_n 0, 1) := by decide +kernel
theorem q_M_savedBy_16 : decode m_M_savedBy.2.1 16 = .ok (.getfield 32, 3) := by decide +kernel
theorem q_M_savedBy_19 : decode m_M_savedBy.2.1 19 = .ok (.iload 4, 2) := by decide +kernel
theorem q_M_savedBy_21 : decode m_M_savedBy.2.1 21 = .ok (.iaload, 1) := by decide +kernel
theorem q_M_savedBy_22 : decode m_M_savedBy.2.1 22 = .ok (.iload_n 1, 1) := by decide +kernel
theorem q_M_savedBy_23 : decode m_M_savedBy.2.1 23 = .ok (.if_icmp .eq 14, 3) := by decide +kernel
theorem q_M_savedBy_26 : decode m_M_savedBy.2.1 26 = .ok (.aload_n 0, 1) := by decide +kernel
theorem q_M_savedBy_27 : decode m_M_savedBy.2.1 27 = .ok (.getfield 35, 3) := by decide +kernel
theorem q_M_savedBy_30 : decode m_M_savedBy.2.1 30 = .ok (.iload 4, 2) := by decide +kernel
theorem q_M_savedBy_32 : decode m_M_savedBy.2.1 32 = .ok (.iaload, 1) := by decide +kernel
theorem q_M_savedBy_33 : decode m_M_savedBy.2.1 33 = .ok (.iload_n 1, 1) := by decide +kernel
theorem q_M_savedBy_34 : decode m_M_savedBy.2.1 34 = .ok (.if_icmp .ne 13, 3) := by decide +kernel
theorem q_M_savedBy_37 : decode m_M_savedBy.2.1 37 = .ok (.aload_n 0, 1) := by decide +kernel
theorem q_M_savedBy_38 : decode m_M_savedBy.2.1 38 = .ok (.getfield 38, 3) := by decide +kernel
theorem q_M_savedBy_41 : decode m_M_savedBy.2.1 41 = .ok (.iload 4, 2) := by decide +kernel
theorem q_M_savedBy_43 : decode m_M_savedBy.2.1 43 = .ok (.laload, 1) := by decide +kernel
theorem q_M_savedBy_44 : decode m_M_savedBy.2.1 44 = .ok (.goto 4, 3) := by decide +kernel
theorem q_M_savedBy_47 : decode m_M_savedBy.2.1 47 = .ok (.lconst 0, 1) := by decide +kernel
theorem q_M_savedBy_48 : decode m_M_savedBy.2.1 48 = .ok (.ladd, 1) := by decide +kernel
theorem q_M_savedBy_49 : decode m_M_savedBy.2.1 49 = .ok (.lstore_n 2, 1) := by decide +kernel
theorem q_M_savedBy_50 : decode m_M_savedBy.2.1 50 = .ok (.iinc 4 1, 3) := by decide +kernel
theorem q_M_savedBy_53 : decode m_M_savedBy.2.1 53 = .ok (.goto (-48), 3) := by decide +kernel
theorem q_M_savedBy_56 : decode m_M_savedBy.2.1 56 = .ok (.lload_n 2, 1) := by decide +kernel
theorem q_M_savedBy_57 : decode m_M_savedBy.2.1 57 = .ok (.lreturn, 1) := by decide +kernel
theorem q_M_byPrice_0 : decode m_M_byPrice.2.1 0 = .ok (.lconst 0, 1) := by decide +kernel
theorem q_M_byPrice_1 : decode m_M_byPrice.2.1 1 = .ok (.lstore 5, 2) := by decide +kernel
theorem q_M_byPrice_3 : decode m_M_byPrice.2.1 3 = .ok (.iconst 0, 1) := by decide +kernel
theorem q_M_byPrice_4 : decode m_M_byPrice.2.1 4 = .ok (.istore 7, 2) := by decide +kernel
theorem q_M_byPrice_6 : decode m_M_byPrice.2.1 6 = .ok (.iload 7, 2) := by decide +kernel
theorem q_M_byPrice_8 : decode m_M_byPrice.2.1 8 = .ok (.aload_n 0, 1) := by decide +kernel
theorem q_M_byPrice_9 : decode m_M_byPrice.2.1 9 = .ok (.getfield 63, 3) := by decide +kernel
theorem q_M_byPrice_12 : decode m_M_byPrice.2.1 12 = .ok (.if_icmp .ge 23, 3) := by decide +kernel
theorem q_M_byPrice_15 : decode m_M_byPrice.2.1 15 = .ok (.lload 5, 2) := by decide +kernel
theorem q_M_byPrice_17 : decode m_M_byPrice.2.1 17 = .ok (.aload_n 0, 1) := by decide +kernel
theorem q_M_byPrice_18 : decode m_M_byPrice.2.1 18 = .ok (.getfield 29, 3) := by decide +kernel
theorem q_M_byPrice_21 : decode m_M_byPrice.2.1 21 = .ok (.iload 7, 2) := by decide +kernel
theorem q_M_byPrice_23 : decode m_M_byPrice.2.1 23 = .ok (.laload, 1) := by decide +kernel
theorem q_M_byPrice_24 : decode m_M_byPrice.2.1 24 = .ok (.lload_n 1, 1) := by decide +kernel
theorem q_M_byPrice_25 : decode m_M_byPrice.2.1 25 = .ok (.lmul, 1) := by decide +kernel
theorem q_M_byPrice_26 : decode m_M_byPrice.2.1 26 = .ok (.ladd, 1) := by decide +kernel
theorem q_M_byPrice_27 : decode m_M_byPrice.2.1 27 = .ok (.lstore 5, 2) := by decide +kernel
theorem q_M_byPrice_29 : decode m_M_byPrice.2.1 29 = .ok (.iinc 7 1, 3) := by decide +kernel
theorem q_M_byPrice_32 : decode m_M_byPrice.2.1 32 = .ok (.goto (-26), 3) := by decide +kernel
theorem q_M_byPrice_35 : decode m_M_byPrice.2.1 35 = .ok (.iconst 0, 1) := by decide +kernel
theorem q_M_byPrice_36 : decode m_M_byPrice.2.1 36 = .ok (.istore 7, 2) := by decide +kernel
theorem q_M_byPrice_38 : decode m_M_byPrice.2.1 38 = .ok (.iload 7, 2) := by decide +kernel
theorem q_M_byPrice_40 : decode m_M_byPrice.2.1 40 = .ok (.aload_n 0, 1) := by decide +kernel
theorem q_M_byPrice_41 : decode m_M_byPrice.2.1 41 = .ok (.getfield 76, 3) := by decide +kernel
theorem q_M_byPrice_44 : decode m_M_byPrice.2.1 44 = .ok (.if_icmp .ge 94, 3) := by decide +kernel
theorem q_M_byPrice_47 : decode m_M_byPrice.2.1 47 = .ok (.lconst 0, 1) := by decide +kernel
theorem q_M_byPrice_48 : decode m_M_byPrice.2.1 48 = .ok (.lstore 8, 2) := by decide +kernel
theorem q_M_byPrice_50 : decode m_M_byPrice.2.1 50 = .ok (.iconst 0, 1) := by decide +kernel
theorem q_M_byPrice_51 : decode m_M_byPrice.2.1 51 = .ok (.istore 10, 2) := by decide +kernel
theorem q_M_byPrice_53 : decode m_M_byPrice.2.1 53 = .ok (.iload 10, 2) := by decide +kernel
theorem q_M_byPrice_55 : decode m_M_byPrice.2.1 55 = .ok (.aload_n 0, 1) := by decide +kernel
theorem q_M_byPrice_56 : decode m_M_byPrice.2.1 56 = .ok (.getfield 84, 3) := by decide +kernel
theorem q_M_byPrice_59 : decode m_M_byPrice.2.1 59 = .ok (.if_icmp .ge 66, 3) := by decide +kernel
theorem q_M_byPrice_62 : decode m_M_byPrice.2.1 62 = .ok (.aload_n 0, 1) := by decide +kernel
theorem q_M_byPrice_63 : decode m_M_byPrice.2.1 63 = .ok (.getfield 26, 3) := by decide +kernel
theorem q_M_byPrice_66 : decode m_M_byPrice.2.1 66 = .ok (.iload 10, 2) := by decide +kernel
theorem q_M_byPrice_68 : decode m_M_byPrice.2.1 68 = .ok (.laload, 1) := by decide +kernel
theorem q_M_byPrice_69 : decode m_M_byPrice.2.1 69 = .ok (.lload_n 3, 1) := by decide +kernel
theorem q_M_byPrice_70 : decode m_M_byPrice.2.1 70 = .ok (.lmul, 1) := by decide +kernel
theorem q_M_byPrice_71 : decode m_M_byPrice.2.1 71 = .ok (.lload_n 1, 1) := by decide +kernel
theorem q_M_byPrice_72 : decode m_M_byPrice.2.1 72 = .ok (.aload_n 0, 1) := by decide +kernel
theorem q_M_byPrice_73 : decode m_M_byPrice.2.1 73 = .ok (.getfield 22, 3) := by decide +kernel
theorem q_M_byPrice_76 : decode m_M_byPrice.2.1 76 = .ok (.iload 10, 2) := by decide +kernel
theorem q_M_byPrice_78 : decode m_M_byPrice.2.1 78 = .ok (.laload, 1) := by decide +kernel
theorem q_M_byPrice_79 : decode m_M_byPrice.2.1 79 = .ok (.aload_n 0, 1) := by decide +kernel
theorem q_M_byPrice_80 : decode m_M_byPrice.2.1 80 = .ok (.iload 10, 2) := by decide +kernel
theorem q_M_byPrice_82 : decode m_M_byPrice.2.1 82 = .ok (.invokevirtual 146, 3) := by decide +kernel
theorem q_M_byPrice_85 : decode m_M_byPrice.2.1 85 = .ok (.lsub, 1) := by decide +kernel
theorem q_M_byPrice_86 : decode m_M_byPrice.2.1 86 = .ok (.lmul, 1) := by decide +kernel
theorem q_M_byPrice_87 : decode m_M_byPrice.2.1 87 = .ok (.lsub, 1) := by decide +kernel
theorem q_M_byPrice_88 : decode m_M_byPrice.2.1 88 = .ok (.lstore 11, 2) := by decide +kernel
theorem q_M_byPrice_90 : decode m_M_byPrice.2.1 90 = .ok (.aload_n 0, 1) := by decide +kernel
theorem q_M_byPrice_91 : decode m_M_byPrice.2.1 91 = .ok (.getfield 16, 3) := by decide +kernel
theorem q_M_byPrice_94 : decode m_M_byPrice.2.1 94 = .ok (.iload 10, 2) := by decide +kernel
theorem q_M_byPrice_96 : decode m_M_byPrice.2.1 96 = .ok (.iaload, 1) := by decide +kernel
theorem q_M_byPrice_97 : decode m_M_byPrice.2.1 97 = .ok (.iload 7, 2) := by decide +kernel
theorem q_M_byPrice_99 : decode m_M_byPrice.2.1 99 = .ok (.if_icmp .ne 16, 3) := by decide +kernel
theorem q_M_byPrice_102 : decode m_M_byPrice.2.1 102 = .ok (.lload 11, 2) := by decide +kernel
theorem q_M_byPrice_104 : decode m_M_byPrice.2.1 104 = .ok (.lload 8, 2) := by decide +kernel
theorem q_M_byPrice_106 : decode m_M_byPrice.2.1 106 = .ok (.lcmp, 1) := by decide +kernel
theorem q_M_byPrice_107 : decode m_M_byPrice.2.1 107 = .ok (.ifCond .le 8, 3) := by decide +kernel
theorem q_M_byPrice_110 : decode m_M_byPrice.2.1 110 = .ok (.lload 11, 2) := by decide +kernel
theorem q_M_byPrice_112 : decode m_M_byPrice.2.1 112 = .ok (.goto 5, 3) := by decide +kernel
theorem q_M_byPrice_115 : decode m_M_byPrice.2.1 115 = .ok (.lload 8, 2) := by decide +kernel
theorem q_M_byPrice_117 : decode m_M_byPrice.2.1 117 = .ok (.lstore 8, 2) := by decide +kernel
theorem q_M_byPrice_119 : decode m_M_byPrice.2.1 119 = .ok (.iinc 10 1, 3) := by decide +kernel
theorem q_M_byPrice_122 : decode m_M_byPrice.2.1 122 = .ok (.goto (-69), 3) := by decide +kernel
theorem q_M_byPrice_125 : decode m_M_byPrice.2.1 125 = .ok (.lload 5, 2) := by decide +kernel
theorem q_M_byPrice_127 : decode m_M_byPrice.2.1 127 = .ok (.lload 8, 2) := by decide +kernel
theorem q_M_byPrice_129 : decode m_M_byPrice.2.1 129 = .ok (.ladd, 1) := by decide +kernel
theorem q_M_byPrice_130 : decode m_M_byPrice.2.1 130 = .ok (.lstore 5, 2) := by decide +kernel
theorem q_M_byPrice_132 : decode m_M_byPrice.2.1 132 = .ok (.iinc 7 1, 3) := by decide +kernel
theorem q_M_byPrice_135 : decode m_M_byPrice.2.1 135 = .ok (.goto (-97), 3) := by decide +kernel
theorem q_M_byPrice_138 : decode m_M_byPrice.2.1 138 = .ok (.lload 5, 2) := by decide +kernel
theorem q_M_byPrice_140 : decode m_M_byPrice.2.1 140 = .ok (.lload_n 3, 1) := by decide +kernel
theorem q_M_byPrice_141 : decode m_M_byPrice.2.1 141 = .ok (.ldiv, 1) := by decide +kernel
theorem q_M_byPrice_142 : decode m_M_byPrice.2.1 142 = .ok (.lreturn, 1) := by decide +kernel
theorem q_M_bound_0 : decode m_M_bound.2.1 0 = .ok (.lconst 0, 1) := by decide +kernel
theorem q_M_bound_1 : decode m_M_bound.2.1 1 = .ok (.lstore_n 2, 1) := by decide +kernel
theorem q_M_bound_2 : decode m_M_bound.2.1 2 = .ok (.iload_n 1, 1) := by decide +kernel
theorem q_M_bound_3 : decode m_M_bound.2.1 3 = .ok (.ifCond .ne 33, 3) := by decide +kernel
theorem q_M_bound_6 : decode m_M_bound.2.1 6 = .ok (.iconst 0, 1) := by decide +kernel
theorem q_M_bound_7 : decode m_M_bound.2.1 7 = .ok (.istore 4, 2) := by decide +kernel
theorem q_M_bound_9 : decode m_M_bound.2.1 9 = .ok (.iload 4, 2) := by decide +kernel
theorem q_M_bound_11 : decode m_M_bound.2.1 11 = .ok (.aload_n 0, 1) := by decide +kernel
theorem q_M_bound_12 : decode m_M_bound.2.1 12 = .ok (.getfield 76, 3) := by decide +kernel
theorem q_M_bound_15 : decode m_M_bound.2.1 15 = .ok (.if_icmp .ge 19, 3) := by decide +kernel
theorem q_M_bound_18 : decode m_M_bound.2.1 18 = .ok (.lload_n 2, 1) := by decide +kernel
theorem q_M_bound_19 : decode m_M_bound.2.1 19 = .ok (.aload_n 0, 1) := by decide +kernel
theorem q_M_bound_20 : decode m_M_bound.2.1 20 = .ok (.iload 4, 2) := by decide +kernel
theorem q_M_bound_22 : decode m_M_bound.2.1 22 = .ok (.iconst 5, 1) := by decide +kernel
theorem q_M_bound_23 : decode m_M_bound.2.1 23 = .ok (.invokevirtual 149, 3) := by decide +kernel
theorem q_M_bound_26 : decode m_M_bound.2.1 26 = .ok (.ladd, 1) := by decide +kernel
theorem q_M_bound_27 : decode m_M_bound.2.1 27 = .ok (.lstore_n 2, 1) := by decide +kernel
theorem q_M_bound_28 : decode m_M_bound.2.1 28 = .ok (.iinc 4 1, 3) := by decide +kernel
theorem q_M_bound_31 : decode m_M_bound.2.1 31 = .ok (.goto (-22), 3) := by decide +kernel
theorem q_M_bound_34 : decode m_M_bound.2.1 34 = .ok (.lload_n 2, 1) := by decide +kernel
theorem q_M_bound_35 : decode m_M_bound.2.1 35 = .ok (.lreturn, 1) := by decide +kernel
theorem q_M_bound_36 : decode m_M_bound.2.1 36 = .ok (.iload_n 1, 1) := by decide +kernel
theorem q_M_bound_37 : decode m_M_bound.2.1 37 = .ok (.iconst 1, 1) := by decide +kernel
theorem q_M_bound_38 : decode m_M_bound.2.1 38 = .ok (.if_icmp .eq 7, 3) := by decide +kernel
theorem q_M_bound_41 : decode m_M_bound.2.1 41 = .ok (.ldc2_w 41, 3) := by decide +kernel
theorem q_M_bound_44 : decode m_M_bound.2.1 44 = .ok (.lreturn, 1) := by decide +kernel
theorem q_M_bound_45 : decode m_M_bound.2.1 45 = .ok (.aload_n 0, 1) := by decide +kernel
theorem q_M_bound_46 : decode m_M_bound.2.1 46 = .ok (.lconst 0, 1) := by decide +kernel
theorem q_M_bound_47 : decode m_M_bound.2.1 47 = .ok (.lconst 1, 1) := by decide +kernel
theorem q_M_bound_48 : decode m_M_bound.2.1 48 = .ok (.invokevirtual 152, 3) := by decide +kernel
theorem q_M_bound_51 : decode m_M_bound.2.1 51 = .ok (.lstore_n 2, 1) := by decide +kernel
theorem q_M_bound_52 : decode m_M_bound.2.1 52 = .ok (.iconst 0, 1) := by decide +kernel
theorem q_M_bound_53 : decode m_M_bound.2.1 53 = .ok (.istore 4, 2) := by decide +kernel
theorem q_M_bound_55 : decode m_M_bound.2.1 55 = .ok (.iload 4, 2) := by decide +kernel
theorem q_M_bound_57 : decode m_M_bound.2.1 57 = .ok (.aload_n 0, 1) := by decide +kernel
theorem q_M_bound_58 : decode m_M_bound.2.1 58 = .ok (.getfield 84, 3) := by decide +kernel
theorem q_M_bound_61 : decode m_M_bound.2.1 61 = .ok (.if_icmp .ge 55, 3) := by decide +kernel
theorem q_M_bound_64 : decode m_M_bound.2.1 64 = .ok (.aload_n 0, 1) := by decide +kernel
theorem q_M_bound_65 : decode m_M_bound.2.1 65 = .ok (.getfield 22, 3) := by decide +kernel
theorem q_M_bound_68 : decode m_M_bound.2.1 68 = .ok (.iload 4, 2) := by decide +kernel
theorem q_M_bound_70 : decode m_M_bound.2.1 70 = .ok (.laload, 1) := by decide +kernel
theorem q_M_bound_71 : decode m_M_bound.2.1 71 = .ok (.lconst 0, 1) := by decide +kernel
theorem q_M_bound_72 : decode m_M_bound.2.1 72 = .ok (.lcmp, 1) := by decide +kernel
theorem q_M_bound_73 : decode m_M_bound.2.1 73 = .ok (.ifCond .le 37, 3) := by decide +kernel
theorem q_M_bound_76 : decode m_M_bound.2.1 76 = .ok (.aload_n 0, 1) := by decide +kernel
theorem q_M_bound_77 : decode m_M_bound.2.1 77 = .ok (.aload_n 0, 1) := by decide +kernel
theorem q_M_bound_78 : decode m_M_bound.2.1 78 = .ok (.getfield 26, 3) := by decide +kernel
theorem q_M_bound_81 : decode m_M_bound.2.1 81 = .ok (.iload 4, 2) := by decide +kernel
theorem q_M_bound_83 : decode m_M_bound.2.1 83 = .ok (.laload, 1) := by decide +kernel
theorem q_M_bound_84 : decode m_M_bound.2.1 84 = .ok (.aload_n 0, 1) := by decide +kernel
theorem q_M_bound_85 : decode m_M_bound.2.1 85 = .ok (.getfield 22, 3) := by decide +kernel
theorem q_M_bound_88 : decode m_M_bound.2.1 88 = .ok (.iload 4, 2) := by decide +kernel
theorem q_M_bound_90 : decode m_M_bound.2.1 90 = .ok (.laload, 1) := by decide +kernel
theorem q_M_bound_91 : decode m_M_bound.2.1 91 = .ok (.invokevirtual 152, 3) := by decide +kernel
theorem q_M_bound_94 : decode m_M_bound.2.1 94 = .ok (.lstore 5, 2) := by decide +kernel
theorem q_M_bound_96 : decode m_M_bound.2.1 96 = .ok (.lload 5, 2) := by decide +kernel
theorem q_M_bound_98 : decode m_M_bound.2.1 98 = .ok (.lload_n 2, 1) := by decide +kernel
theorem q_M_bound_99 : decode m_M_bound.2.1 99 = .ok (.lcmp, 1) := by decide +kernel
theorem q_M_bound_100 : decode m_M_bound.2.1 100 = .ok (.ifCond .ge 8, 3) := by decide +kernel
theorem q_M_bound_103 : decode m_M_bound.2.1 103 = .ok (.lload 5, 2) := by decide +kernel
theorem q_M_bound_105 : decode m_M_bound.2.1 105 = .ok (.goto 4, 3) := by decide +kernel
theorem q_M_bound_108 : decode m_M_bound.2.1 108 = .ok (.lload_n 2, 1) := by decide +kernel
theorem q_M_bound_109 : decode m_M_bound.2.1 109 = .ok (.lstore_n 2, 1) := by decide +kernel
theorem q_M_bound_110 : decode m_M_bound.2.1 110 = .ok (.iinc 4 1, 3) := by decide +kernel
theorem q_M_bound_113 : decode m_M_bound.2.1 113 = .ok (.goto (-58), 3) := by decide +kernel
theorem q_M_bound_116 : decode m_M_bound.2.1 116 = .ok (.lload_n 2, 1) := by decide +kernel
theorem q_M_bound_117 : decode m_M_bound.2.1 117 = .ok (.lreturn, 1) := by decide +kernel
theorem q_M_someHolds_0 : decode m_M_someHolds.2.1 0 = .ok (.iconst 0, 1) := by decide +kernel
theorem q_M_someHolds_1 : decode m_M_someHolds.2.1 1 = .ok (.istore_n 2, 1) := by decide +kernel
theorem q_M_someHolds_2 : decode m_M_someHolds.2.1 2 = .ok (.iconst 0, 1) := by decide +kernel
theorem q_M_someHolds_3 : decode m_M_someHolds.2.1 3 = .ok (.istore_n 3, 1) := by decide +kernel
theorem q_M_someHolds_4 : decode m_M_someHolds.2.1 4 = .ok (.iload_n 3, 1) := by decide +kernel
theorem q_M_someHolds_5 : decode m_M_someHolds.2.1 5 = .ok (.iconst 1, 1) := by decide +kernel
theorem q_M_someHolds_6 : decode m_M_someHolds.2.1 6 = .ok (.aload_n 0, 1) := by decide +kernel
theorem q_M_someHolds_7 : decode m_M_someHolds.2.1 7 = .ok (.getfield 84, 3) := by decide +kernel
theorem q_M_someHolds_10 : decode m_M_someHolds.2.1 10 = .ok (.ishl, 1) := by decide +kernel
theorem q_M_someHolds_11 : decode m_M_someHolds.2.1 11 = .ok (.if_icmp .ge 24, 3) := by decide +kernel
theorem q_M_someHolds_14 : decode m_M_someHolds.2.1 14 = .ok (.iload_n 2, 1) := by decide +kernel
theorem q_M_someHolds_15 : decode m_M_someHolds.2.1 15 = .ok (.ifCond .ne 20, 3) := by decide +kernel
theorem q_M_someHolds_18 : decode m_M_someHolds.2.1 18 = .ok (.aload_n 0, 1) := by decide +kernel
theorem q_M_someHolds_19 : decode m_M_someHolds.2.1 19 = .ok (.aload_n 0, 1) := by decide +kernel
theorem q_M_someHolds_20 : decode m_M_someHolds.2.1 20 = .ok (.iload_n 3, 1) := by decide +kernel
theorem q_M_someHolds_21 : decode m_M_someHolds.2.1 21 = .ok (.invokevirtual 131, 3) := by decide +kernel
theorem q_M_someHolds_24 : decode m_M_someHolds.2.1 24 = .ok (.iload_n 1, 1) := by decide +kernel
theorem q_M_someHolds_25 : decode m_M_someHolds.2.1 25 = .ok (.invokevirtual 134, 3) := by decide +kernel
theorem q_M_someHolds_28 : decode m_M_someHolds.2.1 28 = .ok (.istore_n 2, 1) := by decide +kernel
theorem q_M_someHolds_29 : decode m_M_someHolds.2.1 29 = .ok (.iinc 3 1, 3) := by decide +kernel
theorem q_M_someHolds_32 : decode m_M_someHolds.2.1 32 = .ok (.goto (-28), 3) := by decide +kernel
theorem q_M_someHolds_35 : decode m_M_someHolds.2.1 35 = .ok (.iload_n 2, 1) := by decide +kernel
theorem q_M_someHolds_36 : decode m_M_someHolds.2.1 36 = .ok (.ireturn, 1) := by decide +kernel
theorem q_M_clash_0 : decode m_M_clash.2.1 0 = .ok (.aload_n 0, 1) := by decide +kernel
theorem q_M_clash_1 : decode m_M_clash.2.1 1 = .ok (.aload_n 0, 1) := by decide +kernel
theorem q_M_clash_2 : decode m_M_clash.2.1 2 = .ok (.getfield 91, 3) := by decide +kernel
theorem q_M_clash_5 : decode m_M_clash.2.1 5 = .ok (.invokevirtual 156, 3) := by decide +kernel
theorem q_M_clash_8 : decode m_M_clash.2.1 8 = .ok (.ifCond .eq 5, 3) := by decide +kernel
theorem q_M_clash_11 : decode m_M_clash.2.1 11 = .ok (.iconst (-1), 1) := by decide +kernel
theorem q_M_clash_12 : decode m_M_clash.2.1 12 = .ok (.ireturn, 1) := by decide +kernel
theorem q_M_clash_13 : decode m_M_clash.2.1 13 = .ok (.aload_n 0, 1) := by decide +kernel
theorem q_M_clash_14 : decode m_M_clash.2.1 14 = .ok (.getfield 91, 3) := by decide +kernel
theorem q_M_clash_17 : decode m_M_clash.2.1 17 = .ok (.istore_n 2, 1) := by decide +kernel
theorem q_M_clash_18 : decode m_M_clash.2.1 18 = .ok (.iconst 0, 1) := by decide +kernel
theorem q_M_clash_19 : decode m_M_clash.2.1 19 = .ok (.istore_n 3, 1) := by decide +kernel
theorem q_M_clash_20 : decode m_M_clash.2.1 20 = .ok (.iload_n 3, 1) := by decide +kernel
theorem q_M_clash_21 : decode m_M_clash.2.1 21 = .ok (.aload_n 0, 1) := by decide +kernel
theorem q_M_clash_22 : decode m_M_clash.2.1 22 = .ok (.getfield 84, 3) := by decide +kernel
theorem q_M_clash_25 : decode m_M_clash.2.1 25 = .ok (.if_icmp .ge 39, 3) := by decide +kernel
theorem q_M_clash_28 : decode m_M_clash.2.1 28 = .ok (.iload_n 2, 1) := by decide +kernel
theorem q_M_clash_29 : decode m_M_clash.2.1 29 = .ok (.iload_n 3, 1) := by decide +kernel
theorem q_M_clash_30 : decode m_M_clash.2.1 30 = .ok (.invokestatic 94, 3) := by decide +kernel
theorem q_M_clash_33 : decode m_M_clash.2.1 33 = .ok (.ifCond .eq 25, 3) := by decide +kernel
theorem q_M_clash_36 : decode m_M_clash.2.1 36 = .ok (.aload_n 0, 1) := by decide +kernel
theorem q_M_clash_37 : decode m_M_clash.2.1 37 = .ok (.iload_n 2, 1) := by decide +kernel
theorem q_M_clash_38 : decode m_M_clash.2.1 38 = .ok (.iconst 1, 1) := by decide +kernel
theorem q_M_clash_39 : decode m_M_clash.2.1 39 = .ok (.iload_n 3, 1) := by decide +kernel
theorem q_M_clash_40 : decode m_M_clash.2.1 40 = .ok (.ishl, 1) := by decide +kernel
theorem q_M_clash_41 : decode m_M_clash.2.1 41 = .ok (.iconst (-1), 1) := by decide +kernel
theorem q_M_clash_42 : decode m_M_clash.2.1 42 = .ok (.ixor, 1) := by decide +kernel
theorem q_M_clash_43 : decode m_M_clash.2.1 43 = .ok (.iand, 1) := by decide +kernel
theorem q_M_clash_44 : decode m_M_clash.2.1 44 = .ok (.invokevirtual 156, 3) := by decide +kernel
theorem q_M_clash_47 : decode m_M_clash.2.1 47 = .ok (.ifCond .ne 11, 3) := by decide +kernel
theorem q_M_clash_50 : decode m_M_clash.2.1 50 = .ok (.iload_n 2, 1) := by decide +kernel
theorem q_M_clash_51 : decode m_M_clash.2.1 51 = .ok (.iconst 1, 1) := by decide +kernel
theorem q_M_clash_52 : decode m_M_clash.2.1 52 = .ok (.iload_n 3, 1) := by decide +kernel
theorem q_M_clash_53 : decode m_M_clash.2.1 53 = .ok (.ishl, 1) := by decide +kernel
theorem q_M_clash_54 : decode m_M_clash.2.1 54 = .ok (.iconst (-1), 1) := by decide +kernel
theorem q_M_clash_55 : decode m_M_clash.2.1 55 = .ok (.ixor, 1) := by decide +kernel
theorem q_M_clash_56 : decode m_M_clash.2.1 56 = .ok (.iand, 1) := by decide +kernel
theorem q_M_clash_57 : decode m_M_clash.2.1 57 = .ok (.istore_n 2, 1) := by decide +kernel
theorem q_M_clash_58 : decode m_M_clash.2.1 58 = .ok (.iinc 3 1, 3) := by decide +kernel
theorem q_M_clash_61 : decode m_M_clash.2.1 61 = .ok (.goto (-41), 3) := by decide +kernel
theorem q_M_clash_64 : decode m_M_clash.2.1 64 = .ok (.iconst 0, 1) := by decide +kernel
theorem q_M_clash_65 : decode m_M_clash.2.1 65 = .ok (.istore_n 3, 1) := by decide +kernel
theorem q_M_clash_66 : decode m_M_clash.2.1 66 = .ok (.iconst 0, 1) := by decide +kernel
theorem q_M_clash_67 : decode m_M_clash.2.1 67 = .ok (.istore 4, 2) := by decide +kernel
theorem q_M_clash_69 : decode m_M_clash.2.1 69 = .ok (.iload 4, 2) := by decide +kernel
theorem q_M_clash_71 : decode m_M_clash.2.1 71 = .ok (.aload_n 0, 1) := by decide +kernel
theorem q_M_clash_72 : decode m_M_clash.2.1 72 = .ok (.getfield 84, 3) := by decide +kernel
theorem q_M_clash_75 : decode m_M_clash.2.1 75 = .ok (.if_icmp .ge 29, 3) := by decide +kernel
theorem q_M_clash_78 : decode m_M_clash.2.1 78 = .ok (.iload_n 2, 1) := by decide +kernel
theorem q_M_clash_79 : decode m_M_clash.2.1 79 = .ok (.iload 4, 2) := by decide +kernel
theorem q_M_clash_81 : decode m_M_clash.2.1 81 = .ok (.invokestatic 94, 3) := by decide +kernel
theorem q_M_clash_84 : decode m_M_clash.2.1 84 = .ok (.ifCond .eq 14, 3) := by decide +kernel
theorem q_M_clash_87 : decode m_M_clash.2.1 87 = .ok (.iload_n 3, 1) := by decide +kernel
theorem q_M_clash_88 : decode m_M_clash.2.1 88 = .ok (.iload_n 1, 1) := by decide +kernel
theorem q_M_clash_89 : decode m_M_clash.2.1 89 = .ok (.if_icmp .ne 6, 3) := by decide +kernel
theorem q_M_clash_92 : decode m_M_clash.2.1 92 = .ok (.iload 4, 2) := by decide +kernel
theorem q_M_clash_94 : decode m_M_clash.2.1 94 = .ok (.ireturn, 1) := by decide +kernel
theorem q_M_clash_95 : decode m_M_clash.2.1 95 = .ok (.iinc 3 1, 3) := by decide +kernel
theorem q_M_clash_98 : decode m_M_clash.2.1 98 = .ok (.iinc 4 1, 3) := by decide +kernel
theorem q_M_clash_101 : decode m_M_clash.2.1 101 = .ok (.goto (-32), 3) := by decide +kernel
theorem q_M_clash_104 : decode m_M_clash.2.1 104 = .ok (.iconst (-1), 1) := by decide +kernel
theorem q_M_clash_105 : decode m_M_clash.2.1 105 = .ok (.ireturn, 1) := by decide +kernel
theorem q_M_proved_0 : decode m_M_proved.2.1 0 = .ok (.aload_n 0, 1) := by decide +kernel
theorem q_M_proved_1 : decode m_M_proved.2.1 1 = .ok (.getfield 66, 3) := by decide +kernel
theorem q_M_proved_4 : decode m_M_proved.2.1 4 = .ok (.ireturn, 1) := by decide +kernel
theorem q_M_price_0 : decode m_M_price.2.1 0 = .ok (.aload_n 0, 1) := by decide +kernel
theorem q_M_price_1 : decode m_M_price.2.1 1 = .ok (.iload_n 1, 1) := by decide +kernel
theorem q_M_price_2 : decode m_M_price.2.1 2 = .ok (.invokevirtual 98, 3) := by decide +kernel
theorem q_M_price_5 : decode m_M_price.2.1 5 = .ok (.ifCond .eq 12, 3) := by decide +kernel
theorem q_M_price_8 : decode m_M_price.2.1 8 = .ok (.iload_n 2, 1) := by decide +kernel
theorem q_M_price_9 : decode m_M_price.2.1 9 = .ok (.ifCond .eq 12, 3) := by decide +kernel
theorem q_M_price_12 : decode m_M_price.2.1 12 = .ok (.iload_n 2, 1) := by decide +kernel
theorem q_M_price_13 : decode m_M_price.2.1 13 = .ok (.iconst 1, 1) := by decide +kernel
theorem q_M_price_14 : decode m_M_price.2.1 14 = .ok (.if_icmp .eq 7, 3) := by decide +kernel
theorem q_M_price_17 : decode m_M_price.2.1 17 = .ok (.ldc2_w 41, 3) := by decide +kernel
theorem q_M_price_20 : decode m_M_price.2.1 20 = .ok (.lreturn, 1) := by decide +kernel
theorem q_M_price_21 : decode m_M_price.2.1 21 = .ok (.lconst 0, 1) := by decide +kernel
theorem q_M_price_22 : decode m_M_price.2.1 22 = .ok (.lstore_n 3, 1) := by decide +kernel
theorem q_M_price_23 : decode m_M_price.2.1 23 = .ok (.iload_n 2, 1) := by decide +kernel
theorem q_M_price_24 : decode m_M_price.2.1 24 = .ok (.ifCond .ne 32, 3) := by decide +kernel
theorem q_M_price_27 : decode m_M_price.2.1 27 = .ok (.aload_n 0, 1) := by decide +kernel
theorem q_M_price_28 : decode m_M_price.2.1 28 = .ok (.ldc2_w 140, 3) := by decide +kernel
theorem q_M_price_31 : decode m_M_price.2.1 31 = .ok (.invokevirtual 142, 3) := by decide +kernel
theorem q_M_price_34 : decode m_M_price.2.1 34 = .ok (.istore 5, 2) := by decide +kernel
theorem q_M_price_36 : decode m_M_price.2.1 36 = .ok (.iload 5, 2) := by decide +kernel
theorem q_M_price_38 : decode m_M_price.2.1 38 = .ok (.iconst (-1), 1) := by decide +kernel
theorem q_M_price_39 : decode m_M_price.2.1 39 = .ok (.if_icmp .ne 7, 3) := by decide +kernel
theorem q_M_price_42 : decode m_M_price.2.1 42 = .ok (.ldc2_w 41, 3) := by decide +kernel
theorem q_M_price_45 : decode m_M_price.2.1 45 = .ok (.lreturn, 1) := by decide +kernel
theorem q_M_price_46 : decode m_M_price.2.1 46 = .ok (.aload_n 0, 1) := by decide +kernel
theorem q_M_price_47 : decode m_M_price.2.1 47 = .ok (.iload 5, 2) := by decide +kernel
theorem q_M_price_49 : decode m_M_price.2.1 49 = .ok (.invokevirtual 123, 3) := by decide +kernel
theorem q_M_price_52 : decode m_M_price.2.1 52 = .ok (.lstore_n 3, 1) := by decide +kernel
theorem q_M_price_53 : decode m_M_price.2.1 53 = .ok (.goto 9, 3) := by decide +kernel
theorem q_M_price_56 : decode m_M_price.2.1 56 = .ok (.aload_n 0, 1) := by decide +kernel
theorem q_M_price_57 : decode m_M_price.2.1 57 = .ok (.iconst 1, 1) := by decide +kernel
theorem q_M_price_58 : decode m_M_price.2.1 58 = .ok (.invokevirtual 159, 3) := by decide +kernel
theorem q_M_price_61 : decode m_M_price.2.1 61 = .ok (.lstore_n 3, 1) := by decide +kernel
theorem q_M_price_62 : decode m_M_price.2.1 62 = .ok (.aload_n 0, 1) := by decide +kernel
theorem q_M_price_63 : decode m_M_price.2.1 63 = .ok (.getfield 29, 3) := by decide +kernel
theorem q_M_price_66 : decode m_M_price.2.1 66 = .ok (.iload_n 1, 1) := by decide +kernel
theorem q_M_price_67 : decode m_M_price.2.1 67 = .ok (.dup2, 1) := by decide +kernel
theorem q_M_price_68 : decode m_M_price.2.1 68 = .ok (.laload, 1) := by decide +kernel
theorem q_M_price_69 : decode m_M_price.2.1 69 = .ok (.ldc2_w 162, 3) := by decide +kernel
theorem q_M_price_72 : decode m_M_price.2.1 72 = .ok (.ladd, 1) := by decide +kernel
theorem q_M_price_73 : decode m_M_price.2.1 73 = .ok (.lastore, 1) := by decide +kernel
theorem q_M_price_74 : decode m_M_price.2.1 74 = .ok (.iload_n 2, 1) := by decide +kernel
theorem q_M_price_75 : decode m_M_price.2.1 75 = .ok (.ifCond .ne 17, 3) := by decide +kernel
theorem q_M_price_78 : decode m_M_price.2.1 78 = .ok (.aload_n 0, 1) := by decide +kernel
theorem q_M_price_79 : decode m_M_price.2.1 79 = .ok (.aload_n 0, 1) := by decide +kernel
theorem q_M_price_80 : decode m_M_price.2.1 80 = .ok (.ldc2_w 140, 3) := by decide +kernel
theorem q_M_price_83 : decode m_M_price.2.1 83 = .ok (.invokevirtual 142, 3) := by decide +kernel
theorem q_M_price_86 : decode m_M_price.2.1 86 = .ok (.invokevirtual 123, 3) := by decide +kernel
theorem q_M_price_89 : decode m_M_price.2.1 89 = .ok (.goto 8, 3) := by decide +kernel
theorem q_M_price_92 : decode m_M_price.2.1 92 = .ok (.aload_n 0, 1) := by decide +kernel
theorem q_M_price_93 : decode m_M_price.2.1 93 = .ok (.iconst 1, 1) := by decide +kernel
theorem q_M_price_94 : decode m_M_price.2.1 94 = .ok (.invokevirtual 159, 3) := by decide +kernel
theorem q_M_price_97 : decode m_M_price.2.1 97 = .ok (.lstore 5, 2) := by decide +kernel
theorem q_M_price_99 : decode m_M_price.2.1 99 = .ok (.aload_n 0, 1) := by decide +kernel
theorem q_M_price_100 : decode m_M_price.2.1 100 = .ok (.getfield 29, 3) := by decide +kernel
theorem q_M_price_103 : decode m_M_price.2.1 103 = .ok (.iload_n 1, 1) := by decide +kernel
theorem q_M_price_104 : decode m_M_price.2.1 104 = .ok (.dup2, 1) := by decide +kernel
theorem q_M_price_105 : decode m_M_price.2.1 105 = .ok (.laload, 1) := by decide +kernel
theorem q_M_price_106 : decode m_M_price.2.1 106 = .ok (.ldc2_w 162, 3) := by decide +kernel
theorem q_M_price_109 : decode m_M_price.2.1 109 = .ok (.lsub, 1) := by decide +kernel
theorem q_M_price_110 : decode m_M_price.2.1 110 = .ok (.lastore, 1) := by decide +kernel
theorem q_M_price_111 : decode m_M_price.2.1 111 = .ok (.lload 5, 2) := by decide +kernel
theorem q_M_price_113 : decode m_M_price.2.1 113 = .ok (.lload_n 3, 1) := by decide +kernel
theorem q_M_price_114 : decode m_M_price.2.1 114 = .ok (.lsub, 1) := by decide +kernel
theorem q_M_price_115 : decode m_M_price.2.1 115 = .ok (.lreturn, 1) := by decide +kernel
theorem q_M_old_0 : decode m_M_old.2.1 0 = .ok (.aload_n 0, 1) := by decide +kernel
theorem q_M_old_1 : decode m_M_old.2.1 1 = .ok (.iload_n 1, 1) := by decide +kernel
theorem q_M_old_2 : decode m_M_old.2.1 2 = .ok (.invokevirtual 87, 3) := by decide +kernel
theorem q_M_old_5 : decode m_M_old.2.1 5 = .ok (.ifCond .ne 5, 3) := by decide +kernel
theorem q_M_old_8 : decode m_M_old.2.1 8 = .ok (.iconst 0, 1) := by decide +kernel
theorem q_M_old_9 : decode m_M_old.2.1 9 = .ok (.ireturn, 1) := by decide +kernel
theorem q_M_old_10 : decode m_M_old.2.1 10 = .ok (.aload_n 0, 1) := by decide +kernel
theorem q_M_old_11 : decode m_M_old.2.1 11 = .ok (.iload_n 2, 1) := by decide +kernel
theorem q_M_old_12 : decode m_M_old.2.1 12 = .ok (.ifCond .eq 14, 3) := by decide +kernel
theorem q_M_old_15 : decode m_M_old.2.1 15 = .ok (.aload_n 0, 1) := by decide +kernel
theorem q_M_old_16 : decode m_M_old.2.1 16 = .ok (.getfield 164, 3) := by decide +kernel
theorem q_M_old_19 : decode m_M_old.2.1 19 = .ok (.iconst 1, 1) := by decide +kernel
theorem q_M_old_20 : decode m_M_old.2.1 20 = .ok (.iload_n 1, 1) := by decide +kernel
theorem q_M_old_21 : decode m_M_old.2.1 21 = .ok (.ishl, 1) := by decide +kernel
theorem q_M_old_22 : decode m_M_old.2.1 22 = .ok (.ior, 1) := by decide +kernel
theorem q_M_old_23 : decode m_M_old.2.1 23 = .ok (.goto 13, 3) := by decide +kernel
theorem q_M_old_26 : decode m_M_old.2.1 26 = .ok (.aload_n 0, 1) := by decide +kernel
theorem q_M_old_27 : decode m_M_old.2.1 27 = .ok (.getfield 164, 3) := by decide +kernel
theorem q_M_old_30 : decode m_M_old.2.1 30 = .ok (.iconst 1, 1) := by decide +kernel
theorem q_M_old_31 : decode m_M_old.2.1 31 = .ok (.iload_n 1, 1) := by decide +kernel
theorem q_M_old_32 : decode m_M_old.2.1 32 = .ok (.ishl, 1) := by decide +kernel
theorem q_M_old_33 : decode m_M_old.2.1 33 = .ok (.iconst (-1), 1) := by decide +kernel
theorem q_M_old_34 : decode m_M_old.2.1 34 = .ok (.ixor, 1) := by decide +kernel
theorem q_M_old_35 : decode m_M_old.2.1 35 = .ok (.iand, 1) := by decide +kernel
theorem q_M_old_36 : decode m_M_old.2.1 36 = .ok (.putfield 164, 3) := by decide +kernel
theorem q_M_old_39 : decode m_M_old.2.1 39 = .ok (.iconst 1, 1) := by decide +kernel
theorem q_M_old_40 : decode m_M_old.2.1 40 = .ok (.ireturn, 1) := by decide +kernel
theorem q_M_differ_0 : decode m_M_differ.2.1 0 = .ok (.iconst 0, 1) := by decide +kernel
theorem q_M_differ_1 : decode m_M_differ.2.1 1 = .ok (.istore_n 2, 1) := by decide +kernel
theorem q_M_differ_2 : decode m_M_differ.2.1 2 = .ok (.iconst 0, 1) := by decide +kernel
theorem q_M_differ_3 : decode m_M_differ.2.1 3 = .ok (.istore_n 3, 1) := by decide +kernel
theorem q_M_differ_4 : decode m_M_differ.2.1 4 = .ok (.iload_n 3, 1) := by decide +kernel
theorem q_M_differ_5 : decode m_M_differ.2.1 5 = .ok (.aload_n 0, 1) := by decide +kernel
theorem q_M_differ_6 : decode m_M_differ.2.1 6 = .ok (.getfield 84, 3) := by decide +kernel
theorem q_M_differ_9 : decode m_M_differ.2.1 9 = .ok (.if_icmp .ge 30, 3) := by decide +kernel
theorem q_M_differ_12 : decode m_M_differ.2.1 12 = .ok (.iload_n 2, 1) := by decide +kernel
theorem q_M_differ_13 : decode m_M_differ.2.1 13 = .ok (.iload_n 1, 1) := by decide +kernel
theorem q_M_differ_14 : decode m_M_differ.2.1 14 = .ok (.aload_n 0, 1) := by decide +kernel
theorem q_M_differ_15 : decode m_M_differ.2.1 15 = .ok (.getfield 164, 3) := by decide +kernel
theorem q_M_differ_18 : decode m_M_differ.2.1 18 = .ok (.ixor, 1) := by decide +kernel
theorem q_M_differ_19 : decode m_M_differ.2.1 19 = .ok (.iload_n 3, 1) := by decide +kernel
theorem q_M_differ_20 : decode m_M_differ.2.1 20 = .ok (.invokestatic 94, 3) := by decide +kernel
theorem q_M_differ_23 : decode m_M_differ.2.1 23 = .ok (.ifCond .eq 7, 3) := by decide +kernel
theorem q_M_differ_26 : decode m_M_differ.2.1 26 = .ok (.iconst 1, 1) := by decide +kernel
theorem q_M_differ_27 : decode m_M_differ.2.1 27 = .ok (.goto 4, 3) := by decide +kernel
theorem q_M_differ_30 : decode m_M_differ.2.1 30 = .ok (.iconst 0, 1) := by decide +kernel
theorem q_M_differ_31 : decode m_M_differ.2.1 31 = .ok (.iadd, 1) := by decide +kernel
theorem q_M_differ_32 : decode m_M_differ.2.1 32 = .ok (.istore_n 2, 1) := by decide +kernel
theorem q_M_differ_33 : decode m_M_differ.2.1 33 = .ok (.iinc 3 1, 3) := by decide +kernel
theorem q_M_differ_36 : decode m_M_differ.2.1 36 = .ok (.goto (-32), 3) := by decide +kernel
theorem q_M_differ_39 : decode m_M_differ.2.1 39 = .ok (.iload_n 2, 1) := by decide +kernel
theorem q_M_differ_40 : decode m_M_differ.2.1 40 = .ok (.ireturn, 1) := by decide +kernel
theorem q_M_changes_0 : decode m_M_changes.2.1 0 = .ok (.lload_n 1, 1) := by decide +kernel
theorem q_M_changes_1 : decode m_M_changes.2.1 1 = .ok (.lconst 1, 1) := by decide +kernel
theorem q_M_changes_2 : decode m_M_changes.2.1 2 = .ok (.ldc2_w 140, 3) := by decide +kernel
theorem q_M_changes_5 : decode m_M_changes.2.1 5 = .ok (.invokestatic 72, 3) := by decide +kernel
theorem q_M_changes_8 : decode m_M_changes.2.1 8 = .ok (.ifCond .ne 5, 3) := by decide +kernel
theorem q_M_changes_11 : decode m_M_changes.2.1 11 = .ok (.iconst (-1), 1) := by decide +kernel
theorem q_M_changes_12 : decode m_M_changes.2.1 12 = .ok (.ireturn, 1) := by decide +kernel
theorem q_M_changes_13 : decode m_M_changes.2.1 13 = .ok (.iconst (-1), 1) := by decide +kernel
theorem q_M_changes_14 : decode m_M_changes.2.1 14 = .ok (.istore_n 3, 1) := by decide +kernel
theorem q_M_changes_15 : decode m_M_changes.2.1 15 = .ok (.iconst 0, 1) := by decide +kernel
theorem q_M_changes_16 : decode m_M_changes.2.1 16 = .ok (.istore 4, 2) := by decide +kernel
theorem q_M_changes_18 : decode m_M_changes.2.1 18 = .ok (.iload 4, 2) := by decide +kernel
theorem q_M_changes_20 : decode m_M_changes.2.1 20 = .ok (.i2l, 1) := by decide +kernel
theorem q_M_changes_21 : decode m_M_changes.2.1 21 = .ok (.lload_n 1, 1) := by decide +kernel
theorem q_M_changes_22 : decode m_M_changes.2.1 22 = .ok (.lcmp, 1) := by decide +kernel
theorem q_M_changes_23 : decode m_M_changes.2.1 23 = .ok (.ifCond .ge 103, 3) := by decide +kernel
theorem q_M_changes_26 : decode m_M_changes.2.1 26 = .ok (.iload 4, 2) := by decide +kernel
theorem q_M_changes_28 : decode m_M_changes.2.1 28 = .ok (.iconst 1, 1) := by decide +kernel
theorem q_M_changes_29 : decode m_M_changes.2.1 29 = .ok (.aload_n 0, 1) := by decide +kernel
theorem q_M_changes_30 : decode m_M_changes.2.1 30 = .ok (.getfield 84, 3) := by decide +kernel
theorem q_M_changes_33 : decode m_M_changes.2.1 33 = .ok (.ishl, 1) := by decide +kernel
theorem q_M_changes_34 : decode m_M_changes.2.1 34 = .ok (.if_icmp .ge 92, 3) := by decide +kernel
theorem q_M_changes_37 : decode m_M_changes.2.1 37 = .ok (.aload_n 0, 1) := by decide +kernel
theorem q_M_changes_38 : decode m_M_changes.2.1 38 = .ok (.iload 4, 2) := by decide +kernel
theorem q_M_changes_40 : decode m_M_changes.2.1 40 = .ok (.invokevirtual 131, 3) := by decide +kernel
theorem q_M_changes_43 : decode m_M_changes.2.1 43 = .ok (.istore 5, 2) := by decide +kernel
theorem q_M_changes_45 : decode m_M_changes.2.1 45 = .ok (.aload_n 0, 1) := by decide +kernel
theorem q_M_changes_46 : decode m_M_changes.2.1 46 = .ok (.iload 5, 2) := by decide +kernel
theorem q_M_changes_48 : decode m_M_changes.2.1 48 = .ok (.aload_n 0, 1) := by decide +kernel
theorem q_M_changes_49 : decode m_M_changes.2.1 49 = .ok (.getfield 91, 3) := by decide +kernel
theorem q_M_changes_52 : decode m_M_changes.2.1 52 = .ok (.invokevirtual 134, 3) := by decide +kernel
theorem q_M_changes_55 : decode m_M_changes.2.1 55 = .ok (.ifCond .eq 65, 3) := by decide +kernel
theorem q_M_changes_58 : decode m_M_changes.2.1 58 = .ok (.iload_n 3, 1) := by decide +kernel
theorem q_M_changes_59 : decode m_M_changes.2.1 59 = .ok (.iconst (-1), 1) := by decide +kernel
theorem q_M_changes_60 : decode m_M_changes.2.1 60 = .ok (.if_icmp .eq 17, 3) := by decide +kernel
theorem q_M_changes_63 : decode m_M_changes.2.1 63 = .ok (.aload_n 0, 1) := by decide +kernel
theorem q_M_changes_64 : decode m_M_changes.2.1 64 = .ok (.iload 5, 2) := by decide +kernel
theorem q_M_changes_66 : decode m_M_changes.2.1 66 = .ok (.invokevirtual 167, 3) := by decide +kernel
theorem q_M_changes_69 : decode m_M_changes.2.1 69 = .ok (.aload_n 0, 1) := by decide +kernel
theorem q_M_changes_70 : decode m_M_changes.2.1 70 = .ok (.iload_n 3, 1) := by decide +kernel
theorem q_M_changes_71 : decode m_M_changes.2.1 71 = .ok (.invokevirtual 167, 3) := by decide +kernel
theorem q_M_changes_74 : decode m_M_changes.2.1 74 = .ok (.if_icmp .ge 7, 3) := by decide +kernel
theorem q_M_changes_77 : decode m_M_changes.2.1 77 = .ok (.iconst 1, 1) := by decide +kernel
theorem q_M_changes_78 : decode m_M_changes.2.1 78 = .ok (.goto 4, 3) := by decide +kernel
theorem q_M_changes_81 : decode m_M_changes.2.1 81 = .ok (.iconst 0, 1) := by decide +kernel
theorem q_M_changes_82 : decode m_M_changes.2.1 82 = .ok (.istore 6, 2) := by decide +kernel
theorem q_M_changes_84 : decode m_M_changes.2.1 84 = .ok (.iload 6, 2) := by decide +kernel
theorem q_M_changes_86 : decode m_M_changes.2.1 86 = .ok (.ifCond .ne 27, 3) := by decide +kernel
theorem q_M_changes_89 : decode m_M_changes.2.1 89 = .ok (.aload_n 0, 1) := by decide +kernel
theorem q_M_changes_90 : decode m_M_changes.2.1 90 = .ok (.iload 5, 2) := by decide +kernel
theorem q_M_changes_92 : decode m_M_changes.2.1 92 = .ok (.invokevirtual 167, 3) := by decide +kernel
theorem q_M_changes_95 : decode m_M_changes.2.1 95 = .ok (.aload_n 0, 1) := by decide +kernel
theorem q_M_changes_96 : decode m_M_changes.2.1 96 = .ok (.iload_n 3, 1) := by decide +kernel
theorem q_M_changes_97 : decode m_M_changes.2.1 97 = .ok (.invokevirtual 167, 3) := by decide +kernel
theorem q_M_changes_100 : decode m_M_changes.2.1 100 = .ok (.if_icmp .ne 18, 3) := by decide +kernel
theorem q_M_changes_103 : decode m_M_changes.2.1 103 = .ok (.aload_n 0, 1) := by decide +kernel
theorem q_M_changes_104 : decode m_M_changes.2.1 104 = .ok (.iload 5, 2) := by decide +kernel
theorem q_M_changes_106 : decode m_M_changes.2.1 106 = .ok (.iload_n 3, 1) := by decide +kernel
theorem q_M_changes_107 : decode m_M_changes.2.1 107 = .ok (.invokevirtual 137, 3) := by decide +kernel
theorem q_M_changes_110 : decode m_M_changes.2.1 110 = .ok (.ifCond .eq 8, 3) := by decide +kernel
theorem q_M_changes_113 : decode m_M_changes.2.1 113 = .ok (.iload 5, 2) := by decide +kernel
theorem q_M_changes_115 : decode m_M_changes.2.1 115 = .ok (.goto 4, 3) := by decide +kernel
theorem q_M_changes_118 : decode m_M_changes.2.1 118 = .ok (.iload_n 3, 1) := by decide +kernel
theorem q_M_changes_119 : decode m_M_changes.2.1 119 = .ok (.istore_n 3, 1) := by decide +kernel
theorem q_M_changes_120 : decode m_M_changes.2.1 120 = .ok (.iinc 4 1, 3) := by decide +kernel
theorem q_M_changes_123 : decode m_M_changes.2.1 123 = .ok (.goto (-105), 3) := by decide +kernel
theorem q_M_changes_126 : decode m_M_changes.2.1 126 = .ok (.aload_n 0, 1) := by decide +kernel
theorem q_M_changes_127 : decode m_M_changes.2.1 127 = .ok (.iload_n 3, 1) := by decide +kernel
theorem q_M_changes_128 : decode m_M_changes.2.1 128 = .ok (.putfield 47, 3) := by decide +kernel
theorem q_M_changes_131 : decode m_M_changes.2.1 131 = .ok (.iload_n 3, 1) := by decide +kernel
theorem q_M_changes_132 : decode m_M_changes.2.1 132 = .ok (.iconst (-1), 1) := by decide +kernel
theorem q_M_changes_133 : decode m_M_changes.2.1 133 = .ok (.if_icmp .ne 7, 3) := by decide +kernel
theorem q_M_changes_136 : decode m_M_changes.2.1 136 = .ok (.iconst (-1), 1) := by decide +kernel
theorem q_M_changes_137 : decode m_M_changes.2.1 137 = .ok (.goto 8, 3) := by decide +kernel
theorem q_M_changes_140 : decode m_M_changes.2.1 140 = .ok (.aload_n 0, 1) := by decide +kernel
theorem q_M_changes_141 : decode m_M_changes.2.1 141 = .ok (.iload_n 3, 1) := by decide +kernel
theorem q_M_changes_142 : decode m_M_changes.2.1 142 = .ok (.invokevirtual 167, 3) := by decide +kernel
theorem q_M_changes_145 : decode m_M_changes.2.1 145 = .ok (.ireturn, 1) := by decide +kernel
theorem q_M_changed_0 : decode m_M_changed.2.1 0 = .ok (.iconst 0, 1) := by decide +kernel
theorem q_M_changed_1 : decode m_M_changed.2.1 1 = .ok (.istore_n 2, 1) := by decide +kernel
theorem q_M_changed_2 : decode m_M_changed.2.1 2 = .ok (.iconst 0, 1) := by decide +kernel
theorem q_M_changed_3 : decode m_M_changed.2.1 3 = .ok (.istore_n 3, 1) := by decide +kernel
theorem q_M_changed_4 : decode m_M_changed.2.1 4 = .ok (.iload_n 3, 1) := by decide +kernel
theorem q_M_changed_5 : decode m_M_changed.2.1 5 = .ok (.aload_n 0, 1) := by decide +kernel
theorem q_M_changed_6 : decode m_M_changed.2.1 6 = .ok (.getfield 84, 3) := by decide +kernel
theorem q_M_changed_9 : decode m_M_changed.2.1 9 = .ok (.if_icmp .ge 43, 3) := by decide +kernel
theorem q_M_changed_12 : decode m_M_changed.2.1 12 = .ok (.aload_n 0, 1) := by decide +kernel
theorem q_M_changed_13 : decode m_M_changed.2.1 13 = .ok (.getfield 47, 3) := by decide +kernel
theorem q_M_changed_16 : decode m_M_changed.2.1 16 = .ok (.iconst (-1), 1) := by decide +kernel
theorem q_M_changed_17 : decode m_M_changed.2.1 17 = .ok (.if_icmp .eq 35, 3) := by decide +kernel
theorem q_M_changed_20 : decode m_M_changed.2.1 20 = .ok (.aload_n 0, 1) := by decide +kernel
theorem q_M_changed_21 : decode m_M_changed.2.1 21 = .ok (.getfield 47, 3) := by decide +kernel
theorem q_M_changed_24 : decode m_M_changed.2.1 24 = .ok (.aload_n 0, 1) := by decide +kernel
theorem q_M_changed_25 : decode m_M_changed.2.1 25 = .ok (.getfield 164, 3) := by decide +kernel
theorem q_M_changed_28 : decode m_M_changed.2.1 28 = .ok (.ixor, 1) := by decide +kernel
theorem q_M_changed_29 : decode m_M_changed.2.1 29 = .ok (.iload_n 3, 1) := by decide +kernel
theorem q_M_changed_30 : decode m_M_changed.2.1 30 = .ok (.invokestatic 94, 3) := by decide +kernel
theorem q_M_changed_33 : decode m_M_changed.2.1 33 = .ok (.ifCond .eq 13, 3) := by decide +kernel
theorem q_M_changed_36 : decode m_M_changed.2.1 36 = .ok (.iload_n 2, 1) := by decide +kernel
theorem q_M_changed_37 : decode m_M_changed.2.1 37 = .ok (.iload_n 1, 1) := by decide +kernel
theorem q_M_changed_38 : decode m_M_changed.2.1 38 = .ok (.if_icmp .ne 5, 3) := by decide +kernel
theorem q_M_changed_41 : decode m_M_changed.2.1 41 = .ok (.iload_n 3, 1) := by decide +kernel
theorem q_M_changed_42 : decode m_M_changed.2.1 42 = .ok (.ireturn, 1) := by decide +kernel
theorem q_M_changed_43 : decode m_M_changed.2.1 43 = .ok (.iinc 2 1, 3) := by decide +kernel
theorem q_M_changed_46 : decode m_M_changed.2.1 46 = .ok (.iinc 3 1, 3) := by decide +kernel
theorem q_M_changed_49 : decode m_M_changed.2.1 49 = .ok (.goto (-45), 3) := by decide +kernel
theorem q_M_changed_52 : decode m_M_changed.2.1 52 = .ok (.iconst (-1), 1) := by decide +kernel
theorem q_M_changed_53 : decode m_M_changed.2.1 53 = .ok (.ireturn, 1) := by decide +kernel
theorem q_M_backlog_0 : decode m_M_backlog.2.1 0 = .ok (.aload_n 0, 1) := by decide +kernel
theorem q_M_backlog_1 : decode m_M_backlog.2.1 1 = .ok (.iload_n 1, 1) := by decide +kernel
theorem q_M_backlog_2 : decode m_M_backlog.2.1 2 = .ok (.invokevirtual 98, 3) := by decide +kernel
theorem q_M_backlog_5 : decode m_M_backlog.2.1 5 = .ok (.ifCond .ne 7, 3) := by decide +kernel
theorem q_M_backlog_8 : decode m_M_backlog.2.1 8 = .ok (.ldc2_w 41, 3) := by decide +kernel
theorem q_M_backlog_11 : decode m_M_backlog.2.1 11 = .ok (.lreturn, 1) := by decide +kernel
theorem q_M_backlog_12 : decode m_M_backlog.2.1 12 = .ok (.lconst 0, 1) := by decide +kernel
theorem q_M_backlog_13 : decode m_M_backlog.2.1 13 = .ok (.lstore_n 2, 1) := by decide +kernel
theorem q_M_backlog_14 : decode m_M_backlog.2.1 14 = .ok (.iconst 0, 1) := by decide +kernel
theorem q_M_backlog_15 : decode m_M_backlog.2.1 15 = .ok (.istore 4, 2) := by decide +kernel
theorem q_M_backlog_17 : decode m_M_backlog.2.1 17 = .ok (.iload 4, 2) := by decide +kernel
theorem q_M_backlog_19 : decode m_M_backlog.2.1 19 = .ok (.aload_n 0, 1) := by decide +kernel
theorem q_M_backlog_20 : decode m_M_backlog.2.1 20 = .ok (.getfield 76, 3) := by decide +kernel
theorem q_M_backlog_23 : decode m_M_backlog.2.1 23 = .ok (.if_icmp .ge 104, 3) := by decide +kernel
theorem q_M_backlog_26 : decode m_M_backlog.2.1 26 = .ok (.iconst 0, 1) := by decide +kernel
theorem q_M_backlog_27 : decode m_M_backlog.2.1 27 = .ok (.istore 5, 2) := by decide +kernel
theorem q_M_backlog_29 : decode m_M_backlog.2.1 29 = .ok (.iconst 0, 1) := by decide +kernel
theorem q_M_backlog_30 : decode m_M_backlog.2.1 30 = .ok (.istore 6, 2) := by decide +kernel
theorem q_M_backlog_32 : decode m_M_backlog.2.1 32 = .ok (.iload 6, 2) := by decide +kernel
theorem q_M_backlog_34 : decode m_M_backlog.2.1 34 = .ok (.aload_n 0, 1) := by decide +kernel
theorem q_M_backlog_35 : decode m_M_backlog.2.1 35 = .ok (.getfield 84, 3) := by decide +kernel
theorem q_M_backlog_38 : decode m_M_backlog.2.1 38 = .ok (.if_icmp .ge 64, 3) := by decide +kernel
theorem q_M_backlog_41 : decode m_M_backlog.2.1 41 = .ok (.iload 5, 2) := by decide +kernel
theorem q_M_backlog_43 : decode m_M_backlog.2.1 43 = .ok (.ifCond .ne 46, 3) := by decide +kernel
theorem q_M_backlog_46 : decode m_M_backlog.2.1 46 = .ok (.aload_n 0, 1) := by decide +kernel
theorem q_M_backlog_47 : decode m_M_backlog.2.1 47 = .ok (.getfield 47, 3) := by decide +kernel
theorem q_M_backlog_50 : decode m_M_backlog.2.1 50 = .ok (.iconst (-1), 1) := by decide +kernel
theorem q_M_backlog_51 : decode m_M_backlog.2.1 51 = .ok (.if_icmp .eq 42, 3) := by decide +kernel
theorem q_M_backlog_54 : decode m_M_backlog.2.1 54 = .ok (.aload_n 0, 1) := by decide +kernel
theorem q_M_backlog_55 : decode m_M_backlog.2.1 55 = .ok (.getfield 47, 3) := by decide +kernel
theorem q_M_backlog_58 : decode m_M_backlog.2.1 58 = .ok (.iload 6, 2) := by decide +kernel
theorem q_M_backlog_60 : decode m_M_backlog.2.1 60 = .ok (.invokestatic 94, 3) := by decide +kernel
theorem q_M_backlog_63 : decode m_M_backlog.2.1 63 = .ok (.ifCond .eq 30, 3) := by decide +kernel
theorem q_M_backlog_66 : decode m_M_backlog.2.1 66 = .ok (.aload_n 0, 1) := by decide +kernel
theorem q_M_backlog_67 : decode m_M_backlog.2.1 67 = .ok (.getfield 16, 3) := by decide +kernel
theorem q_M_backlog_70 : decode m_M_backlog.2.1 70 = .ok (.iload 6, 2) := by decide +kernel
theorem q_M_backlog_72 : decode m_M_backlog.2.1 72 = .ok (.iaload, 1) := by decide +kernel
theorem q_M_backlog_73 : decode m_M_backlog.2.1 73 = .ok (.iload 4, 2) := by decide +kernel
theorem q_M_backlog_75 : decode m_M_backlog.2.1 75 = .ok (.if_icmp .ne 18, 3) := by decide +kernel
theorem q_M_backlog_78 : decode m_M_backlog.2.1 78 = .ok (.aload_n 0, 1) := by decide +kernel
theorem q_M_backlog_79 : decode m_M_backlog.2.1 79 = .ok (.getfield 19, 3) := by decide +kernel
theorem q_M_backlog_82 : decode m_M_backlog.2.1 82 = .ok (.iload 6, 2) := by decide +kernel
theorem q_M_backlog_84 : decode m_M_backlog.2.1 84 = .ok (.iaload, 1) := by decide +kernel
theorem q_M_backlog_85 : decode m_M_backlog.2.1 85 = .ok (.iload_n 1, 1) := by decide +kernel
theorem q_M_backlog_86 : decode m_M_backlog.2.1 86 = .ok (.if_icmp .gt 7, 3) := by decide +kernel
theorem q_M_backlog_89 : decode m_M_backlog.2.1 89 = .ok (.iconst 1, 1) := by decide +kernel
theorem q_M_backlog_90 : decode m_M_backlog.2.1 90 = .ok (.goto 4, 3) := by decide +kernel
theorem q_M_backlog_93 : decode m_M_backlog.2.1 93 = .ok (.iconst 0, 1) := by decide +kernel
theorem q_M_backlog_94 : decode m_M_backlog.2.1 94 = .ok (.istore 5, 2) := by decide +kernel
theorem q_M_backlog_96 : decode m_M_backlog.2.1 96 = .ok (.iinc 6 1, 3) := by decide +kernel
theorem q_M_backlog_99 : decode m_M_backlog.2.1 99 = .ok (.goto (-67), 3) := by decide +kernel
theorem q_M_backlog_102 : decode m_M_backlog.2.1 102 = .ok (.lload_n 2, 1) := by decide +kernel
theorem q_M_backlog_103 : decode m_M_backlog.2.1 103 = .ok (.iload 5, 2) := by decide +kernel
theorem q_M_backlog_105 : decode m_M_backlog.2.1 105 = .ok (.ifCond .eq 7, 3) := by decide +kernel
theorem q_M_backlog_108 : decode m_M_backlog.2.1 108 = .ok (.lconst 0, 1) := by decide +kernel
theorem q_M_backlog_109 : decode m_M_backlog.2.1 109 = .ok (.goto 10, 3) := by decide +kernel
theorem q_M_backlog_112 : decode m_M_backlog.2.1 112 = .ok (.aload_n 0, 1) := by decide +kernel
theorem q_M_backlog_113 : decode m_M_backlog.2.1 113 = .ok (.iload 4, 2) := by decide +kernel
theorem q_M_backlog_115 : decode m_M_backlog.2.1 115 = .ok (.iload_n 1, 1) := by decide +kernel
theorem q_M_backlog_116 : decode m_M_backlog.2.1 116 = .ok (.invokevirtual 149, 3) := by decide +kernel
theorem q_M_backlog_119 : decode m_M_backlog.2.1 119 = .ok (.ladd, 1) := by decide +kernel
theorem q_M_backlog_120 : decode m_M_backlog.2.1 120 = .ok (.lstore_n 2, 1) := by decide +kernel
theorem q_M_backlog_121 : decode m_M_backlog.2.1 121 = .ok (.iinc 4 1, 3) := by decide +kernel
theorem q_M_backlog_124 : decode m_M_backlog.2.1 124 = .ok (.goto (-107), 3) := by decide +kernel
theorem q_M_backlog_127 : decode m_M_backlog.2.1 127 = .ok (.lload_n 2, 1) := by decide +kernel
theorem q_M_backlog_128 : decode m_M_backlog.2.1 128 = .ok (.lreturn, 1) := by decide +kernel
theorem q_M_rank_0 : decode m_M_rank.2.1 0 = .ok (.iload_n 1, 1) := by decide +kernel
theorem q_M_rank_1 : decode m_M_rank.2.1 1 = .ok (.ifCond .lt 11, 3) := by decide +kernel
theorem q_M_rank_4 : decode m_M_rank.2.1 4 = .ok (.iload_n 1, 1) := by decide +kernel
theorem q_M_rank_5 : decode m_M_rank.2.1 5 = .ok (.aload_n 0, 1) := by decide +kernel
theorem q_M_rank_6 : decode m_M_rank.2.1 6 = .ok (.getfield 76, 3) := by decide +kernel
theorem q_M_rank_9 : decode m_M_rank.2.1 9 = .ok (.if_icmp .lt 5, 3) := by decide +kernel
theorem q_M_rank_12 : decode m_M_rank.2.1 12 = .ok (.iconst (-1), 1) := by decide +kernel
theorem q_M_rank_13 : decode m_M_rank.2.1 13 = .ok (.ireturn, 1) := by decide +kernel
theorem q_M_rank_14 : decode m_M_rank.2.1 14 = .ok (.iconst 0, 1) := by decide +kernel
theorem q_M_rank_15 : decode m_M_rank.2.1 15 = .ok (.istore_n 2, 1) := by decide +kernel
theorem q_M_rank_16 : decode m_M_rank.2.1 16 = .ok (.iload_n 2, 1) := by decide +kernel
theorem q_M_rank_17 : decode m_M_rank.2.1 17 = .ok (.aload_n 0, 1) := by decide +kernel
theorem q_M_rank_18 : decode m_M_rank.2.1 18 = .ok (.getfield 76, 3) := by decide +kernel
theorem q_M_rank_21 : decode m_M_rank.2.1 21 = .ok (.if_icmp .ge 115, 3) := by decide +kernel
theorem q_M_rank_24 : decode m_M_rank.2.1 24 = .ok (.iconst 0, 1) := by decide +kernel
theorem q_M_rank_25 : decode m_M_rank.2.1 25 = .ok (.istore_n 3, 1) := by decide +kernel
theorem q_M_rank_26 : decode m_M_rank.2.1 26 = .ok (.iconst 0, 1) := by decide +kernel
theorem q_M_rank_27 : decode m_M_rank.2.1 27 = .ok (.istore 4, 2) := by decide +kernel
theorem q_M_rank_29 : decode m_M_rank.2.1 29 = .ok (.iload 4, 2) := by decide +kernel
theorem q_M_rank_31 : decode m_M_rank.2.1 31 = .ok (.aload_n 0, 1) := by decide +kernel
theorem q_M_rank_32 : decode m_M_rank.2.1 32 = .ok (.getfield 76, 3) := by decide +kernel
theorem q_M_rank_35 : decode m_M_rank.2.1 35 = .ok (.if_icmp .ge 88, 3) := by decide +kernel
theorem q_M_rank_38 : decode m_M_rank.2.1 38 = .ok (.aload_n 0, 1) := by decide +kernel
theorem q_M_rank_39 : decode m_M_rank.2.1 39 = .ok (.iload 4, 2) := by decide +kernel
theorem q_M_rank_41 : decode m_M_rank.2.1 41 = .ok (.iconst 5, 1) := by decide +kernel
theorem q_M_rank_42 : decode m_M_rank.2.1 42 = .ok (.invokevirtual 149, 3) := by decide +kernel
theorem q_M_rank_45 : decode m_M_rank.2.1 45 = .ok (.lstore 5, 2) := by decide +kernel
theorem q_M_rank_47 : decode m_M_rank.2.1 47 = .ok (.aload_n 0, 1) := by decide +kernel
theorem q_M_rank_48 : decode m_M_rank.2.1 48 = .ok (.iload_n 2, 1) := by decide +kernel
theorem q_M_rank_49 : decode m_M_rank.2.1 49 = .ok (.iconst 5, 1) := by decide +kernel
theorem q_M_rank_50 : decode m_M_rank.2.1 50 = .ok (.invokevirtual 149, 3) := by decide +kernel
theorem q_M_rank_53 : decode m_M_rank.2.1 53 = .ok (.lstore 7, 2) := by decide +kernel
theorem q_M_rank_55 : decode m_M_rank.2.1 55 = .ok (.iload_n 3, 1) := by decide +kernel
theorem q_M_rank_56 : decode m_M_rank.2.1 56 = .ok (.lload 5, 2) := by decide +kernel
theorem q_M_rank_58 : decode m_M_rank.2.1 58 = .ok (.lload 7, 2) := by decide +kernel
theorem q_M_rank_60 : decode m_M_rank.2.1 60 = .ok (.lcmp, 1) := by decide +kernel
theorem q_M_rank_61 : decode m_M_rank.2.1 61 = .ok (.ifCond .gt 49, 3) := by decide +kernel
theorem q_M_rank_64 : decode m_M_rank.2.1 64 = .ok (.lload 5, 2) := by decide +kernel
theorem q_M_rank_66 : decode m_M_rank.2.1 66 = .ok (.lload 7, 2) := by decide +kernel
theorem q_M_rank_68 : decode m_M_rank.2.1 68 = .ok (.lcmp, 1) := by decide +kernel
theorem q_M_rank_69 : decode m_M_rank.2.1 69 = .ok (.ifCond .ne 45, 3) := by decide +kernel
theorem q_M_rank_72 : decode m_M_rank.2.1 72 = .ok (.aload_n 0, 1) := by decide +kernel
theorem q_M_rank_73 : decode m_M_rank.2.1 73 = .ok (.getfield 7, 3) := by decide +kernel
theorem q_M_rank_76 : decode m_M_rank.2.1 76 = .ok (.iload 4, 2) := by decide +kernel
theorem q_M_rank_78 : decode m_M_rank.2.1 78 = .ok (.iaload, 1) := by decide +kernel
theorem q_M_rank_79 : decode m_M_rank.2.1 79 = .ok (.aload_n 0, 1) := by decide +kernel
theorem q_M_rank_80 : decode m_M_rank.2.1 80 = .ok (.getfield 7, 3) := by decide +kernel
theorem q_M_rank_83 : decode m_M_rank.2.1 83 = .ok (.iload_n 2, 1) := by decide +kernel
theorem q_M_rank_84 : decode m_M_rank.2.1 84 = .ok (.iaload, 1) := by decide +kernel
theorem q_M_rank_85 : decode m_M_rank.2.1 85 = .ok (.if_icmp .lt 25, 3) := by decide +kernel
theorem q_M_rank_88 : decode m_M_rank.2.1 88 = .ok (.aload_n 0, 1) := by decide +kernel
theorem q_M_rank_89 : decode m_M_rank.2.1 89 = .ok (.getfield 7, 3) := by decide +kernel
theorem q_M_rank_92 : decode m_M_rank.2.1 92 = .ok (.iload 4, 2) := by decide +kernel
theorem q_M_rank_94 : decode m_M_rank.2.1 94 = .ok (.iaload, 1) := by decide +kernel
theorem q_M_rank_95 : decode m_M_rank.2.1 95 = .ok (.aload_n 0, 1) := by decide +kernel
end
section
theorem q_M_rank_96 : decode m_M_rank.2.1 96 = .ok (.getfield 7, 3) := by decide +kernel
theorem q_M_rank_99 : decode m_M_rank.2.1 99 = .ok (.iload_n 2, 1) := by decide +kernel
theorem q_M_rank_100 : decode m_M_rank.2.1 100 = .ok (.iaload, 1) := by decide +kernel
theorem q_M_rank_101 : decode m_M_rank.2.1 101 = .ok (.if_icmp .ne 13, 3) := by decide +kernel
theorem q_M_rank_104 : decode m_M_rank.2.1 104 = .ok (.iload 4, 2) := by decide +kernel
theorem q_M_rank_106 : decode m_M_rank.2.1 106 = .ok (.iload_n 2, 1) := by decide +kernel
theorem q_M_rank_107 : decode m_M_rank.2.1 107 = .ok (.if_icmp .ge 7, 3) := by decide +kernel
theorem q_M_rank_110 : decode m_M_rank.2.1 110 = .ok (.iconst 1, 1) := by decide +kernel
theorem q_M_rank_111 : decode m_M_rank.2.1 111 = .ok (.goto 4, 3) := by decide +kernel
theorem q_M_rank_114 : decode m_M_rank.2.1 114 = .ok (.iconst 0, 1) := by decide +kernel
theorem q_M_rank_115 : decode m_M_rank.2.1 115 = .ok (.iadd, 1) := by decide +kernel
theorem q_M_rank_116 : decode m_M_rank.2.1 116 = .ok (.istore_n 3, 1) := by decide +kernel
theorem q_M_rank_117 : decode m_M_rank.2.1 117 = .ok (.iinc 4 1, 3) := by decide +kernel
theorem q_M_rank_120 : decode m_M_rank.2.1 120 = .ok (.goto (-91), 3) := by decide +kernel
theorem q_M_rank_123 : decode m_M_rank.2.1 123 = .ok (.aload_n 0, 1) := by decide +kernel
theorem q_M_rank_124 : decode m_M_rank.2.1 124 = .ok (.getfield 60, 3) := by decide +kernel
theorem q_M_rank_127 : decode m_M_rank.2.1 127 = .ok (.iload_n 3, 1) := by decide +kernel
theorem q_M_rank_128 : decode m_M_rank.2.1 128 = .ok (.iload_n 2, 1) := by decide +kernel
theorem q_M_rank_129 : decode m_M_rank.2.1 129 = .ok (.iastore, 1) := by decide +kernel
theorem q_M_rank_130 : decode m_M_rank.2.1 130 = .ok (.iinc 2 1, 3) := by decide +kernel
theorem q_M_rank_133 : decode m_M_rank.2.1 133 = .ok (.goto (-117), 3) := by decide +kernel
theorem q_M_rank_136 : decode m_M_rank.2.1 136 = .ok (.aload_n 0, 1) := by decide +kernel
theorem q_M_rank_137 : decode m_M_rank.2.1 137 = .ok (.getfield 60, 3) := by decide +kernel
theorem q_M_rank_140 : decode m_M_rank.2.1 140 = .ok (.iload_n 1, 1) := by decide +kernel
theorem q_M_rank_141 : decode m_M_rank.2.1 141 = .ok (.iaload, 1) := by decide +kernel
theorem q_M_rank_142 : decode m_M_rank.2.1 142 = .ok (.ireturn, 1) := by decide +kernel
theorem q_M_share_0 : decode m_M_share.2.1 0 = .ok (.iload_n 1, 1) := by decide +kernel
theorem q_M_share_1 : decode m_M_share.2.1 1 = .ok (.i2l, 1) := by decide +kernel
theorem q_M_share_2 : decode m_M_share.2.1 2 = .ok (.lconst 0, 1) := by decide +kernel
theorem q_M_share_3 : decode m_M_share.2.1 3 = .ok (.ldc2_w 106, 3) := by decide +kernel
theorem q_M_share_6 : decode m_M_share.2.1 6 = .ok (.invokestatic 72, 3) := by decide +kernel
theorem q_M_share_9 : decode m_M_share.2.1 9 = .ok (.ifCond .eq 20, 3) := by decide +kernel
theorem q_M_share_12 : decode m_M_share.2.1 12 = .ok (.iload_n 2, 1) := by decide +kernel
theorem q_M_share_13 : decode m_M_share.2.1 13 = .ok (.ifCond .eq 8, 3) := by decide +kernel
theorem q_M_share_16 : decode m_M_share.2.1 16 = .ok (.iload_n 2, 1) := by decide +kernel
theorem q_M_share_17 : decode m_M_share.2.1 17 = .ok (.iconst 1, 1) := by decide +kernel
theorem q_M_share_18 : decode m_M_share.2.1 18 = .ok (.if_icmp .ne 11, 3) := by decide +kernel
theorem q_M_share_21 : decode m_M_share.2.1 21 = .ok (.aload_n 0, 1) := by decide +kernel
theorem q_M_share_22 : decode m_M_share.2.1 22 = .ok (.getfield 47, 3) := by decide +kernel
theorem q_M_share_25 : decode m_M_share.2.1 25 = .ok (.iconst (-1), 1) := by decide +kernel
theorem q_M_share_26 : decode m_M_share.2.1 26 = .ok (.if_icmp .ne 7, 3) := by decide +kernel
theorem q_M_share_29 : decode m_M_share.2.1 29 = .ok (.ldc2_w 41, 3) := by decide +kernel
theorem q_M_share_32 : decode m_M_share.2.1 32 = .ok (.lreturn, 1) := by decide +kernel
theorem q_M_share_33 : decode m_M_share.2.1 33 = .ok (.lconst 0, 1) := by decide +kernel
theorem q_M_share_34 : decode m_M_share.2.1 34 = .ok (.lstore_n 3, 1) := by decide +kernel
theorem q_M_share_35 : decode m_M_share.2.1 35 = .ok (.iconst 0, 1) := by decide +kernel
theorem q_M_share_36 : decode m_M_share.2.1 36 = .ok (.istore 5, 2) := by decide +kernel
theorem q_M_share_38 : decode m_M_share.2.1 38 = .ok (.iload 5, 2) := by decide +kernel
theorem q_M_share_40 : decode m_M_share.2.1 40 = .ok (.aload_n 0, 1) := by decide +kernel
theorem q_M_share_41 : decode m_M_share.2.1 41 = .ok (.getfield 84, 3) := by decide +kernel
theorem q_M_share_44 : decode m_M_share.2.1 44 = .ok (.if_icmp .ge 51, 3) := by decide +kernel
theorem q_M_share_47 : decode m_M_share.2.1 47 = .ok (.lload_n 3, 1) := by decide +kernel
theorem q_M_share_48 : decode m_M_share.2.1 48 = .ok (.aload_n 0, 1) := by decide +kernel
theorem q_M_share_49 : decode m_M_share.2.1 49 = .ok (.getfield 47, 3) := by decide +kernel
theorem q_M_share_52 : decode m_M_share.2.1 52 = .ok (.iload 5, 2) := by decide +kernel
theorem q_M_share_54 : decode m_M_share.2.1 54 = .ok (.invokestatic 94, 3) := by decide +kernel
theorem q_M_share_57 : decode m_M_share.2.1 57 = .ok (.ifCond .eq 29, 3) := by decide +kernel
theorem q_M_share_60 : decode m_M_share.2.1 60 = .ok (.aload_n 0, 1) := by decide +kernel
theorem q_M_share_61 : decode m_M_share.2.1 61 = .ok (.getfield 13, 3) := by decide +kernel
theorem q_M_share_64 : decode m_M_share.2.1 64 = .ok (.aload_n 0, 1) := by decide +kernel
theorem q_M_share_65 : decode m_M_share.2.1 65 = .ok (.getfield 16, 3) := by decide +kernel
theorem q_M_share_68 : decode m_M_share.2.1 68 = .ok (.iload 5, 2) := by decide +kernel
theorem q_M_share_70 : decode m_M_share.2.1 70 = .ok (.iaload, 1) := by decide +kernel
theorem q_M_share_71 : decode m_M_share.2.1 71 = .ok (.iaload, 1) := by decide +kernel
theorem q_M_share_72 : decode m_M_share.2.1 72 = .ok (.iload_n 1, 1) := by decide +kernel
theorem q_M_share_73 : decode m_M_share.2.1 73 = .ok (.if_icmp .ne 13, 3) := by decide +kernel
theorem q_M_share_76 : decode m_M_share.2.1 76 = .ok (.aload_n 0, 1) := by decide +kernel
theorem q_M_share_77 : decode m_M_share.2.1 77 = .ok (.getfield 26, 3) := by decide +kernel
theorem q_M_share_80 : decode m_M_share.2.1 80 = .ok (.iload 5, 2) := by decide +kernel
theorem q_M_share_82 : decode m_M_share.2.1 82 = .ok (.laload, 1) := by decide +kernel
theorem q_M_share_83 : decode m_M_share.2.1 83 = .ok (.goto 4, 3) := by decide +kernel
theorem q_M_share_86 : decode m_M_share.2.1 86 = .ok (.lconst 0, 1) := by decide +kernel
theorem q_M_share_87 : decode m_M_share.2.1 87 = .ok (.ladd, 1) := by decide +kernel
theorem q_M_share_88 : decode m_M_share.2.1 88 = .ok (.lstore_n 3, 1) := by decide +kernel
theorem q_M_share_89 : decode m_M_share.2.1 89 = .ok (.iinc 5 1, 3) := by decide +kernel
theorem q_M_share_92 : decode m_M_share.2.1 92 = .ok (.goto (-54), 3) := by decide +kernel
theorem q_M_share_95 : decode m_M_share.2.1 95 = .ok (.aload_n 0, 1) := by decide +kernel
theorem q_M_share_96 : decode m_M_share.2.1 96 = .ok (.aload_n 0, 1) := by decide +kernel
theorem q_M_share_97 : decode m_M_share.2.1 97 = .ok (.getfield 47, 3) := by decide +kernel
theorem q_M_share_100 : decode m_M_share.2.1 100 = .ok (.invokevirtual 123, 3) := by decide +kernel
theorem q_M_share_103 : decode m_M_share.2.1 103 = .ok (.lstore 5, 2) := by decide +kernel
theorem q_M_share_105 : decode m_M_share.2.1 105 = .ok (.lload 5, 2) := by decide +kernel
theorem q_M_share_107 : decode m_M_share.2.1 107 = .ok (.lconst 0, 1) := by decide +kernel
theorem q_M_share_108 : decode m_M_share.2.1 108 = .ok (.lcmp, 1) := by decide +kernel
theorem q_M_share_109 : decode m_M_share.2.1 109 = .ok (.ifCond .eq 9, 3) := by decide +kernel
theorem q_M_share_112 : decode m_M_share.2.1 112 = .ok (.lload_n 3, 1) := by decide +kernel
theorem q_M_share_113 : decode m_M_share.2.1 113 = .ok (.lconst 0, 1) := by decide +kernel
theorem q_M_share_114 : decode m_M_share.2.1 114 = .ok (.lcmp, 1) := by decide +kernel
theorem q_M_share_115 : decode m_M_share.2.1 115 = .ok (.ifCond .ne 6, 3) := by decide +kernel
theorem q_M_share_118 : decode m_M_share.2.1 118 = .ok (.iload_n 2, 1) := by decide +kernel
theorem q_M_share_119 : decode m_M_share.2.1 119 = .ok (.i2l, 1) := by decide +kernel
theorem q_M_share_120 : decode m_M_share.2.1 120 = .ok (.lreturn, 1) := by decide +kernel
theorem q_M_share_121 : decode m_M_share.2.1 121 = .ok (.lload 5, 2) := by decide +kernel
theorem q_M_share_123 : decode m_M_share.2.1 123 = .ok (.lstore 7, 2) := by decide +kernel
theorem q_M_share_125 : decode m_M_share.2.1 125 = .ok (.lload_n 3, 1) := by decide +kernel
theorem q_M_share_126 : decode m_M_share.2.1 126 = .ok (.lstore 9, 2) := by decide +kernel
theorem q_M_share_128 : decode m_M_share.2.1 128 = .ok (.lload 9, 2) := by decide +kernel
theorem q_M_share_130 : decode m_M_share.2.1 130 = .ok (.lconst 0, 1) := by decide +kernel
theorem q_M_share_131 : decode m_M_share.2.1 131 = .ok (.lcmp, 1) := by decide +kernel
theorem q_M_share_132 : decode m_M_share.2.1 132 = .ok (.ifCond .le 21, 3) := by decide +kernel
theorem q_M_share_135 : decode m_M_share.2.1 135 = .ok (.lload 7, 2) := by decide +kernel
theorem q_M_share_137 : decode m_M_share.2.1 137 = .ok (.lload 9, 2) := by decide +kernel
theorem q_M_share_139 : decode m_M_share.2.1 139 = .ok (.lrem, 1) := by decide +kernel
theorem q_M_share_140 : decode m_M_share.2.1 140 = .ok (.lstore 11, 2) := by decide +kernel
theorem q_M_share_142 : decode m_M_share.2.1 142 = .ok (.lload 9, 2) := by decide +kernel
theorem q_M_share_144 : decode m_M_share.2.1 144 = .ok (.lstore 7, 2) := by decide +kernel
theorem q_M_share_146 : decode m_M_share.2.1 146 = .ok (.lload 11, 2) := by decide +kernel
theorem q_M_share_148 : decode m_M_share.2.1 148 = .ok (.lstore 9, 2) := by decide +kernel
theorem q_M_share_150 : decode m_M_share.2.1 150 = .ok (.goto (-22), 3) := by decide +kernel
theorem q_M_share_153 : decode m_M_share.2.1 153 = .ok (.iload_n 2, 1) := by decide +kernel
theorem q_M_share_154 : decode m_M_share.2.1 154 = .ok (.ifCond .ne 10, 3) := by decide +kernel
theorem q_M_share_157 : decode m_M_share.2.1 157 = .ok (.lload_n 3, 1) := by decide +kernel
theorem q_M_share_158 : decode m_M_share.2.1 158 = .ok (.lload 7, 2) := by decide +kernel
theorem q_M_share_160 : decode m_M_share.2.1 160 = .ok (.ldiv, 1) := by decide +kernel
theorem q_M_share_161 : decode m_M_share.2.1 161 = .ok (.goto 8, 3) := by decide +kernel
theorem q_M_share_164 : decode m_M_share.2.1 164 = .ok (.lload 5, 2) := by decide +kernel
theorem q_M_share_166 : decode m_M_share.2.1 166 = .ok (.lload 7, 2) := by decide +kernel
theorem q_M_share_168 : decode m_M_share.2.1 168 = .ok (.ldiv, 1) := by decide +kernel
theorem q_M_share_169 : decode m_M_share.2.1 169 = .ok (.lreturn, 1) := by decide +kernel
theorem q_M_comesBefore_0 : decode m_M_comesBefore.2.1 0 = .ok (.iload_n 1, 1) := by decide +kernel
theorem q_M_comesBefore_1 : decode m_M_comesBefore.2.1 1 = .ok (.iconst 2, 1) := by decide +kernel
theorem q_M_comesBefore_2 : decode m_M_comesBefore.2.1 2 = .ok (.if_icmp .ne 39, 3) := by decide +kernel
theorem q_M_comesBefore_5 : decode m_M_comesBefore.2.1 5 = .ok (.aload_n 0, 1) := by decide +kernel
theorem q_M_comesBefore_6 : decode m_M_comesBefore.2.1 6 = .ok (.getfield 19, 3) := by decide +kernel
theorem q_M_comesBefore_9 : decode m_M_comesBefore.2.1 9 = .ok (.iload_n 2, 1) := by decide +kernel
theorem q_M_comesBefore_10 : decode m_M_comesBefore.2.1 10 = .ok (.iaload, 1) := by decide +kernel
theorem q_M_comesBefore_11 : decode m_M_comesBefore.2.1 11 = .ok (.aload_n 0, 1) := by decide +kernel
theorem q_M_comesBefore_12 : decode m_M_comesBefore.2.1 12 = .ok (.getfield 19, 3) := by decide +kernel
theorem q_M_comesBefore_15 : decode m_M_comesBefore.2.1 15 = .ok (.iload_n 3, 1) := by decide +kernel
theorem q_M_comesBefore_16 : decode m_M_comesBefore.2.1 16 = .ok (.iaload, 1) := by decide +kernel
theorem q_M_comesBefore_17 : decode m_M_comesBefore.2.1 17 = .ok (.if_icmp .eq 24, 3) := by decide +kernel
theorem q_M_comesBefore_20 : decode m_M_comesBefore.2.1 20 = .ok (.aload_n 0, 1) := by decide +kernel
theorem q_M_comesBefore_21 : decode m_M_comesBefore.2.1 21 = .ok (.getfield 19, 3) := by decide +kernel
theorem q_M_comesBefore_24 : decode m_M_comesBefore.2.1 24 = .ok (.iload_n 2, 1) := by decide +kernel
theorem q_M_comesBefore_25 : decode m_M_comesBefore.2.1 25 = .ok (.iaload, 1) := by decide +kernel
theorem q_M_comesBefore_26 : decode m_M_comesBefore.2.1 26 = .ok (.aload_n 0, 1) := by decide +kernel
theorem q_M_comesBefore_27 : decode m_M_comesBefore.2.1 27 = .ok (.getfield 19, 3) := by decide +kernel
theorem q_M_comesBefore_30 : decode m_M_comesBefore.2.1 30 = .ok (.iload_n 3, 1) := by decide +kernel
theorem q_M_comesBefore_31 : decode m_M_comesBefore.2.1 31 = .ok (.iaload, 1) := by decide +kernel
theorem q_M_comesBefore_32 : decode m_M_comesBefore.2.1 32 = .ok (.if_icmp .ge 7, 3) := by decide +kernel
theorem q_M_comesBefore_35 : decode m_M_comesBefore.2.1 35 = .ok (.iconst 1, 1) := by decide +kernel
theorem q_M_comesBefore_36 : decode m_M_comesBefore.2.1 36 = .ok (.goto 4, 3) := by decide +kernel
theorem q_M_comesBefore_39 : decode m_M_comesBefore.2.1 39 = .ok (.iconst 0, 1) := by decide +kernel
theorem q_M_comesBefore_40 : decode m_M_comesBefore.2.1 40 = .ok (.ireturn, 1) := by decide +kernel
theorem q_M_comesBefore_41 : decode m_M_comesBefore.2.1 41 = .ok (.iload_n 1, 1) := by decide +kernel
theorem q_M_comesBefore_42 : decode m_M_comesBefore.2.1 42 = .ok (.iconst 1, 1) := by decide +kernel
theorem q_M_comesBefore_43 : decode m_M_comesBefore.2.1 43 = .ok (.if_icmp .ne 136, 3) := by decide +kernel
theorem q_M_comesBefore_46 : decode m_M_comesBefore.2.1 46 = .ok (.aload_n 0, 1) := by decide +kernel
theorem q_M_comesBefore_47 : decode m_M_comesBefore.2.1 47 = .ok (.getfield 22, 3) := by decide +kernel
theorem q_M_comesBefore_50 : decode m_M_comesBefore.2.1 50 = .ok (.iload_n 2, 1) := by decide +kernel
theorem q_M_comesBefore_51 : decode m_M_comesBefore.2.1 51 = .ok (.laload, 1) := by decide +kernel
theorem q_M_comesBefore_52 : decode m_M_comesBefore.2.1 52 = .ok (.lconst 0, 1) := by decide +kernel
theorem q_M_comesBefore_53 : decode m_M_comesBefore.2.1 53 = .ok (.lcmp, 1) := by decide +kernel
theorem q_M_comesBefore_54 : decode m_M_comesBefore.2.1 54 = .ok (.ifCond .eq 14, 3) := by decide +kernel
theorem q_M_comesBefore_57 : decode m_M_comesBefore.2.1 57 = .ok (.aload_n 0, 1) := by decide +kernel
theorem q_M_comesBefore_58 : decode m_M_comesBefore.2.1 58 = .ok (.getfield 22, 3) := by decide +kernel
theorem q_M_comesBefore_61 : decode m_M_comesBefore.2.1 61 = .ok (.iload_n 3, 1) := by decide +kernel
theorem q_M_comesBefore_62 : decode m_M_comesBefore.2.1 62 = .ok (.laload, 1) := by decide +kernel
theorem q_M_comesBefore_63 : decode m_M_comesBefore.2.1 63 = .ok (.lconst 0, 1) := by decide +kernel
theorem q_M_comesBefore_64 : decode m_M_comesBefore.2.1 64 = .ok (.lcmp, 1) := by decide +kernel
theorem q_M_comesBefore_65 : decode m_M_comesBefore.2.1 65 = .ok (.ifCond .ne 49, 3) := by decide +kernel
theorem q_M_comesBefore_68 : decode m_M_comesBefore.2.1 68 = .ok (.aload_n 0, 1) := by decide +kernel
theorem q_M_comesBefore_69 : decode m_M_comesBefore.2.1 69 = .ok (.getfield 22, 3) := by decide +kernel
theorem q_M_comesBefore_72 : decode m_M_comesBefore.2.1 72 = .ok (.iload_n 2, 1) := by decide +kernel
theorem q_M_comesBefore_73 : decode m_M_comesBefore.2.1 73 = .ok (.laload, 1) := by decide +kernel
theorem q_M_comesBefore_74 : decode m_M_comesBefore.2.1 74 = .ok (.aload_n 0, 1) := by decide +kernel
theorem q_M_comesBefore_75 : decode m_M_comesBefore.2.1 75 = .ok (.getfield 22, 3) := by decide +kernel
theorem q_M_comesBefore_78 : decode m_M_comesBefore.2.1 78 = .ok (.iload_n 3, 1) := by decide +kernel
theorem q_M_comesBefore_79 : decode m_M_comesBefore.2.1 79 = .ok (.laload, 1) := by decide +kernel
theorem q_M_comesBefore_80 : decode m_M_comesBefore.2.1 80 = .ok (.lcmp, 1) := by decide +kernel
theorem q_M_comesBefore_81 : decode m_M_comesBefore.2.1 81 = .ok (.ifCond .ne 16, 3) := by decide +kernel
theorem q_M_comesBefore_84 : decode m_M_comesBefore.2.1 84 = .ok (.iload_n 2, 1) := by decide +kernel
theorem q_M_comesBefore_85 : decode m_M_comesBefore.2.1 85 = .ok (.iload_n 3, 1) := by decide +kernel
theorem q_M_comesBefore_86 : decode m_M_comesBefore.2.1 86 = .ok (.if_icmp .ge 7, 3) := by decide +kernel
theorem q_M_comesBefore_89 : decode m_M_comesBefore.2.1 89 = .ok (.iconst 1, 1) := by decide +kernel
theorem q_M_comesBefore_90 : decode m_M_comesBefore.2.1 90 = .ok (.goto 23, 3) := by decide +kernel
theorem q_M_comesBefore_93 : decode m_M_comesBefore.2.1 93 = .ok (.iconst 0, 1) := by decide +kernel
theorem q_M_comesBefore_94 : decode m_M_comesBefore.2.1 94 = .ok (.goto 19, 3) := by decide +kernel
theorem q_M_comesBefore_97 : decode m_M_comesBefore.2.1 97 = .ok (.aload_n 0, 1) := by decide +kernel
theorem q_M_comesBefore_98 : decode m_M_comesBefore.2.1 98 = .ok (.getfield 22, 3) := by decide +kernel
theorem q_M_comesBefore_101 : decode m_M_comesBefore.2.1 101 = .ok (.iload_n 2, 1) := by decide +kernel
theorem q_M_comesBefore_102 : decode m_M_comesBefore.2.1 102 = .ok (.laload, 1) := by decide +kernel
theorem q_M_comesBefore_103 : decode m_M_comesBefore.2.1 103 = .ok (.lconst 0, 1) := by decide +kernel
theorem q_M_comesBefore_104 : decode m_M_comesBefore.2.1 104 = .ok (.lcmp, 1) := by decide +kernel
theorem q_M_comesBefore_105 : decode m_M_comesBefore.2.1 105 = .ok (.ifCond .ne 7, 3) := by decide +kernel
theorem q_M_comesBefore_108 : decode m_M_comesBefore.2.1 108 = .ok (.iconst 1, 1) := by decide +kernel
theorem q_M_comesBefore_109 : decode m_M_comesBefore.2.1 109 = .ok (.goto 4, 3) := by decide +kernel
theorem q_M_comesBefore_112 : decode m_M_comesBefore.2.1 112 = .ok (.iconst 0, 1) := by decide +kernel
theorem q_M_comesBefore_113 : decode m_M_comesBefore.2.1 113 = .ok (.ireturn, 1) := by decide +kernel
theorem q_M_comesBefore_114 : decode m_M_comesBefore.2.1 114 = .ok (.aload_n 0, 1) := by decide +kernel
theorem q_M_comesBefore_115 : decode m_M_comesBefore.2.1 115 = .ok (.getfield 26, 3) := by decide +kernel
theorem q_M_comesBefore_118 : decode m_M_comesBefore.2.1 118 = .ok (.iload_n 2, 1) := by decide +kernel
theorem q_M_comesBefore_119 : decode m_M_comesBefore.2.1 119 = .ok (.laload, 1) := by decide +kernel
theorem q_M_comesBefore_120 : decode m_M_comesBefore.2.1 120 = .ok (.aload_n 0, 1) := by decide +kernel
theorem q_M_comesBefore_121 : decode m_M_comesBefore.2.1 121 = .ok (.getfield 22, 3) := by decide +kernel
theorem q_M_comesBefore_124 : decode m_M_comesBefore.2.1 124 = .ok (.iload_n 3, 1) := by decide +kernel
theorem q_M_comesBefore_125 : decode m_M_comesBefore.2.1 125 = .ok (.laload, 1) := by decide +kernel
theorem q_M_comesBefore_126 : decode m_M_comesBefore.2.1 126 = .ok (.lmul, 1) := by decide +kernel
theorem q_M_comesBefore_127 : decode m_M_comesBefore.2.1 127 = .ok (.lstore 4, 2) := by decide +kernel
theorem q_M_comesBefore_129 : decode m_M_comesBefore.2.1 129 = .ok (.aload_n 0, 1) := by decide +kernel
theorem q_M_comesBefore_130 : decode m_M_comesBefore.2.1 130 = .ok (.getfield 26, 3) := by decide +kernel
theorem q_M_comesBefore_133 : decode m_M_comesBefore.2.1 133 = .ok (.iload_n 3, 1) := by decide +kernel
theorem q_M_comesBefore_134 : decode m_M_comesBefore.2.1 134 = .ok (.laload, 1) := by decide +kernel
theorem q_M_comesBefore_135 : decode m_M_comesBefore.2.1 135 = .ok (.aload_n 0, 1) := by decide +kernel
theorem q_M_comesBefore_136 : decode m_M_comesBefore.2.1 136 = .ok (.getfield 22, 3) := by decide +kernel
theorem q_M_comesBefore_139 : decode m_M_comesBefore.2.1 139 = .ok (.iload_n 2, 1) := by decide +kernel
theorem q_M_comesBefore_140 : decode m_M_comesBefore.2.1 140 = .ok (.laload, 1) := by decide +kernel
theorem q_M_comesBefore_141 : decode m_M_comesBefore.2.1 141 = .ok (.lmul, 1) := by decide +kernel
theorem q_M_comesBefore_142 : decode m_M_comesBefore.2.1 142 = .ok (.lstore 6, 2) := by decide +kernel
theorem q_M_comesBefore_144 : decode m_M_comesBefore.2.1 144 = .ok (.lload 4, 2) := by decide +kernel
theorem q_M_comesBefore_146 : decode m_M_comesBefore.2.1 146 = .ok (.lload 6, 2) := by decide +kernel
theorem q_M_comesBefore_148 : decode m_M_comesBefore.2.1 148 = .ok (.lcmp, 1) := by decide +kernel
theorem q_M_comesBefore_149 : decode m_M_comesBefore.2.1 149 = .ok (.ifCond .eq 19, 3) := by decide +kernel
theorem q_M_comesBefore_152 : decode m_M_comesBefore.2.1 152 = .ok (.lload 4, 2) := by decide +kernel
theorem q_M_comesBefore_154 : decode m_M_comesBefore.2.1 154 = .ok (.lload 6, 2) := by decide +kernel
theorem q_M_comesBefore_156 : decode m_M_comesBefore.2.1 156 = .ok (.lcmp, 1) := by decide +kernel
theorem q_M_comesBefore_157 : decode m_M_comesBefore.2.1 157 = .ok (.ifCond .le 7, 3) := by decide +kernel
theorem q_M_comesBefore_160 : decode m_M_comesBefore.2.1 160 = .ok (.iconst 1, 1) := by decide +kernel
theorem q_M_comesBefore_161 : decode m_M_comesBefore.2.1 161 = .ok (.goto 17, 3) := by decide +kernel
theorem q_M_comesBefore_164 : decode m_M_comesBefore.2.1 164 = .ok (.iconst 0, 1) := by decide +kernel
theorem q_M_comesBefore_165 : decode m_M_comesBefore.2.1 165 = .ok (.goto 13, 3) := by decide +kernel
theorem q_M_comesBefore_168 : decode m_M_comesBefore.2.1 168 = .ok (.iload_n 2, 1) := by decide +kernel
theorem q_M_comesBefore_169 : decode m_M_comesBefore.2.1 169 = .ok (.iload_n 3, 1) := by decide +kernel
theorem q_M_comesBefore_170 : decode m_M_comesBefore.2.1 170 = .ok (.if_icmp .ge 7, 3) := by decide +kernel
theorem q_M_comesBefore_173 : decode m_M_comesBefore.2.1 173 = .ok (.iconst 1, 1) := by decide +kernel
theorem q_M_comesBefore_174 : decode m_M_comesBefore.2.1 174 = .ok (.goto 4, 3) := by decide +kernel
theorem q_M_comesBefore_177 : decode m_M_comesBefore.2.1 177 = .ok (.iconst 0, 1) := by decide +kernel
theorem q_M_comesBefore_178 : decode m_M_comesBefore.2.1 178 = .ok (.ireturn, 1) := by decide +kernel
theorem q_M_comesBefore_179 : decode m_M_comesBefore.2.1 179 = .ok (.aload_n 0, 1) := by decide +kernel
theorem q_M_comesBefore_180 : decode m_M_comesBefore.2.1 180 = .ok (.getfield 26, 3) := by decide +kernel
theorem q_M_comesBefore_183 : decode m_M_comesBefore.2.1 183 = .ok (.iload_n 2, 1) := by decide +kernel
theorem q_M_comesBefore_184 : decode m_M_comesBefore.2.1 184 = .ok (.laload, 1) := by decide +kernel
theorem q_M_comesBefore_185 : decode m_M_comesBefore.2.1 185 = .ok (.aload_n 0, 1) := by decide +kernel
theorem q_M_comesBefore_186 : decode m_M_comesBefore.2.1 186 = .ok (.getfield 26, 3) := by decide +kernel
theorem q_M_comesBefore_189 : decode m_M_comesBefore.2.1 189 = .ok (.iload_n 3, 1) := by decide +kernel
theorem q_M_comesBefore_190 : decode m_M_comesBefore.2.1 190 = .ok (.laload, 1) := by decide +kernel
theorem q_M_comesBefore_191 : decode m_M_comesBefore.2.1 191 = .ok (.lcmp, 1) := by decide +kernel
theorem q_M_comesBefore_192 : decode m_M_comesBefore.2.1 192 = .ok (.ifCond .eq 27, 3) := by decide +kernel
theorem q_M_comesBefore_195 : decode m_M_comesBefore.2.1 195 = .ok (.aload_n 0, 1) := by decide +kernel
theorem q_M_comesBefore_196 : decode m_M_comesBefore.2.1 196 = .ok (.getfield 26, 3) := by decide +kernel
theorem q_M_comesBefore_199 : decode m_M_comesBefore.2.1 199 = .ok (.iload_n 2, 1) := by decide +kernel
theorem q_M_comesBefore_200 : decode m_M_comesBefore.2.1 200 = .ok (.laload, 1) := by decide +kernel
theorem q_M_comesBefore_201 : decode m_M_comesBefore.2.1 201 = .ok (.aload_n 0, 1) := by decide +kernel
theorem q_M_comesBefore_202 : decode m_M_comesBefore.2.1 202 = .ok (.getfield 26, 3) := by decide +kernel
theorem q_M_comesBefore_205 : decode m_M_comesBefore.2.1 205 = .ok (.iload_n 3, 1) := by decide +kernel
theorem q_M_comesBefore_206 : decode m_M_comesBefore.2.1 206 = .ok (.laload, 1) := by decide +kernel
theorem q_M_comesBefore_207 : decode m_M_comesBefore.2.1 207 = .ok (.lcmp, 1) := by decide +kernel
theorem q_M_comesBefore_208 : decode m_M_comesBefore.2.1 208 = .ok (.ifCond .le 7, 3) := by decide +kernel
theorem q_M_comesBefore_211 : decode m_M_comesBefore.2.1 211 = .ok (.iconst 1, 1) := by decide +kernel
theorem q_M_comesBefore_212 : decode m_M_comesBefore.2.1 212 = .ok (.goto 17, 3) := by decide +kernel
theorem q_M_comesBefore_215 : decode m_M_comesBefore.2.1 215 = .ok (.iconst 0, 1) := by decide +kernel
theorem q_M_comesBefore_216 : decode m_M_comesBefore.2.1 216 = .ok (.goto 13, 3) := by decide +kernel
theorem q_M_comesBefore_219 : decode m_M_comesBefore.2.1 219 = .ok (.iload_n 2, 1) := by decide +kernel
theorem q_M_comesBefore_220 : decode m_M_comesBefore.2.1 220 = .ok (.iload_n 3, 1) := by decide +kernel
theorem q_M_comesBefore_221 : decode m_M_comesBefore.2.1 221 = .ok (.if_icmp .ge 7, 3) := by decide +kernel
theorem q_M_comesBefore_224 : decode m_M_comesBefore.2.1 224 = .ok (.iconst 1, 1) := by decide +kernel
theorem q_M_comesBefore_225 : decode m_M_comesBefore.2.1 225 = .ok (.goto 4, 3) := by decide +kernel
theorem q_M_comesBefore_228 : decode m_M_comesBefore.2.1 228 = .ok (.iconst 0, 1) := by decide +kernel
theorem q_M_comesBefore_229 : decode m_M_comesBefore.2.1 229 = .ok (.ireturn, 1) := by decide +kernel
theorem q_M_planBy_0 : decode m_M_planBy.2.1 0 = .ok (.aload_n 0, 1) := by decide +kernel
theorem q_M_planBy_1 : decode m_M_planBy.2.1 1 = .ok (.aload_n 0, 1) := by decide +kernel
theorem q_M_planBy_2 : decode m_M_planBy.2.1 2 = .ok (.getfield 91, 3) := by decide +kernel
theorem q_M_planBy_5 : decode m_M_planBy.2.1 5 = .ok (.invokevirtual 120, 3) := by decide +kernel
theorem q_M_planBy_8 : decode m_M_planBy.2.1 8 = .ok (.ifCond .ne 5, 3) := by decide +kernel
theorem q_M_planBy_11 : decode m_M_planBy.2.1 11 = .ok (.iconst (-1), 1) := by decide +kernel
theorem q_M_planBy_12 : decode m_M_planBy.2.1 12 = .ok (.ireturn, 1) := by decide +kernel
theorem q_M_planBy_13 : decode m_M_planBy.2.1 13 = .ok (.aload_n 0, 1) := by decide +kernel
theorem q_M_planBy_14 : decode m_M_planBy.2.1 14 = .ok (.getfield 91, 3) := by decide +kernel
theorem q_M_planBy_17 : decode m_M_planBy.2.1 17 = .ok (.istore_n 2, 1) := by decide +kernel
theorem q_M_planBy_18 : decode m_M_planBy.2.1 18 = .ok (.iconst 0, 1) := by decide +kernel
theorem q_M_planBy_19 : decode m_M_planBy.2.1 19 = .ok (.istore_n 3, 1) := by decide +kernel
theorem q_M_planBy_20 : decode m_M_planBy.2.1 20 = .ok (.iload_n 3, 1) := by decide +kernel
theorem q_M_planBy_21 : decode m_M_planBy.2.1 21 = .ok (.aload_n 0, 1) := by decide +kernel
theorem q_M_planBy_22 : decode m_M_planBy.2.1 22 = .ok (.getfield 84, 3) := by decide +kernel
theorem q_M_planBy_25 : decode m_M_planBy.2.1 25 = .ok (.if_icmp .ge 65, 3) := by decide +kernel
theorem q_M_planBy_28 : decode m_M_planBy.2.1 28 = .ok (.iload_n 3, 1) := by decide +kernel
theorem q_M_planBy_29 : decode m_M_planBy.2.1 29 = .ok (.istore 4, 2) := by decide +kernel
theorem q_M_planBy_31 : decode m_M_planBy.2.1 31 = .ok (.iload 4, 2) := by decide +kernel
theorem q_M_planBy_33 : decode m_M_planBy.2.1 33 = .ok (.ifCond .le 43, 3) := by decide +kernel
theorem q_M_planBy_36 : decode m_M_planBy.2.1 36 = .ok (.aload_n 0, 1) := by decide +kernel
theorem q_M_planBy_37 : decode m_M_planBy.2.1 37 = .ok (.iload_n 1, 1) := by decide +kernel
theorem q_M_planBy_38 : decode m_M_planBy.2.1 38 = .ok (.iload_n 3, 1) := by decide +kernel
theorem q_M_planBy_39 : decode m_M_planBy.2.1 39 = .ok (.aload_n 0, 1) := by decide +kernel
theorem q_M_planBy_40 : decode m_M_planBy.2.1 40 = .ok (.getfield 57, 3) := by decide +kernel
theorem q_M_planBy_43 : decode m_M_planBy.2.1 43 = .ok (.iload 4, 2) := by decide +kernel
theorem q_M_planBy_45 : decode m_M_planBy.2.1 45 = .ok (.iconst 1, 1) := by decide +kernel
theorem q_M_planBy_46 : decode m_M_planBy.2.1 46 = .ok (.isub, 1) := by decide +kernel
theorem q_M_planBy_47 : decode m_M_planBy.2.1 47 = .ok (.iaload, 1) := by decide +kernel
theorem q_M_planBy_48 : decode m_M_planBy.2.1 48 = .ok (.invokevirtual 170, 3) := by decide +kernel
theorem q_M_planBy_51 : decode m_M_planBy.2.1 51 = .ok (.ifCond .eq 25, 3) := by decide +kernel
theorem q_M_planBy_54 : decode m_M_planBy.2.1 54 = .ok (.aload_n 0, 1) := by decide +kernel
theorem q_M_planBy_55 : decode m_M_planBy.2.1 55 = .ok (.getfield 57, 3) := by decide +kernel
theorem q_M_planBy_58 : decode m_M_planBy.2.1 58 = .ok (.iload 4, 2) := by decide +kernel
theorem q_M_planBy_60 : decode m_M_planBy.2.1 60 = .ok (.aload_n 0, 1) := by decide +kernel
theorem q_M_planBy_61 : decode m_M_planBy.2.1 61 = .ok (.getfield 57, 3) := by decide +kernel
theorem q_M_planBy_64 : decode m_M_planBy.2.1 64 = .ok (.iload 4, 2) := by decide +kernel
theorem q_M_planBy_66 : decode m_M_planBy.2.1 66 = .ok (.iconst 1, 1) := by decide +kernel
theorem q_M_planBy_67 : decode m_M_planBy.2.1 67 = .ok (.isub, 1) := by decide +kernel
theorem q_M_planBy_68 : decode m_M_planBy.2.1 68 = .ok (.iaload, 1) := by decide +kernel
theorem q_M_planBy_69 : decode m_M_planBy.2.1 69 = .ok (.iastore, 1) := by decide +kernel
theorem q_M_planBy_70 : decode m_M_planBy.2.1 70 = .ok (.iinc 4 (-1), 3) := by decide +kernel
theorem q_M_planBy_73 : decode m_M_planBy.2.1 73 = .ok (.goto (-42), 3) := by decide +kernel
theorem q_M_planBy_76 : decode m_M_planBy.2.1 76 = .ok (.aload_n 0, 1) := by decide +kernel
theorem q_M_planBy_77 : decode m_M_planBy.2.1 77 = .ok (.getfield 57, 3) := by decide +kernel
theorem q_M_planBy_80 : decode m_M_planBy.2.1 80 = .ok (.iload 4, 2) := by decide +kernel
theorem q_M_planBy_82 : decode m_M_planBy.2.1 82 = .ok (.iload_n 3, 1) := by decide +kernel
theorem q_M_planBy_83 : decode m_M_planBy.2.1 83 = .ok (.iastore, 1) := by decide +kernel
theorem q_M_planBy_84 : decode m_M_planBy.2.1 84 = .ok (.iinc 3 1, 3) := by decide +kernel
theorem q_M_planBy_87 : decode m_M_planBy.2.1 87 = .ok (.goto (-67), 3) := by decide +kernel
theorem q_M_planBy_90 : decode m_M_planBy.2.1 90 = .ok (.iconst 0, 1) := by decide +kernel
theorem q_M_planBy_91 : decode m_M_planBy.2.1 91 = .ok (.istore_n 3, 1) := by decide +kernel
theorem q_M_planBy_92 : decode m_M_planBy.2.1 92 = .ok (.iload_n 3, 1) := by decide +kernel
theorem q_M_planBy_93 : decode m_M_planBy.2.1 93 = .ok (.aload_n 0, 1) := by decide +kernel
theorem q_M_planBy_94 : decode m_M_planBy.2.1 94 = .ok (.getfield 84, 3) := by decide +kernel
theorem q_M_planBy_97 : decode m_M_planBy.2.1 97 = .ok (.if_icmp .ge 37, 3) := by decide +kernel
theorem q_M_planBy_100 : decode m_M_planBy.2.1 100 = .ok (.iload_n 2, 1) := by decide +kernel
theorem q_M_planBy_101 : decode m_M_planBy.2.1 101 = .ok (.iconst 1, 1) := by decide +kernel
theorem q_M_planBy_102 : decode m_M_planBy.2.1 102 = .ok (.aload_n 0, 1) := by decide +kernel
theorem q_M_planBy_103 : decode m_M_planBy.2.1 103 = .ok (.getfield 57, 3) := by decide +kernel
theorem q_M_planBy_106 : decode m_M_planBy.2.1 106 = .ok (.iload_n 3, 1) := by decide +kernel
theorem q_M_planBy_107 : decode m_M_planBy.2.1 107 = .ok (.iaload, 1) := by decide +kernel
theorem q_M_planBy_108 : decode m_M_planBy.2.1 108 = .ok (.ishl, 1) := by decide +kernel
theorem q_M_planBy_109 : decode m_M_planBy.2.1 109 = .ok (.ior, 1) := by decide +kernel
theorem q_M_planBy_110 : decode m_M_planBy.2.1 110 = .ok (.istore 4, 2) := by decide +kernel
theorem q_M_planBy_112 : decode m_M_planBy.2.1 112 = .ok (.aload_n 0, 1) := by decide +kernel
theorem q_M_planBy_113 : decode m_M_planBy.2.1 113 = .ok (.iload 4, 2) := by decide +kernel
theorem q_M_planBy_115 : decode m_M_planBy.2.1 115 = .ok (.invokevirtual 120, 3) := by decide +kernel
theorem q_M_planBy_118 : decode m_M_planBy.2.1 118 = .ok (.ifCond .eq 8, 3) := by decide +kernel
theorem q_M_planBy_121 : decode m_M_planBy.2.1 121 = .ok (.iload 4, 2) := by decide +kernel
theorem q_M_planBy_123 : decode m_M_planBy.2.1 123 = .ok (.goto 4, 3) := by decide +kernel
theorem q_M_planBy_126 : decode m_M_planBy.2.1 126 = .ok (.iload_n 2, 1) := by decide +kernel
theorem q_M_planBy_127 : decode m_M_planBy.2.1 127 = .ok (.istore_n 2, 1) := by decide +kernel
theorem q_M_planBy_128 : decode m_M_planBy.2.1 128 = .ok (.iinc 3 1, 3) := by decide +kernel
theorem q_M_planBy_131 : decode m_M_planBy.2.1 131 = .ok (.goto (-39), 3) := by decide +kernel
theorem q_M_planBy_134 : decode m_M_planBy.2.1 134 = .ok (.iload_n 2, 1) := by decide +kernel
theorem q_M_planBy_135 : decode m_M_planBy.2.1 135 = .ok (.ireturn, 1) := by decide +kernel
theorem q_M_policy_0 : decode m_M_policy.2.1 0 = .ok (.iload_n 1, 1) := by decide +kernel
theorem q_M_policy_1 : decode m_M_policy.2.1 1 = .ok (.ifCond .lt 8, 3) := by decide +kernel
theorem q_M_policy_4 : decode m_M_policy.2.1 4 = .ok (.iload_n 1, 1) := by decide +kernel
theorem q_M_policy_5 : decode m_M_policy.2.1 5 = .ok (.iconst 2, 1) := by decide +kernel
theorem q_M_policy_6 : decode m_M_policy.2.1 6 = .ok (.if_icmp .le 10, 3) := by decide +kernel
theorem q_M_policy_9 : decode m_M_policy.2.1 9 = .ok (.aload_n 0, 1) := by decide +kernel
theorem q_M_policy_10 : decode m_M_policy.2.1 10 = .ok (.iconst (-1), 1) := by decide +kernel
theorem q_M_policy_11 : decode m_M_policy.2.1 11 = .ok (.putfield 47, 3) := by decide +kernel
theorem q_M_policy_14 : decode m_M_policy.2.1 14 = .ok (.iconst (-1), 1) := by decide +kernel
theorem q_M_policy_15 : decode m_M_policy.2.1 15 = .ok (.ireturn, 1) := by decide +kernel
theorem q_M_policy_16 : decode m_M_policy.2.1 16 = .ok (.aload_n 0, 1) := by decide +kernel
theorem q_M_policy_17 : decode m_M_policy.2.1 17 = .ok (.aload_n 0, 1) := by decide +kernel
theorem q_M_policy_18 : decode m_M_policy.2.1 18 = .ok (.iload_n 1, 1) := by decide +kernel
theorem q_M_policy_19 : decode m_M_policy.2.1 19 = .ok (.invokevirtual 174, 3) := by decide +kernel
theorem q_M_policy_22 : decode m_M_policy.2.1 22 = .ok (.putfield 47, 3) := by decide +kernel
theorem q_M_policy_25 : decode m_M_policy.2.1 25 = .ok (.aload_n 0, 1) := by decide +kernel
theorem q_M_policy_26 : decode m_M_policy.2.1 26 = .ok (.getfield 47, 3) := by decide +kernel
theorem q_M_policy_29 : decode m_M_policy.2.1 29 = .ok (.iconst (-1), 1) := by decide +kernel
theorem q_M_policy_30 : decode m_M_policy.2.1 30 = .ok (.if_icmp .ne 7, 3) := by decide +kernel
theorem q_M_policy_33 : decode m_M_policy.2.1 33 = .ok (.iconst (-1), 1) := by decide +kernel
theorem q_M_policy_34 : decode m_M_policy.2.1 34 = .ok (.goto 12, 3) := by decide +kernel
theorem q_M_policy_37 : decode m_M_policy.2.1 37 = .ok (.aload_n 0, 1) := by decide +kernel
theorem q_M_policy_38 : decode m_M_policy.2.1 38 = .ok (.aload_n 0, 1) := by decide +kernel
theorem q_M_policy_39 : decode m_M_policy.2.1 39 = .ok (.getfield 47, 3) := by decide +kernel
theorem q_M_policy_42 : decode m_M_policy.2.1 42 = .ok (.invokevirtual 123, 3) := by decide +kernel
theorem q_M_policy_45 : decode m_M_policy.2.1 45 = .ok (.l2i, 1) := by decide +kernel
theorem q_M_policy_46 : decode m_M_policy.2.1 46 = .ok (.ireturn, 1) := by decide +kernel
theorem q_M_compare_0 : decode m_M_compare.2.1 0 = .ok (.iload_n 1, 1) := by decide +kernel
theorem q_M_compare_1 : decode m_M_compare.2.1 1 = .ok (.ifCond .lt 17, 3) := by decide +kernel
theorem q_M_compare_4 : decode m_M_compare.2.1 4 = .ok (.iload_n 1, 1) := by decide +kernel
theorem q_M_compare_5 : decode m_M_compare.2.1 5 = .ok (.iconst 2, 1) := by decide +kernel
theorem q_M_compare_6 : decode m_M_compare.2.1 6 = .ok (.if_icmp .gt 12, 3) := by decide +kernel
theorem q_M_compare_9 : decode m_M_compare.2.1 9 = .ok (.iload_n 2, 1) := by decide +kernel
theorem q_M_compare_10 : decode m_M_compare.2.1 10 = .ok (.ifCond .lt 8, 3) := by decide +kernel
theorem q_M_compare_13 : decode m_M_compare.2.1 13 = .ok (.iload_n 2, 1) := by decide +kernel
theorem q_M_compare_14 : decode m_M_compare.2.1 14 = .ok (.iconst 2, 1) := by decide +kernel
theorem q_M_compare_15 : decode m_M_compare.2.1 15 = .ok (.if_icmp .le 7, 3) := by decide +kernel
theorem q_M_compare_18 : decode m_M_compare.2.1 18 = .ok (.ldc2_w 41, 3) := by decide +kernel
theorem q_M_compare_21 : decode m_M_compare.2.1 21 = .ok (.lreturn, 1) := by decide +kernel
theorem q_M_compare_22 : decode m_M_compare.2.1 22 = .ok (.aload_n 0, 1) := by decide +kernel
theorem q_M_compare_23 : decode m_M_compare.2.1 23 = .ok (.iload_n 1, 1) := by decide +kernel
theorem q_M_compare_24 : decode m_M_compare.2.1 24 = .ok (.invokevirtual 174, 3) := by decide +kernel
theorem q_M_compare_27 : decode m_M_compare.2.1 27 = .ok (.istore_n 3, 1) := by decide +kernel
theorem q_M_compare_28 : decode m_M_compare.2.1 28 = .ok (.aload_n 0, 1) := by decide +kernel
theorem q_M_compare_29 : decode m_M_compare.2.1 29 = .ok (.iload_n 2, 1) := by decide +kernel
theorem q_M_compare_30 : decode m_M_compare.2.1 30 = .ok (.invokevirtual 174, 3) := by decide +kernel
theorem q_M_compare_33 : decode m_M_compare.2.1 33 = .ok (.istore 4, 2) := by decide +kernel
theorem q_M_compare_35 : decode m_M_compare.2.1 35 = .ok (.iload_n 3, 1) := by decide +kernel
theorem q_M_compare_36 : decode m_M_compare.2.1 36 = .ok (.iconst (-1), 1) := by decide +kernel
theorem q_M_compare_37 : decode m_M_compare.2.1 37 = .ok (.if_icmp .eq 9, 3) := by decide +kernel
theorem q_M_compare_40 : decode m_M_compare.2.1 40 = .ok (.iload 4, 2) := by decide +kernel
theorem q_M_compare_42 : decode m_M_compare.2.1 42 = .ok (.iconst (-1), 1) := by decide +kernel
theorem q_M_compare_43 : decode m_M_compare.2.1 43 = .ok (.if_icmp .ne 9, 3) := by decide +kernel
theorem q_M_compare_46 : decode m_M_compare.2.1 46 = .ok (.ldc2_w 41, 3) := by decide +kernel
theorem q_M_compare_49 : decode m_M_compare.2.1 49 = .ok (.goto 15, 3) := by decide +kernel
theorem q_M_compare_52 : decode m_M_compare.2.1 52 = .ok (.aload_n 0, 1) := by decide +kernel
theorem q_M_compare_53 : decode m_M_compare.2.1 53 = .ok (.iload_n 3, 1) := by decide +kernel
theorem q_M_compare_54 : decode m_M_compare.2.1 54 = .ok (.invokevirtual 123, 3) := by decide +kernel
theorem q_M_compare_57 : decode m_M_compare.2.1 57 = .ok (.aload_n 0, 1) := by decide +kernel
theorem q_M_compare_58 : decode m_M_compare.2.1 58 = .ok (.iload 4, 2) := by decide +kernel
theorem q_M_compare_60 : decode m_M_compare.2.1 60 = .ok (.invokevirtual 123, 3) := by decide +kernel
theorem q_M_compare_63 : decode m_M_compare.2.1 63 = .ok (.lsub, 1) := by decide +kernel
theorem q_M_compare_64 : decode m_M_compare.2.1 64 = .ok (.lreturn, 1) := by decide +kernel
theorem q_M_list_0 : decode m_M_list.2.1 0 = .ok (.iconst 0, 1) := by decide +kernel
theorem q_M_list_1 : decode m_M_list.2.1 1 = .ok (.istore_n 3, 1) := by decide +kernel
theorem q_M_list_2 : decode m_M_list.2.1 2 = .ok (.iconst 0, 1) := by decide +kernel
theorem q_M_list_3 : decode m_M_list.2.1 3 = .ok (.istore 4, 2) := by decide +kernel
theorem q_M_list_5 : decode m_M_list.2.1 5 = .ok (.iload 4, 2) := by decide +kernel
theorem q_M_list_7 : decode m_M_list.2.1 7 = .ok (.aload_n 0, 1) := by decide +kernel
theorem q_M_list_8 : decode m_M_list.2.1 8 = .ok (.getfield 63, 3) := by decide +kernel
theorem q_M_list_11 : decode m_M_list.2.1 11 = .ok (.if_icmp .ge 86, 3) := by decide +kernel
theorem q_M_list_14 : decode m_M_list.2.1 14 = .ok (.aload_n 0, 1) := by decide +kernel
theorem q_M_list_15 : decode m_M_list.2.1 15 = .ok (.getfield 47, 3) := by decide +kernel
theorem q_M_list_18 : decode m_M_list.2.1 18 = .ok (.iconst (-1), 1) := by decide +kernel
theorem q_M_list_19 : decode m_M_list.2.1 19 = .ok (.if_icmp .eq 78, 3) := by decide +kernel
theorem q_M_list_22 : decode m_M_list.2.1 22 = .ok (.iconst 0, 1) := by decide +kernel
theorem q_M_list_23 : decode m_M_list.2.1 23 = .ok (.istore 5, 2) := by decide +kernel
theorem q_M_list_25 : decode m_M_list.2.1 25 = .ok (.iload 5, 2) := by decide +kernel
theorem q_M_list_27 : decode m_M_list.2.1 27 = .ok (.aload_n 0, 1) := by decide +kernel
theorem q_M_list_28 : decode m_M_list.2.1 28 = .ok (.getfield 84, 3) := by decide +kernel
theorem q_M_list_31 : decode m_M_list.2.1 31 = .ok (.if_icmp .ge 60, 3) := by decide +kernel
theorem q_M_list_34 : decode m_M_list.2.1 34 = .ok (.aload_n 0, 1) := by decide +kernel
theorem q_M_list_35 : decode m_M_list.2.1 35 = .ok (.getfield 47, 3) := by decide +kernel
theorem q_M_list_38 : decode m_M_list.2.1 38 = .ok (.iload 5, 2) := by decide +kernel
theorem q_M_list_40 : decode m_M_list.2.1 40 = .ok (.invokestatic 94, 3) := by decide +kernel
theorem q_M_list_43 : decode m_M_list.2.1 43 = .ok (.ifCond .eq 42, 3) := by decide +kernel
theorem q_M_list_46 : decode m_M_list.2.1 46 = .ok (.aload_n 0, 1) := by decide +kernel
theorem q_M_list_47 : decode m_M_list.2.1 47 = .ok (.getfield 19, 3) := by decide +kernel
theorem q_M_list_50 : decode m_M_list.2.1 50 = .ok (.iload 5, 2) := by decide +kernel
theorem q_M_list_52 : decode m_M_list.2.1 52 = .ok (.iaload, 1) := by decide +kernel
theorem q_M_list_53 : decode m_M_list.2.1 53 = .ok (.iload 4, 2) := by decide +kernel
theorem q_M_list_55 : decode m_M_list.2.1 55 = .ok (.if_icmp .ne 30, 3) := by decide +kernel
theorem q_M_list_58 : decode m_M_list.2.1 58 = .ok (.aload_n 0, 1) := by decide +kernel
theorem q_M_list_59 : decode m_M_list.2.1 59 = .ok (.getfield 13, 3) := by decide +kernel
theorem q_M_list_62 : decode m_M_list.2.1 62 = .ok (.aload_n 0, 1) := by decide +kernel
theorem q_M_list_63 : decode m_M_list.2.1 63 = .ok (.getfield 16, 3) := by decide +kernel
theorem q_M_list_66 : decode m_M_list.2.1 66 = .ok (.iload 5, 2) := by decide +kernel
theorem q_M_list_68 : decode m_M_list.2.1 68 = .ok (.iaload, 1) := by decide +kernel
theorem q_M_list_69 : decode m_M_list.2.1 69 = .ok (.iaload, 1) := by decide +kernel
theorem q_M_list_70 : decode m_M_list.2.1 70 = .ok (.iload_n 1, 1) := by decide +kernel
theorem q_M_list_71 : decode m_M_list.2.1 71 = .ok (.if_icmp .ne 14, 3) := by decide +kernel
theorem q_M_list_74 : decode m_M_list.2.1 74 = .ok (.iload_n 3, 1) := by decide +kernel
theorem q_M_list_75 : decode m_M_list.2.1 75 = .ok (.iload_n 2, 1) := by decide +kernel
theorem q_M_list_76 : decode m_M_list.2.1 76 = .ok (.if_icmp .ne 6, 3) := by decide +kernel
theorem q_M_list_79 : decode m_M_list.2.1 79 = .ok (.iload 5, 2) := by decide +kernel
theorem q_M_list_81 : decode m_M_list.2.1 81 = .ok (.ireturn, 1) := by decide +kernel
theorem q_M_list_82 : decode m_M_list.2.1 82 = .ok (.iinc 3 1, 3) := by decide +kernel
theorem q_M_list_85 : decode m_M_list.2.1 85 = .ok (.iinc 5 1, 3) := by decide +kernel
theorem q_M_list_88 : decode m_M_list.2.1 88 = .ok (.goto (-63), 3) := by decide +kernel
theorem q_M_list_91 : decode m_M_list.2.1 91 = .ok (.iinc 4 1, 3) := by decide +kernel
theorem q_M_list_94 : decode m_M_list.2.1 94 = .ok (.goto (-89), 3) := by decide +kernel
theorem q_M_list_97 : decode m_M_list.2.1 97 = .ok (.iconst (-1), 1) := by decide +kernel
theorem q_M_list_98 : decode m_M_list.2.1 98 = .ok (.ireturn, 1) := by decide +kernel
theorem q_M_earlier_0 : decode m_M_earlier.2.1 0 = .ok (.aload_n 0, 1) := by decide +kernel
theorem q_M_earlier_1 : decode m_M_earlier.2.1 1 = .ok (.iload_n 1, 1) := by decide +kernel
theorem q_M_earlier_2 : decode m_M_earlier.2.1 2 = .ok (.invokevirtual 98, 3) := by decide +kernel
theorem q_M_earlier_5 : decode m_M_earlier.2.1 5 = .ok (.ifCond .eq 11, 3) := by decide +kernel
theorem q_M_earlier_8 : decode m_M_earlier.2.1 8 = .ok (.aload_n 0, 1) := by decide +kernel
theorem q_M_earlier_9 : decode m_M_earlier.2.1 9 = .ok (.getfield 47, 3) := by decide +kernel
theorem q_M_earlier_12 : decode m_M_earlier.2.1 12 = .ok (.iconst (-1), 1) := by decide +kernel
theorem q_M_earlier_13 : decode m_M_earlier.2.1 13 = .ok (.if_icmp .ne 5, 3) := by decide +kernel
theorem q_M_earlier_16 : decode m_M_earlier.2.1 16 = .ok (.iconst (-1), 1) := by decide +kernel
theorem q_M_earlier_17 : decode m_M_earlier.2.1 17 = .ok (.ireturn, 1) := by decide +kernel
theorem q_M_earlier_18 : decode m_M_earlier.2.1 18 = .ok (.iconst 0, 1) := by decide +kernel
theorem q_M_earlier_19 : decode m_M_earlier.2.1 19 = .ok (.istore_n 2, 1) := by decide +kernel
theorem q_M_earlier_20 : decode m_M_earlier.2.1 20 = .ok (.iconst 0, 1) := by decide +kernel
theorem q_M_earlier_21 : decode m_M_earlier.2.1 21 = .ok (.istore_n 3, 1) := by decide +kernel
theorem q_M_earlier_22 : decode m_M_earlier.2.1 22 = .ok (.iload_n 3, 1) := by decide +kernel
theorem q_M_earlier_23 : decode m_M_earlier.2.1 23 = .ok (.aload_n 0, 1) := by decide +kernel
theorem q_M_earlier_24 : decode m_M_earlier.2.1 24 = .ok (.getfield 84, 3) := by decide +kernel
theorem q_M_earlier_27 : decode m_M_earlier.2.1 27 = .ok (.if_icmp .ge 38, 3) := by decide +kernel
theorem q_M_earlier_30 : decode m_M_earlier.2.1 30 = .ok (.iload_n 2, 1) := by decide +kernel
theorem q_M_earlier_31 : decode m_M_earlier.2.1 31 = .ok (.aload_n 0, 1) := by decide +kernel
theorem q_M_earlier_32 : decode m_M_earlier.2.1 32 = .ok (.getfield 47, 3) := by decide +kernel
theorem q_M_earlier_35 : decode m_M_earlier.2.1 35 = .ok (.iload_n 3, 1) := by decide +kernel
theorem q_M_earlier_36 : decode m_M_earlier.2.1 36 = .ok (.invokestatic 94, 3) := by decide +kernel
theorem q_M_earlier_39 : decode m_M_earlier.2.1 39 = .ok (.ifCond .eq 17, 3) := by decide +kernel
theorem q_M_earlier_42 : decode m_M_earlier.2.1 42 = .ok (.aload_n 0, 1) := by decide +kernel
theorem q_M_earlier_43 : decode m_M_earlier.2.1 43 = .ok (.getfield 19, 3) := by decide +kernel
theorem q_M_earlier_46 : decode m_M_earlier.2.1 46 = .ok (.iload_n 3, 1) := by decide +kernel
theorem q_M_earlier_47 : decode m_M_earlier.2.1 47 = .ok (.iaload, 1) := by decide +kernel
theorem q_M_earlier_48 : decode m_M_earlier.2.1 48 = .ok (.iload_n 1, 1) := by decide +kernel
theorem q_M_earlier_49 : decode m_M_earlier.2.1 49 = .ok (.if_icmp .ge 7, 3) := by decide +kernel
theorem q_M_earlier_52 : decode m_M_earlier.2.1 52 = .ok (.iconst 1, 1) := by decide +kernel
theorem q_M_earlier_53 : decode m_M_earlier.2.1 53 = .ok (.goto 4, 3) := by decide +kernel
theorem q_M_earlier_56 : decode m_M_earlier.2.1 56 = .ok (.iconst 0, 1) := by decide +kernel
theorem q_M_earlier_57 : decode m_M_earlier.2.1 57 = .ok (.iadd, 1) := by decide +kernel
theorem q_M_earlier_58 : decode m_M_earlier.2.1 58 = .ok (.istore_n 2, 1) := by decide +kernel
theorem q_M_earlier_59 : decode m_M_earlier.2.1 59 = .ok (.iinc 3 1, 3) := by decide +kernel
theorem q_M_earlier_62 : decode m_M_earlier.2.1 62 = .ok (.goto (-40), 3) := by decide +kernel
theorem q_M_earlier_65 : decode m_M_earlier.2.1 65 = .ok (.iload_n 2, 1) := by decide +kernel
theorem q_M_earlier_66 : decode m_M_earlier.2.1 66 = .ok (.ireturn, 1) := by decide +kernel
theorem q_M_holds_0 : decode m_M_holds.2.1 0 = .ok (.aload_n 0, 1) := by decide +kernel
theorem q_M_holds_1 : decode m_M_holds.2.1 1 = .ok (.iload_n 1, 1) := by decide +kernel
theorem q_M_holds_2 : decode m_M_holds.2.1 2 = .ok (.invokevirtual 98, 3) := by decide +kernel
theorem q_M_holds_5 : decode m_M_holds.2.1 5 = .ok (.ifCond .eq 34, 3) := by decide +kernel
theorem q_M_holds_8 : decode m_M_holds.2.1 8 = .ok (.aload_n 0, 1) := by decide +kernel
theorem q_M_holds_9 : decode m_M_holds.2.1 9 = .ok (.getfield 47, 3) := by decide +kernel
theorem q_M_holds_12 : decode m_M_holds.2.1 12 = .ok (.iconst (-1), 1) := by decide +kernel
theorem q_M_holds_13 : decode m_M_holds.2.1 13 = .ok (.if_icmp .eq 26, 3) := by decide +kernel
theorem q_M_holds_16 : decode m_M_holds.2.1 16 = .ok (.aload_n 0, 1) := by decide +kernel
theorem q_M_holds_17 : decode m_M_holds.2.1 17 = .ok (.aload_n 0, 1) := by decide +kernel
theorem q_M_holds_18 : decode m_M_holds.2.1 18 = .ok (.getfield 47, 3) := by decide +kernel
theorem q_M_holds_21 : decode m_M_holds.2.1 21 = .ok (.iload_n 1, 1) := by decide +kernel
theorem q_M_holds_22 : decode m_M_holds.2.1 22 = .ok (.invokevirtual 113, 3) := by decide +kernel
theorem q_M_holds_25 : decode m_M_holds.2.1 25 = .ok (.aload_n 0, 1) := by decide +kernel
theorem q_M_holds_26 : decode m_M_holds.2.1 26 = .ok (.getfield 29, 3) := by decide +kernel
theorem q_M_holds_29 : decode m_M_holds.2.1 29 = .ok (.iload_n 1, 1) := by decide +kernel
theorem q_M_holds_30 : decode m_M_holds.2.1 30 = .ok (.laload, 1) := by decide +kernel
theorem q_M_holds_31 : decode m_M_holds.2.1 31 = .ok (.lcmp, 1) := by decide +kernel
theorem q_M_holds_32 : decode m_M_holds.2.1 32 = .ok (.ifCond .gt 7, 3) := by decide +kernel
theorem q_M_holds_35 : decode m_M_holds.2.1 35 = .ok (.iconst 1, 1) := by decide +kernel
theorem q_M_holds_36 : decode m_M_holds.2.1 36 = .ok (.goto 4, 3) := by decide +kernel
theorem q_M_holds_39 : decode m_M_holds.2.1 39 = .ok (.iconst 0, 1) := by decide +kernel
theorem q_M_holds_40 : decode m_M_holds.2.1 40 = .ok (.ireturn, 1) := by decide +kernel
end
section
theorem q_L_cell_0 : decode m_L_cell.2.1 0 = .ok (.iload_n 1, 1) := by decide +kernel
theorem q_L_cell_1 : decode m_L_cell.2.1 1 = .ok (.aload_n 0, 1) := by decide +kernel
theorem q_L_cell_2 : decode m_L_cell.2.1 2 = .ok (.arraylength, 1) := by decide +kernel
theorem q_L_cell_3 : decode m_L_cell.2.1 3 = .ok (.if_icmp .ge 9, 3) := by decide +kernel
theorem q_L_cell_6 : decode m_L_cell.2.1 6 = .ok (.aload_n 0, 1) := by decide +kernel
theorem q_L_cell_7 : decode m_L_cell.2.1 7 = .ok (.iload_n 1, 1) := by decide +kernel
theorem q_L_cell_8 : decode m_L_cell.2.1 8 = .ok (.iaload, 1) := by decide +kernel
theorem q_L_cell_9 : decode m_L_cell.2.1 9 = .ok (.goto 4, 3) := by decide +kernel
theorem q_L_cell_12 : decode m_L_cell.2.1 12 = .ok (.iconst 0, 1) := by decide +kernel
theorem q_L_cell_13 : decode m_L_cell.2.1 13 = .ok (.ireturn, 1) := by decide +kernel
theorem q_L_law_0 : decode m_L_law.2.1 0 = .ok (.new 7, 3) := by decide +kernel
theorem q_L_law_3 : decode m_L_law.2.1 3 = .ok (.dup, 1) := by decide +kernel
theorem q_L_law_4 : decode m_L_law.2.1 4 = .ok (.aload_n 0, 1) := by decide +kernel
theorem q_L_law_5 : decode m_L_law.2.1 5 = .ok (.iconst 0, 1) := by decide +kernel
theorem q_L_law_6 : decode m_L_law.2.1 6 = .ok (.invokestatic 9, 3) := by decide +kernel
theorem q_L_law_9 : decode m_L_law.2.1 9 = .ok (.invokespecial 15, 3) := by decide +kernel
theorem q_L_law_12 : decode m_L_law.2.1 12 = .ok (.astore_n 1, 1) := by decide +kernel
theorem q_L_law_13 : decode m_L_law.2.1 13 = .ok (.new 18, 3) := by decide +kernel
theorem q_L_law_16 : decode m_L_law.2.1 16 = .ok (.dup, 1) := by decide +kernel
theorem q_L_law_17 : decode m_L_law.2.1 17 = .ok (.aload_n 0, 1) := by decide +kernel
theorem q_L_law_18 : decode m_L_law.2.1 18 = .ok (.iconst 0, 1) := by decide +kernel
theorem q_L_law_19 : decode m_L_law.2.1 19 = .ok (.invokestatic 9, 3) := by decide +kernel
theorem q_L_law_22 : decode m_L_law.2.1 22 = .ok (.invokespecial 20, 3) := by decide +kernel
theorem q_L_law_25 : decode m_L_law.2.1 25 = .ok (.astore_n 2, 1) := by decide +kernel
theorem q_L_law_26 : decode m_L_law.2.1 26 = .ok (.iconst 1, 1) := by decide +kernel
theorem q_L_law_27 : decode m_L_law.2.1 27 = .ok (.istore_n 3, 1) := by decide +kernel
theorem q_L_law_28 : decode m_L_law.2.1 28 = .ok (.iload_n 3, 1) := by decide +kernel
theorem q_L_law_29 : decode m_L_law.2.1 29 = .ok (.aload_n 0, 1) := by decide +kernel
theorem q_L_law_30 : decode m_L_law.2.1 30 = .ok (.arraylength, 1) := by decide +kernel
theorem q_L_law_31 : decode m_L_law.2.1 31 = .ok (.bipush 7, 2) := by decide +kernel
theorem q_L_law_33 : decode m_L_law.2.1 33 = .ok (.isub, 1) := by decide +kernel
theorem q_L_law_34 : decode m_L_law.2.1 34 = .ok (.if_icmp .gt 1037, 3) := by decide +kernel
theorem q_L_law_37 : decode m_L_law.2.1 37 = .ok (.aload_n 0, 1) := by decide +kernel
theorem q_L_law_38 : decode m_L_law.2.1 38 = .ok (.iload_n 3, 1) := by decide +kernel
theorem q_L_law_39 : decode m_L_law.2.1 39 = .ok (.iaload, 1) := by decide +kernel
theorem q_L_law_40 : decode m_L_law.2.1 40 = .ok (.bipush 31, 2) := by decide +kernel
theorem q_L_law_42 : decode m_L_law.2.1 42 = .ok (.iand, 1) := by decide +kernel
theorem q_L_law_43 : decode m_L_law.2.1 43 = .ok (.tableswitch 1022 0 24 #[113, 136, 251, 274, 337, 410, 443, 496, 549, 572, 586, 610, 633, 646, 680, 729, 782, 805, 829, 852, 886, 909, 943, 976, 999], 113) := by decide +kernel
theorem q_L_law_156 : decode m_L_law.2.1 156 = .ok (.aload_n 1, 1) := by decide +kernel
theorem q_L_law_157 : decode m_L_law.2.1 157 = .ok (.aload_n 0, 1) := by decide +kernel
theorem q_L_law_158 : decode m_L_law.2.1 158 = .ok (.iload_n 3, 1) := by decide +kernel
theorem q_L_law_159 : decode m_L_law.2.1 159 = .ok (.iconst 1, 1) := by decide +kernel
theorem q_L_law_160 : decode m_L_law.2.1 160 = .ok (.iadd, 1) := by decide +kernel
theorem q_L_law_161 : decode m_L_law.2.1 161 = .ok (.iaload, 1) := by decide +kernel
theorem q_L_law_162 : decode m_L_law.2.1 162 = .ok (.invokevirtual 21, 3) := by decide +kernel
theorem q_L_law_165 : decode m_L_law.2.1 165 = .ok (.aload_n 2, 1) := by decide +kernel
theorem q_L_law_166 : decode m_L_law.2.1 166 = .ok (.aload_n 0, 1) := by decide +kernel
theorem q_L_law_167 : decode m_L_law.2.1 167 = .ok (.iload_n 3, 1) := by decide +kernel
theorem q_L_law_168 : decode m_L_law.2.1 168 = .ok (.iconst 1, 1) := by decide +kernel
theorem q_L_law_169 : decode m_L_law.2.1 169 = .ok (.iadd, 1) := by decide +kernel
theorem q_L_law_170 : decode m_L_law.2.1 170 = .ok (.iaload, 1) := by decide +kernel
theorem q_L_law_171 : decode m_L_law.2.1 171 = .ok (.invokevirtual 25, 3) := by decide +kernel
theorem q_L_law_174 : decode m_L_law.2.1 174 = .ok (.if_icmp .eq 891, 3) := by decide +kernel
theorem q_L_law_177 : decode m_L_law.2.1 177 = .ok (.iconst 0, 1) := by decide +kernel
theorem q_L_law_178 : decode m_L_law.2.1 178 = .ok (.ireturn, 1) := by decide +kernel
theorem q_L_law_179 : decode m_L_law.2.1 179 = .ok (.aload_n 1, 1) := by decide +kernel
theorem q_L_law_180 : decode m_L_law.2.1 180 = .ok (.aload_n 0, 1) := by decide +kernel
theorem q_L_law_181 : decode m_L_law.2.1 181 = .ok (.iload_n 3, 1) := by decide +kernel
theorem q_L_law_182 : decode m_L_law.2.1 182 = .ok (.iconst 1, 1) := by decide +kernel
theorem q_L_law_183 : decode m_L_law.2.1 183 = .ok (.iadd, 1) := by decide +kernel
theorem q_L_law_184 : decode m_L_law.2.1 184 = .ok (.iaload, 1) := by decide +kernel
theorem q_L_law_185 : decode m_L_law.2.1 185 = .ok (.aload_n 0, 1) := by decide +kernel
theorem q_L_law_186 : decode m_L_law.2.1 186 = .ok (.iload_n 3, 1) := by decide +kernel
theorem q_L_law_187 : decode m_L_law.2.1 187 = .ok (.iconst 2, 1) := by decide +kernel
theorem q_L_law_188 : decode m_L_law.2.1 188 = .ok (.iadd, 1) := by decide +kernel
theorem q_L_law_189 : decode m_L_law.2.1 189 = .ok (.iaload, 1) := by decide +kernel
theorem q_L_law_190 : decode m_L_law.2.1 190 = .ok (.aload_n 0, 1) := by decide +kernel
theorem q_L_law_191 : decode m_L_law.2.1 191 = .ok (.iload_n 3, 1) := by decide +kernel
theorem q_L_law_192 : decode m_L_law.2.1 192 = .ok (.iconst 3, 1) := by decide +kernel
theorem q_L_law_193 : decode m_L_law.2.1 193 = .ok (.iadd, 1) := by decide +kernel
theorem q_L_law_194 : decode m_L_law.2.1 194 = .ok (.iaload, 1) := by decide +kernel
theorem q_L_law_195 : decode m_L_law.2.1 195 = .ok (.i2l, 1) := by decide +kernel
theorem q_L_law_196 : decode m_L_law.2.1 196 = .ok (.bipush 32, 2) := by decide +kernel
theorem q_L_law_198 : decode m_L_law.2.1 198 = .ok (.lshl, 1) := by decide +kernel
theorem q_L_law_199 : decode m_L_law.2.1 199 = .ok (.aload_n 0, 1) := by decide +kernel
theorem q_L_law_200 : decode m_L_law.2.1 200 = .ok (.iload_n 3, 1) := by decide +kernel
theorem q_L_law_201 : decode m_L_law.2.1 201 = .ok (.iconst 4, 1) := by decide +kernel
theorem q_L_law_202 : decode m_L_law.2.1 202 = .ok (.iadd, 1) := by decide +kernel
theorem q_L_law_203 : decode m_L_law.2.1 203 = .ok (.iaload, 1) := by decide +kernel
theorem q_L_law_204 : decode m_L_law.2.1 204 = .ok (.i2l, 1) := by decide +kernel
theorem q_L_law_205 : decode m_L_law.2.1 205 = .ok (.ldc2_w 26, 3) := by decide +kernel
theorem q_L_law_208 : decode m_L_law.2.1 208 = .ok (.land, 1) := by decide +kernel
theorem q_L_law_209 : decode m_L_law.2.1 209 = .ok (.lor, 1) := by decide +kernel
theorem q_L_law_210 : decode m_L_law.2.1 210 = .ok (.aload_n 0, 1) := by decide +kernel
theorem q_L_law_211 : decode m_L_law.2.1 211 = .ok (.iload_n 3, 1) := by decide +kernel
theorem q_L_law_212 : decode m_L_law.2.1 212 = .ok (.iconst 5, 1) := by decide +kernel
theorem q_L_law_213 : decode m_L_law.2.1 213 = .ok (.iadd, 1) := by decide +kernel
theorem q_L_law_214 : decode m_L_law.2.1 214 = .ok (.iaload, 1) := by decide +kernel
theorem q_L_law_215 : decode m_L_law.2.1 215 = .ok (.i2l, 1) := by decide +kernel
theorem q_L_law_216 : decode m_L_law.2.1 216 = .ok (.bipush 32, 2) := by decide +kernel
theorem q_L_law_218 : decode m_L_law.2.1 218 = .ok (.lshl, 1) := by decide +kernel
theorem q_L_law_219 : decode m_L_law.2.1 219 = .ok (.aload_n 0, 1) := by decide +kernel
theorem q_L_law_220 : decode m_L_law.2.1 220 = .ok (.iload_n 3, 1) := by decide +kernel
theorem q_L_law_221 : decode m_L_law.2.1 221 = .ok (.bipush 6, 2) := by decide +kernel
theorem q_L_law_223 : decode m_L_law.2.1 223 = .ok (.iadd, 1) := by decide +kernel
theorem q_L_law_224 : decode m_L_law.2.1 224 = .ok (.iaload, 1) := by decide +kernel
theorem q_L_law_225 : decode m_L_law.2.1 225 = .ok (.i2l, 1) := by decide +kernel
theorem q_L_law_226 : decode m_L_law.2.1 226 = .ok (.ldc2_w 26, 3) := by decide +kernel
theorem q_L_law_229 : decode m_L_law.2.1 229 = .ok (.land, 1) := by decide +kernel
theorem q_L_law_230 : decode m_L_law.2.1 230 = .ok (.lor, 1) := by decide +kernel
theorem q_L_law_231 : decode m_L_law.2.1 231 = .ok (.invokevirtual 28, 3) := by decide +kernel
theorem q_L_law_234 : decode m_L_law.2.1 234 = .ok (.aload_n 2, 1) := by decide +kernel
theorem q_L_law_235 : decode m_L_law.2.1 235 = .ok (.aload_n 0, 1) := by decide +kernel
theorem q_L_law_236 : decode m_L_law.2.1 236 = .ok (.iload_n 3, 1) := by decide +kernel
theorem q_L_law_237 : decode m_L_law.2.1 237 = .ok (.iconst 1, 1) := by decide +kernel
theorem q_L_law_238 : decode m_L_law.2.1 238 = .ok (.iadd, 1) := by decide +kernel
theorem q_L_law_239 : decode m_L_law.2.1 239 = .ok (.iaload, 1) := by decide +kernel
theorem q_L_law_240 : decode m_L_law.2.1 240 = .ok (.aload_n 0, 1) := by decide +kernel
theorem q_L_law_241 : decode m_L_law.2.1 241 = .ok (.iload_n 3, 1) := by decide +kernel
theorem q_L_law_242 : decode m_L_law.2.1 242 = .ok (.iconst 2, 1) := by decide +kernel
theorem q_L_law_243 : decode m_L_law.2.1 243 = .ok (.iadd, 1) := by decide +kernel
theorem q_L_law_244 : decode m_L_law.2.1 244 = .ok (.iaload, 1) := by decide +kernel
theorem q_L_law_245 : decode m_L_law.2.1 245 = .ok (.aload_n 0, 1) := by decide +kernel
theorem q_L_law_246 : decode m_L_law.2.1 246 = .ok (.iload_n 3, 1) := by decide +kernel
theorem q_L_law_247 : decode m_L_law.2.1 247 = .ok (.iconst 3, 1) := by decide +kernel
theorem q_L_law_248 : decode m_L_law.2.1 248 = .ok (.iadd, 1) := by decide +kernel
theorem q_L_law_249 : decode m_L_law.2.1 249 = .ok (.iaload, 1) := by decide +kernel
theorem q_L_law_250 : decode m_L_law.2.1 250 = .ok (.i2l, 1) := by decide +kernel
theorem q_L_law_251 : decode m_L_law.2.1 251 = .ok (.bipush 32, 2) := by decide +kernel
theorem q_L_law_253 : decode m_L_law.2.1 253 = .ok (.lshl, 1) := by decide +kernel
theorem q_L_law_254 : decode m_L_law.2.1 254 = .ok (.aload_n 0, 1) := by decide +kernel
theorem q_L_law_255 : decode m_L_law.2.1 255 = .ok (.iload_n 3, 1) := by decide +kernel
theorem q_L_law_256 : decode m_L_law.2.1 256 = .ok (.iconst 4, 1) := by decide +kernel
theorem q_L_law_257 : decode m_L_law.2.1 257 = .ok (.iadd, 1) := by decide +kernel
theorem q_L_law_258 : decode m_L_law.2.1 258 = .ok (.iaload, 1) := by decide +kernel
theorem q_L_law_259 : decode m_L_law.2.1 259 = .ok (.i2l, 1) := by decide +kernel
theorem q_L_law_260 : decode m_L_law.2.1 260 = .ok (.ldc2_w 26, 3) := by decide +kernel
theorem q_L_law_263 : decode m_L_law.2.1 263 = .ok (.land, 1) := by decide +kernel
theorem q_L_law_264 : decode m_L_law.2.1 264 = .ok (.lor, 1) := by decide +kernel
theorem q_L_law_265 : decode m_L_law.2.1 265 = .ok (.aload_n 0, 1) := by decide +kernel
theorem q_L_law_266 : decode m_L_law.2.1 266 = .ok (.iload_n 3, 1) := by decide +kernel
theorem q_L_law_267 : decode m_L_law.2.1 267 = .ok (.iconst 5, 1) := by decide +kernel
theorem q_L_law_268 : decode m_L_law.2.1 268 = .ok (.iadd, 1) := by decide +kernel
theorem q_L_law_269 : decode m_L_law.2.1 269 = .ok (.iaload, 1) := by decide +kernel
theorem q_L_law_270 : decode m_L_law.2.1 270 = .ok (.i2l, 1) := by decide +kernel
theorem q_L_law_271 : decode m_L_law.2.1 271 = .ok (.bipush 32, 2) := by decide +kernel
theorem q_L_law_273 : decode m_L_law.2.1 273 = .ok (.lshl, 1) := by decide +kernel
theorem q_L_law_274 : decode m_L_law.2.1 274 = .ok (.aload_n 0, 1) := by decide +kernel
theorem q_L_law_275 : decode m_L_law.2.1 275 = .ok (.iload_n 3, 1) := by decide +kernel
theorem q_L_law_276 : decode m_L_law.2.1 276 = .ok (.bipush 6, 2) := by decide +kernel
theorem q_L_law_278 : decode m_L_law.2.1 278 = .ok (.iadd, 1) := by decide +kernel
theorem q_L_law_279 : decode m_L_law.2.1 279 = .ok (.iaload, 1) := by decide +kernel
theorem q_L_law_280 : decode m_L_law.2.1 280 = .ok (.i2l, 1) := by decide +kernel
theorem q_L_law_281 : decode m_L_law.2.1 281 = .ok (.ldc2_w 26, 3) := by decide +kernel
theorem q_L_law_284 : decode m_L_law.2.1 284 = .ok (.land, 1) := by decide +kernel
theorem q_L_law_285 : decode m_L_law.2.1 285 = .ok (.lor, 1) := by decide +kernel
theorem q_L_law_286 : decode m_L_law.2.1 286 = .ok (.invokevirtual 32, 3) := by decide +kernel
theorem q_L_law_289 : decode m_L_law.2.1 289 = .ok (.if_icmp .eq 776, 3) := by decide +kernel
theorem q_L_law_292 : decode m_L_law.2.1 292 = .ok (.iconst 0, 1) := by decide +kernel
theorem q_L_law_293 : decode m_L_law.2.1 293 = .ok (.ireturn, 1) := by decide +kernel
theorem q_L_law_294 : decode m_L_law.2.1 294 = .ok (.aload_n 1, 1) := by decide +kernel
theorem q_L_law_295 : decode m_L_law.2.1 295 = .ok (.aload_n 0, 1) := by decide +kernel
theorem q_L_law_296 : decode m_L_law.2.1 296 = .ok (.iload_n 3, 1) := by decide +kernel
theorem q_L_law_297 : decode m_L_law.2.1 297 = .ok (.iconst 1, 1) := by decide +kernel
theorem q_L_law_298 : decode m_L_law.2.1 298 = .ok (.iadd, 1) := by decide +kernel
theorem q_L_law_299 : decode m_L_law.2.1 299 = .ok (.iaload, 1) := by decide +kernel
theorem q_L_law_300 : decode m_L_law.2.1 300 = .ok (.invokevirtual 33, 3) := by decide +kernel
theorem q_L_law_303 : decode m_L_law.2.1 303 = .ok (.aload_n 2, 1) := by decide +kernel
theorem q_L_law_304 : decode m_L_law.2.1 304 = .ok (.aload_n 0, 1) := by decide +kernel
theorem q_L_law_305 : decode m_L_law.2.1 305 = .ok (.iload_n 3, 1) := by decide +kernel
theorem q_L_law_306 : decode m_L_law.2.1 306 = .ok (.iconst 1, 1) := by decide +kernel
theorem q_L_law_307 : decode m_L_law.2.1 307 = .ok (.iadd, 1) := by decide +kernel
theorem q_L_law_308 : decode m_L_law.2.1 308 = .ok (.iaload, 1) := by decide +kernel
theorem q_L_law_309 : decode m_L_law.2.1 309 = .ok (.invokevirtual 37, 3) := by decide +kernel
theorem q_L_law_312 : decode m_L_law.2.1 312 = .ok (.if_icmp .eq 753, 3) := by decide +kernel
theorem q_L_law_315 : decode m_L_law.2.1 315 = .ok (.iconst 0, 1) := by decide +kernel
theorem q_L_law_316 : decode m_L_law.2.1 316 = .ok (.ireturn, 1) := by decide +kernel
theorem q_L_law_317 : decode m_L_law.2.1 317 = .ok (.aload_n 1, 1) := by decide +kernel
theorem q_L_law_318 : decode m_L_law.2.1 318 = .ok (.aload_n 0, 1) := by decide +kernel
theorem q_L_law_319 : decode m_L_law.2.1 319 = .ok (.iload_n 3, 1) := by decide +kernel
theorem q_L_law_320 : decode m_L_law.2.1 320 = .ok (.iconst 1, 1) := by decide +kernel
theorem q_L_law_321 : decode m_L_law.2.1 321 = .ok (.iadd, 1) := by decide +kernel
theorem q_L_law_322 : decode m_L_law.2.1 322 = .ok (.iaload, 1) := by decide +kernel
theorem q_L_law_323 : decode m_L_law.2.1 323 = .ok (.aload_n 0, 1) := by decide +kernel
theorem q_L_law_324 : decode m_L_law.2.1 324 = .ok (.iload_n 3, 1) := by decide +kernel
theorem q_L_law_325 : decode m_L_law.2.1 325 = .ok (.iconst 2, 1) := by decide +kernel
theorem q_L_law_326 : decode m_L_law.2.1 326 = .ok (.iadd, 1) := by decide +kernel
theorem q_L_law_327 : decode m_L_law.2.1 327 = .ok (.iaload, 1) := by decide +kernel
theorem q_L_law_328 : decode m_L_law.2.1 328 = .ok (.i2l, 1) := by decide +kernel
theorem q_L_law_329 : decode m_L_law.2.1 329 = .ok (.bipush 32, 2) := by decide +kernel
theorem q_L_law_331 : decode m_L_law.2.1 331 = .ok (.lshl, 1) := by decide +kernel
theorem q_L_law_332 : decode m_L_law.2.1 332 = .ok (.aload_n 0, 1) := by decide +kernel
theorem q_L_law_333 : decode m_L_law.2.1 333 = .ok (.iload_n 3, 1) := by decide +kernel
theorem q_L_law_334 : decode m_L_law.2.1 334 = .ok (.iconst 3, 1) := by decide +kernel
theorem q_L_law_335 : decode m_L_law.2.1 335 = .ok (.iadd, 1) := by decide +kernel
theorem q_L_law_336 : decode m_L_law.2.1 336 = .ok (.iaload, 1) := by decide +kernel
theorem q_L_law_337 : decode m_L_law.2.1 337 = .ok (.i2l, 1) := by decide +kernel
theorem q_L_law_338 : decode m_L_law.2.1 338 = .ok (.ldc2_w 26, 3) := by decide +kernel
theorem q_L_law_341 : decode m_L_law.2.1 341 = .ok (.land, 1) := by decide +kernel
theorem q_L_law_342 : decode m_L_law.2.1 342 = .ok (.lor, 1) := by decide +kernel
theorem q_L_law_343 : decode m_L_law.2.1 343 = .ok (.invokevirtual 38, 3) := by decide +kernel
theorem q_L_law_346 : decode m_L_law.2.1 346 = .ok (.aload_n 2, 1) := by decide +kernel
theorem q_L_law_347 : decode m_L_law.2.1 347 = .ok (.aload_n 0, 1) := by decide +kernel
theorem q_L_law_348 : decode m_L_law.2.1 348 = .ok (.iload_n 3, 1) := by decide +kernel
theorem q_L_law_349 : decode m_L_law.2.1 349 = .ok (.iconst 1, 1) := by decide +kernel
theorem q_L_law_350 : decode m_L_law.2.1 350 = .ok (.iadd, 1) := by decide +kernel
theorem q_L_law_351 : decode m_L_law.2.1 351 = .ok (.iaload, 1) := by decide +kernel
theorem q_L_law_352 : decode m_L_law.2.1 352 = .ok (.aload_n 0, 1) := by decide +kernel
theorem q_L_law_353 : decode m_L_law.2.1 353 = .ok (.iload_n 3, 1) := by decide +kernel
theorem q_L_law_354 : decode m_L_law.2.1 354 = .ok (.iconst 2, 1) := by decide +kernel
theorem q_L_law_355 : decode m_L_law.2.1 355 = .ok (.iadd, 1) := by decide +kernel
theorem q_L_law_356 : decode m_L_law.2.1 356 = .ok (.iaload, 1) := by decide +kernel
theorem q_L_law_357 : decode m_L_law.2.1 357 = .ok (.i2l, 1) := by decide +kernel
theorem q_L_law_358 : decode m_L_law.2.1 358 = .ok (.bipush 32, 2) := by decide +kernel
theorem q_L_law_360 : decode m_L_law.2.1 360 = .ok (.lshl, 1) := by decide +kernel
theorem q_L_law_361 : decode m_L_law.2.1 361 = .ok (.aload_n 0, 1) := by decide +kernel
theorem q_L_law_362 : decode m_L_law.2.1 362 = .ok (.iload_n 3, 1) := by decide +kernel
theorem q_L_law_363 : decode m_L_law.2.1 363 = .ok (.iconst 3, 1) := by decide +kernel
theorem q_L_law_364 : decode m_L_law.2.1 364 = .ok (.iadd, 1) := by decide +kernel
theorem q_L_law_365 : decode m_L_law.2.1 365 = .ok (.iaload, 1) := by decide +kernel
theorem q_L_law_366 : decode m_L_law.2.1 366 = .ok (.i2l, 1) := by decide +kernel
theorem q_L_law_367 : decode m_L_law.2.1 367 = .ok (.ldc2_w 26, 3) := by decide +kernel
theorem q_L_law_370 : decode m_L_law.2.1 370 = .ok (.land, 1) := by decide +kernel
theorem q_L_law_371 : decode m_L_law.2.1 371 = .ok (.lor, 1) := by decide +kernel
theorem q_L_law_372 : decode m_L_law.2.1 372 = .ok (.invokevirtual 42, 3) := by decide +kernel
theorem q_L_law_375 : decode m_L_law.2.1 375 = .ok (.if_icmp .eq 690, 3) := by decide +kernel
theorem q_L_law_378 : decode m_L_law.2.1 378 = .ok (.iconst 0, 1) := by decide +kernel
theorem q_L_law_379 : decode m_L_law.2.1 379 = .ok (.ireturn, 1) := by decide +kernel
theorem q_L_law_380 : decode m_L_law.2.1 380 = .ok (.aload_n 1, 1) := by decide +kernel
theorem q_L_law_381 : decode m_L_law.2.1 381 = .ok (.aload_n 0, 1) := by decide +kernel
theorem q_L_law_382 : decode m_L_law.2.1 382 = .ok (.iload_n 3, 1) := by decide +kernel
theorem q_L_law_383 : decode m_L_law.2.1 383 = .ok (.iconst 1, 1) := by decide +kernel
theorem q_L_law_384 : decode m_L_law.2.1 384 = .ok (.iadd, 1) := by decide +kernel
theorem q_L_law_385 : decode m_L_law.2.1 385 = .ok (.iaload, 1) := by decide +kernel
theorem q_L_law_386 : decode m_L_law.2.1 386 = .ok (.aload_n 0, 1) := by decide +kernel
theorem q_L_law_387 : decode m_L_law.2.1 387 = .ok (.iload_n 3, 1) := by decide +kernel
theorem q_L_law_388 : decode m_L_law.2.1 388 = .ok (.iconst 2, 1) := by decide +kernel
theorem q_L_law_389 : decode m_L_law.2.1 389 = .ok (.iadd, 1) := by decide +kernel
theorem q_L_law_390 : decode m_L_law.2.1 390 = .ok (.iaload, 1) := by decide +kernel
theorem q_L_law_391 : decode m_L_law.2.1 391 = .ok (.aload_n 0, 1) := by decide +kernel
theorem q_L_law_392 : decode m_L_law.2.1 392 = .ok (.iload_n 3, 1) := by decide +kernel
theorem q_L_law_393 : decode m_L_law.2.1 393 = .ok (.iconst 3, 1) := by decide +kernel
theorem q_L_law_394 : decode m_L_law.2.1 394 = .ok (.iadd, 1) := by decide +kernel
theorem q_L_law_395 : decode m_L_law.2.1 395 = .ok (.iaload, 1) := by decide +kernel
theorem q_L_law_396 : decode m_L_law.2.1 396 = .ok (.i2l, 1) := by decide +kernel
theorem q_L_law_397 : decode m_L_law.2.1 397 = .ok (.bipush 32, 2) := by decide +kernel
theorem q_L_law_399 : decode m_L_law.2.1 399 = .ok (.lshl, 1) := by decide +kernel
theorem q_L_law_400 : decode m_L_law.2.1 400 = .ok (.aload_n 0, 1) := by decide +kernel
theorem q_L_law_401 : decode m_L_law.2.1 401 = .ok (.iload_n 3, 1) := by decide +kernel
theorem q_L_law_402 : decode m_L_law.2.1 402 = .ok (.iconst 4, 1) := by decide +kernel
theorem q_L_law_403 : decode m_L_law.2.1 403 = .ok (.iadd, 1) := by decide +kernel
theorem q_L_law_404 : decode m_L_law.2.1 404 = .ok (.iaload, 1) := by decide +kernel
theorem q_L_law_405 : decode m_L_law.2.1 405 = .ok (.i2l, 1) := by decide +kernel
theorem q_L_law_406 : decode m_L_law.2.1 406 = .ok (.ldc2_w 26, 3) := by decide +kernel
theorem q_L_law_409 : decode m_L_law.2.1 409 = .ok (.land, 1) := by decide +kernel
theorem q_L_law_410 : decode m_L_law.2.1 410 = .ok (.lor, 1) := by decide +kernel
theorem q_L_law_411 : decode m_L_law.2.1 411 = .ok (.invokevirtual 43, 3) := by decide +kernel
theorem q_L_law_414 : decode m_L_law.2.1 414 = .ok (.aload_n 2, 1) := by decide +kernel
theorem q_L_law_415 : decode m_L_law.2.1 415 = .ok (.aload_n 0, 1) := by decide +kernel
theorem q_L_law_416 : decode m_L_law.2.1 416 = .ok (.iload_n 3, 1) := by decide +kernel
theorem q_L_law_417 : decode m_L_law.2.1 417 = .ok (.iconst 1, 1) := by decide +kernel
theorem q_L_law_418 : decode m_L_law.2.1 418 = .ok (.iadd, 1) := by decide +kernel
theorem q_L_law_419 : decode m_L_law.2.1 419 = .ok (.iaload, 1) := by decide +kernel
theorem q_L_law_420 : decode m_L_law.2.1 420 = .ok (.aload_n 0, 1) := by decide +kernel
theorem q_L_law_421 : decode m_L_law.2.1 421 = .ok (.iload_n 3, 1) := by decide +kernel
theorem q_L_law_422 : decode m_L_law.2.1 422 = .ok (.iconst 2, 1) := by decide +kernel
theorem q_L_law_423 : decode m_L_law.2.1 423 = .ok (.iadd, 1) := by decide +kernel
theorem q_L_law_424 : decode m_L_law.2.1 424 = .ok (.iaload, 1) := by decide +kernel
theorem q_L_law_425 : decode m_L_law.2.1 425 = .ok (.aload_n 0, 1) := by decide +kernel
theorem q_L_law_426 : decode m_L_law.2.1 426 = .ok (.iload_n 3, 1) := by decide +kernel
theorem q_L_law_427 : decode m_L_law.2.1 427 = .ok (.iconst 3, 1) := by decide +kernel
theorem q_L_law_428 : decode m_L_law.2.1 428 = .ok (.iadd, 1) := by decide +kernel
theorem q_L_law_429 : decode m_L_law.2.1 429 = .ok (.iaload, 1) := by decide +kernel
theorem q_L_law_430 : decode m_L_law.2.1 430 = .ok (.i2l, 1) := by decide +kernel
theorem q_L_law_431 : decode m_L_law.2.1 431 = .ok (.bipush 32, 2) := by decide +kernel
theorem q_L_law_433 : decode m_L_law.2.1 433 = .ok (.lshl, 1) := by decide +kernel
theorem q_L_law_434 : decode m_L_law.2.1 434 = .ok (.aload_n 0, 1) := by decide +kernel
theorem q_L_law_435 : decode m_L_law.2.1 435 = .ok (.iload_n 3, 1) := by decide +kernel
theorem q_L_law_436 : decode m_L_law.2.1 436 = .ok (.iconst 4, 1) := by decide +kernel
theorem q_L_law_437 : decode m_L_law.2.1 437 = .ok (.iadd, 1) := by decide +kernel
theorem q_L_law_438 : decode m_L_law.2.1 438 = .ok (.iaload, 1) := by decide +kernel
theorem q_L_law_439 : decode m_L_law.2.1 439 = .ok (.i2l, 1) := by decide +kernel
theorem q_L_law_440 : decode m_L_law.2.1 440 = .ok (.ldc2_w 26, 3) := by decide +kernel
theorem q_L_law_443 : decode m_L_law.2.1 443 = .ok (.land, 1) := by decide +kernel
theorem q_L_law_444 : decode m_L_law.2.1 444 = .ok (.lor, 1) := by decide +kernel
theorem q_L_law_445 : decode m_L_law.2.1 445 = .ok (.invokevirtual 47, 3) := by decide +kernel
theorem q_L_law_448 : decode m_L_law.2.1 448 = .ok (.if_icmp .eq 617, 3) := by decide +kernel
theorem q_L_law_451 : decode m_L_law.2.1 451 = .ok (.iconst 0, 1) := by decide +kernel
theorem q_L_law_452 : decode m_L_law.2.1 452 = .ok (.ireturn, 1) := by decide +kernel
theorem q_L_law_453 : decode m_L_law.2.1 453 = .ok (.aload_n 1, 1) := by decide +kernel
theorem q_L_law_454 : decode m_L_law.2.1 454 = .ok (.aload_n 0, 1) := by decide +kernel
theorem q_L_law_455 : decode m_L_law.2.1 455 = .ok (.iload_n 3, 1) := by decide +kernel
theorem q_L_law_456 : decode m_L_law.2.1 456 = .ok (.iconst 1, 1) := by decide +kernel
theorem q_L_law_457 : decode m_L_law.2.1 457 = .ok (.iadd, 1) := by decide +kernel
theorem q_L_law_458 : decode m_L_law.2.1 458 = .ok (.iaload, 1) := by decide +kernel
theorem q_L_law_459 : decode m_L_law.2.1 459 = .ok (.aload_n 0, 1) := by decide +kernel
theorem q_L_law_460 : decode m_L_law.2.1 460 = .ok (.iload_n 3, 1) := by decide +kernel
theorem q_L_law_461 : decode m_L_law.2.1 461 = .ok (.iconst 2, 1) := by decide +kernel
theorem q_L_law_462 : decode m_L_law.2.1 462 = .ok (.iadd, 1) := by decide +kernel
theorem q_L_law_463 : decode m_L_law.2.1 463 = .ok (.iaload, 1) := by decide +kernel
theorem q_L_law_464 : decode m_L_law.2.1 464 = .ok (.invokevirtual 48, 3) := by decide +kernel
theorem q_L_law_467 : decode m_L_law.2.1 467 = .ok (.aload_n 2, 1) := by decide +kernel
theorem q_L_law_468 : decode m_L_law.2.1 468 = .ok (.aload_n 0, 1) := by decide +kernel
theorem q_L_law_469 : decode m_L_law.2.1 469 = .ok (.iload_n 3, 1) := by decide +kernel
theorem q_L_law_470 : decode m_L_law.2.1 470 = .ok (.iconst 1, 1) := by decide +kernel
theorem q_L_law_471 : decode m_L_law.2.1 471 = .ok (.iadd, 1) := by decide +kernel
theorem q_L_law_472 : decode m_L_law.2.1 472 = .ok (.iaload, 1) := by decide +kernel
theorem q_L_law_473 : decode m_L_law.2.1 473 = .ok (.aload_n 0, 1) := by decide +kernel
theorem q_L_law_474 : decode m_L_law.2.1 474 = .ok (.iload_n 3, 1) := by decide +kernel
theorem q_L_law_475 : decode m_L_law.2.1 475 = .ok (.iconst 2, 1) := by decide +kernel
theorem q_L_law_476 : decode m_L_law.2.1 476 = .ok (.iadd, 1) := by decide +kernel
theorem q_L_law_477 : decode m_L_law.2.1 477 = .ok (.iaload, 1) := by decide +kernel
theorem q_L_law_478 : decode m_L_law.2.1 478 = .ok (.invokevirtual 52, 3) := by decide +kernel
theorem q_L_law_481 : decode m_L_law.2.1 481 = .ok (.if_icmp .eq 584, 3) := by decide +kernel
theorem q_L_law_484 : decode m_L_law.2.1 484 = .ok (.iconst 0, 1) := by decide +kernel
theorem q_L_law_485 : decode m_L_law.2.1 485 = .ok (.ireturn, 1) := by decide +kernel
theorem q_L_law_486 : decode m_L_law.2.1 486 = .ok (.aload_n 1, 1) := by decide +kernel
theorem q_L_law_487 : decode m_L_law.2.1 487 = .ok (.aload_n 0, 1) := by decide +kernel
theorem q_L_law_488 : decode m_L_law.2.1 488 = .ok (.iload_n 3, 1) := by decide +kernel
theorem q_L_law_489 : decode m_L_law.2.1 489 = .ok (.iconst 1, 1) := by decide +kernel
theorem q_L_law_490 : decode m_L_law.2.1 490 = .ok (.iadd, 1) := by decide +kernel
theorem q_L_law_491 : decode m_L_law.2.1 491 = .ok (.iaload, 1) := by decide +kernel
theorem q_L_law_492 : decode m_L_law.2.1 492 = .ok (.i2l, 1) := by decide +kernel
theorem q_L_law_493 : decode m_L_law.2.1 493 = .ok (.bipush 32, 2) := by decide +kernel
theorem q_L_law_495 : decode m_L_law.2.1 495 = .ok (.lshl, 1) := by decide +kernel
theorem q_L_law_496 : decode m_L_law.2.1 496 = .ok (.aload_n 0, 1) := by decide +kernel
theorem q_L_law_497 : decode m_L_law.2.1 497 = .ok (.iload_n 3, 1) := by decide +kernel
theorem q_L_law_498 : decode m_L_law.2.1 498 = .ok (.iconst 2, 1) := by decide +kernel
theorem q_L_law_499 : decode m_L_law.2.1 499 = .ok (.iadd, 1) := by decide +kernel
theorem q_L_law_500 : decode m_L_law.2.1 500 = .ok (.iaload, 1) := by decide +kernel
theorem q_L_law_501 : decode m_L_law.2.1 501 = .ok (.i2l, 1) := by decide +kernel
theorem q_L_law_502 : decode m_L_law.2.1 502 = .ok (.ldc2_w 26, 3) := by decide +kernel
theorem q_L_law_505 : decode m_L_law.2.1 505 = .ok (.land, 1) := by decide +kernel
theorem q_L_law_506 : decode m_L_law.2.1 506 = .ok (.lor, 1) := by decide +kernel
theorem q_L_law_507 : decode m_L_law.2.1 507 = .ok (.invokevirtual 53, 3) := by decide +kernel
theorem q_L_law_510 : decode m_L_law.2.1 510 = .ok (.aload_n 2, 1) := by decide +kernel
theorem q_L_law_511 : decode m_L_law.2.1 511 = .ok (.aload_n 0, 1) := by decide +kernel
theorem q_L_law_512 : decode m_L_law.2.1 512 = .ok (.iload_n 3, 1) := by decide +kernel
theorem q_L_law_513 : decode m_L_law.2.1 513 = .ok (.iconst 1, 1) := by decide +kernel
theorem q_L_law_514 : decode m_L_law.2.1 514 = .ok (.iadd, 1) := by decide +kernel
theorem q_L_law_515 : decode m_L_law.2.1 515 = .ok (.iaload, 1) := by decide +kernel
theorem q_L_law_516 : decode m_L_law.2.1 516 = .ok (.i2l, 1) := by decide +kernel
theorem q_L_law_517 : decode m_L_law.2.1 517 = .ok (.bipush 32, 2) := by decide +kernel
theorem q_L_law_519 : decode m_L_law.2.1 519 = .ok (.lshl, 1) := by decide +kernel
theorem q_L_law_520 : decode m_L_law.2.1 520 = .ok (.aload_n 0, 1) := by decide +kernel
theorem q_L_law_521 : decode m_L_law.2.1 521 = .ok (.iload_n 3, 1) := by decide +kernel
theorem q_L_law_522 : decode m_L_law.2.1 522 = .ok (.iconst 2, 1) := by decide +kernel
theorem q_L_law_523 : decode m_L_law.2.1 523 = .ok (.iadd, 1) := by decide +kernel
theorem q_L_law_524 : decode m_L_law.2.1 524 = .ok (.iaload, 1) := by decide +kernel
theorem q_L_law_525 : decode m_L_law.2.1 525 = .ok (.i2l, 1) := by decide +kernel
theorem q_L_law_526 : decode m_L_law.2.1 526 = .ok (.ldc2_w 26, 3) := by decide +kernel
theorem q_L_law_529 : decode m_L_law.2.1 529 = .ok (.land, 1) := by decide +kernel
theorem q_L_law_530 : decode m_L_law.2.1 530 = .ok (.lor, 1) := by decide +kernel
theorem q_L_law_531 : decode m_L_law.2.1 531 = .ok (.invokevirtual 57, 3) := by decide +kernel
theorem q_L_law_534 : decode m_L_law.2.1 534 = .ok (.if_icmp .eq 531, 3) := by decide +kernel
theorem q_L_law_537 : decode m_L_law.2.1 537 = .ok (.iconst 0, 1) := by decide +kernel
theorem q_L_law_538 : decode m_L_law.2.1 538 = .ok (.ireturn, 1) := by decide +kernel
theorem q_L_law_539 : decode m_L_law.2.1 539 = .ok (.aload_n 1, 1) := by decide +kernel
theorem q_L_law_540 : decode m_L_law.2.1 540 = .ok (.aload_n 0, 1) := by decide +kernel
theorem q_L_law_541 : decode m_L_law.2.1 541 = .ok (.iload_n 3, 1) := by decide +kernel
theorem q_L_law_542 : decode m_L_law.2.1 542 = .ok (.iconst 1, 1) := by decide +kernel
theorem q_L_law_543 : decode m_L_law.2.1 543 = .ok (.iadd, 1) := by decide +kernel
theorem q_L_law_544 : decode m_L_law.2.1 544 = .ok (.iaload, 1) := by decide +kernel
theorem q_L_law_545 : decode m_L_law.2.1 545 = .ok (.i2l, 1) := by decide +kernel
theorem q_L_law_546 : decode m_L_law.2.1 546 = .ok (.bipush 32, 2) := by decide +kernel
theorem q_L_law_548 : decode m_L_law.2.1 548 = .ok (.lshl, 1) := by decide +kernel
theorem q_L_law_549 : decode m_L_law.2.1 549 = .ok (.aload_n 0, 1) := by decide +kernel
theorem q_L_law_550 : decode m_L_law.2.1 550 = .ok (.iload_n 3, 1) := by decide +kernel
theorem q_L_law_551 : decode m_L_law.2.1 551 = .ok (.iconst 2, 1) := by decide +kernel
theorem q_L_law_552 : decode m_L_law.2.1 552 = .ok (.iadd, 1) := by decide +kernel
theorem q_L_law_553 : decode m_L_law.2.1 553 = .ok (.iaload, 1) := by decide +kernel
theorem q_L_law_554 : decode m_L_law.2.1 554 = .ok (.i2l, 1) := by decide +kernel
theorem q_L_law_555 : decode m_L_law.2.1 555 = .ok (.ldc2_w 26, 3) := by decide +kernel
theorem q_L_law_558 : decode m_L_law.2.1 558 = .ok (.land, 1) := by decide +kernel
theorem q_L_law_559 : decode m_L_law.2.1 559 = .ok (.lor, 1) := by decide +kernel
theorem q_L_law_560 : decode m_L_law.2.1 560 = .ok (.invokevirtual 58, 3) := by decide +kernel
theorem q_L_law_563 : decode m_L_law.2.1 563 = .ok (.aload_n 2, 1) := by decide +kernel
theorem q_L_law_564 : decode m_L_law.2.1 564 = .ok (.aload_n 0, 1) := by decide +kernel
theorem q_L_law_565 : decode m_L_law.2.1 565 = .ok (.iload_n 3, 1) := by decide +kernel
theorem q_L_law_566 : decode m_L_law.2.1 566 = .ok (.iconst 1, 1) := by decide +kernel
theorem q_L_law_567 : decode m_L_law.2.1 567 = .ok (.iadd, 1) := by decide +kernel
theorem q_L_law_568 : decode m_L_law.2.1 568 = .ok (.iaload, 1) := by decide +kernel
theorem q_L_law_569 : decode m_L_law.2.1 569 = .ok (.i2l, 1) := by decide +kernel
theorem q_L_law_570 : decode m_L_law.2.1 570 = .ok (.bipush 32, 2) := by decide +kernel
theorem q_L_law_572 : decode m_L_law.2.1 572 = .ok (.lshl, 1) := by decide +kernel
theorem q_L_law_573 : decode m_L_law.2.1 573 = .ok (.aload_n 0, 1) := by decide +kernel
theorem q_L_law_574 : decode m_L_law.2.1 574 = .ok (.iload_n 3, 1) := by decide +kernel
theorem q_L_law_575 : decode m_L_law.2.1 575 = .ok (.iconst 2, 1) := by decide +kernel
theorem q_L_law_576 : decode m_L_law.2.1 576 = .ok (.iadd, 1) := by decide +kernel
theorem q_L_law_577 : decode m_L_law.2.1 577 = .ok (.iaload, 1) := by decide +kernel
theorem q_L_law_578 : decode m_L_law.2.1 578 = .ok (.i2l, 1) := by decide +kernel
theorem q_L_law_579 : decode m_L_law.2.1 579 = .ok (.ldc2_w 26, 3) := by decide +kernel
theorem q_L_law_582 : decode m_L_law.2.1 582 = .ok (.land, 1) := by decide +kernel
theorem q_L_law_583 : decode m_L_law.2.1 583 = .ok (.lor, 1) := by decide +kernel
theorem q_L_law_584 : decode m_L_law.2.1 584 = .ok (.invokevirtual 62, 3) := by decide +kernel
theorem q_L_law_587 : decode m_L_law.2.1 587 = .ok (.if_icmp .eq 478, 3) := by decide +kernel
theorem q_L_law_590 : decode m_L_law.2.1 590 = .ok (.iconst 0, 1) := by decide +kernel
theorem q_L_law_591 : decode m_L_law.2.1 591 = .ok (.ireturn, 1) := by decide +kernel
theorem q_L_law_592 : decode m_L_law.2.1 592 = .ok (.aload_n 1, 1) := by decide +kernel
theorem q_L_law_593 : decode m_L_law.2.1 593 = .ok (.aload_n 0, 1) := by decide +kernel
theorem q_L_law_594 : decode m_L_law.2.1 594 = .ok (.iload_n 3, 1) := by decide +kernel
theorem q_L_law_595 : decode m_L_law.2.1 595 = .ok (.iconst 1, 1) := by decide +kernel
theorem q_L_law_596 : decode m_L_law.2.1 596 = .ok (.iadd, 1) := by decide +kernel
theorem q_L_law_597 : decode m_L_law.2.1 597 = .ok (.iaload, 1) := by decide +kernel
theorem q_L_law_598 : decode m_L_law.2.1 598 = .ok (.invokevirtual 63, 3) := by decide +kernel
theorem q_L_law_601 : decode m_L_law.2.1 601 = .ok (.aload_n 2, 1) := by decide +kernel
theorem q_L_law_602 : decode m_L_law.2.1 602 = .ok (.aload_n 0, 1) := by decide +kernel
theorem q_L_law_603 : decode m_L_law.2.1 603 = .ok (.iload_n 3, 1) := by decide +kernel
theorem q_L_law_604 : decode m_L_law.2.1 604 = .ok (.iconst 1, 1) := by decide +kernel
theorem q_L_law_605 : decode m_L_law.2.1 605 = .ok (.iadd, 1) := by decide +kernel
end
section
theorem q_L_law_606 : decode m_L_law.2.1 606 = .ok (.iaload, 1) := by decide +kernel
theorem q_L_law_607 : decode m_L_law.2.1 607 = .ok (.invokevirtual 66, 3) := by decide +kernel
theorem q_L_law_610 : decode m_L_law.2.1 610 = .ok (.if_icmp .eq 455, 3) := by decide +kernel
theorem q_L_law_613 : decode m_L_law.2.1 613 = .ok (.iconst 0, 1) := by decide +kernel
theorem q_L_law_614 : decode m_L_law.2.1 614 = .ok (.ireturn, 1) := by decide +kernel
theorem q_L_law_615 : decode m_L_law.2.1 615 = .ok (.aload_n 1, 1) := by decide +kernel
theorem q_L_law_616 : decode m_L_law.2.1 616 = .ok (.invokevirtual 67, 3) := by decide +kernel
theorem q_L_law_619 : decode m_L_law.2.1 619 = .ok (.aload_n 2, 1) := by decide +kernel
theorem q_L_law_620 : decode m_L_law.2.1 620 = .ok (.invokevirtual 71, 3) := by decide +kernel
theorem q_L_law_623 : decode m_L_law.2.1 623 = .ok (.lcmp, 1) := by decide +kernel
theorem q_L_law_624 : decode m_L_law.2.1 624 = .ok (.ifCond .eq 441, 3) := by decide +kernel
theorem q_L_law_627 : decode m_L_law.2.1 627 = .ok (.iconst 0, 1) := by decide +kernel
theorem q_L_law_628 : decode m_L_law.2.1 628 = .ok (.ireturn, 1) := by decide +kernel
theorem q_L_law_629 : decode m_L_law.2.1 629 = .ok (.aload_n 1, 1) := by decide +kernel
theorem q_L_law_630 : decode m_L_law.2.1 630 = .ok (.aload_n 0, 1) := by decide +kernel
theorem q_L_law_631 : decode m_L_law.2.1 631 = .ok (.iload_n 3, 1) := by decide +kernel
theorem q_L_law_632 : decode m_L_law.2.1 632 = .ok (.iconst 1, 1) := by decide +kernel
theorem q_L_law_633 : decode m_L_law.2.1 633 = .ok (.iadd, 1) := by decide +kernel
theorem q_L_law_634 : decode m_L_law.2.1 634 = .ok (.iaload, 1) := by decide +kernel
theorem q_L_law_635 : decode m_L_law.2.1 635 = .ok (.invokevirtual 72, 3) := by decide +kernel
theorem q_L_law_638 : decode m_L_law.2.1 638 = .ok (.aload_n 2, 1) := by decide +kernel
theorem q_L_law_639 : decode m_L_law.2.1 639 = .ok (.aload_n 0, 1) := by decide +kernel
theorem q_L_law_640 : decode m_L_law.2.1 640 = .ok (.iload_n 3, 1) := by decide +kernel
theorem q_L_law_641 : decode m_L_law.2.1 641 = .ok (.iconst 1, 1) := by decide +kernel
theorem q_L_law_642 : decode m_L_law.2.1 642 = .ok (.iadd, 1) := by decide +kernel
theorem q_L_law_643 : decode m_L_law.2.1 643 = .ok (.iaload, 1) := by decide +kernel
theorem q_L_law_644 : decode m_L_law.2.1 644 = .ok (.invokevirtual 76, 3) := by decide +kernel
theorem q_L_law_647 : decode m_L_law.2.1 647 = .ok (.lcmp, 1) := by decide +kernel
theorem q_L_law_648 : decode m_L_law.2.1 648 = .ok (.ifCond .eq 417, 3) := by decide +kernel
theorem q_L_law_651 : decode m_L_law.2.1 651 = .ok (.iconst 0, 1) := by decide +kernel
theorem q_L_law_652 : decode m_L_law.2.1 652 = .ok (.ireturn, 1) := by decide +kernel
theorem q_L_law_653 : decode m_L_law.2.1 653 = .ok (.aload_n 1, 1) := by decide +kernel
theorem q_L_law_654 : decode m_L_law.2.1 654 = .ok (.aload_n 0, 1) := by decide +kernel
theorem q_L_law_655 : decode m_L_law.2.1 655 = .ok (.iload_n 3, 1) := by decide +kernel
theorem q_L_law_656 : decode m_L_law.2.1 656 = .ok (.iconst 1, 1) := by decide +kernel
theorem q_L_law_657 : decode m_L_law.2.1 657 = .ok (.iadd, 1) := by decide +kernel
theorem q_L_law_658 : decode m_L_law.2.1 658 = .ok (.iaload, 1) := by decide +kernel
theorem q_L_law_659 : decode m_L_law.2.1 659 = .ok (.invokevirtual 77, 3) := by decide +kernel
theorem q_L_law_662 : decode m_L_law.2.1 662 = .ok (.aload_n 2, 1) := by decide +kernel
theorem q_L_law_663 : decode m_L_law.2.1 663 = .ok (.aload_n 0, 1) := by decide +kernel
theorem q_L_law_664 : decode m_L_law.2.1 664 = .ok (.iload_n 3, 1) := by decide +kernel
theorem q_L_law_665 : decode m_L_law.2.1 665 = .ok (.iconst 1, 1) := by decide +kernel
theorem q_L_law_666 : decode m_L_law.2.1 666 = .ok (.iadd, 1) := by decide +kernel
theorem q_L_law_667 : decode m_L_law.2.1 667 = .ok (.iaload, 1) := by decide +kernel
theorem q_L_law_668 : decode m_L_law.2.1 668 = .ok (.invokevirtual 80, 3) := by decide +kernel
theorem q_L_law_671 : decode m_L_law.2.1 671 = .ok (.if_icmp .eq 394, 3) := by decide +kernel
theorem q_L_law_674 : decode m_L_law.2.1 674 = .ok (.iconst 0, 1) := by decide +kernel
theorem q_L_law_675 : decode m_L_law.2.1 675 = .ok (.ireturn, 1) := by decide +kernel
theorem q_L_law_676 : decode m_L_law.2.1 676 = .ok (.aload_n 1, 1) := by decide +kernel
theorem q_L_law_677 : decode m_L_law.2.1 677 = .ok (.invokevirtual 81, 3) := by decide +kernel
theorem q_L_law_680 : decode m_L_law.2.1 680 = .ok (.aload_n 2, 1) := by decide +kernel
theorem q_L_law_681 : decode m_L_law.2.1 681 = .ok (.invokevirtual 85, 3) := by decide +kernel
theorem q_L_law_684 : decode m_L_law.2.1 684 = .ok (.if_icmp .eq 381, 3) := by decide +kernel
theorem q_L_law_687 : decode m_L_law.2.1 687 = .ok (.iconst 0, 1) := by decide +kernel
theorem q_L_law_688 : decode m_L_law.2.1 688 = .ok (.ireturn, 1) := by decide +kernel
theorem q_L_law_689 : decode m_L_law.2.1 689 = .ok (.aload_n 1, 1) := by decide +kernel
theorem q_L_law_690 : decode m_L_law.2.1 690 = .ok (.aload_n 0, 1) := by decide +kernel
theorem q_L_law_691 : decode m_L_law.2.1 691 = .ok (.iload_n 3, 1) := by decide +kernel
theorem q_L_law_692 : decode m_L_law.2.1 692 = .ok (.iconst 1, 1) := by decide +kernel
theorem q_L_law_693 : decode m_L_law.2.1 693 = .ok (.iadd, 1) := by decide +kernel
theorem q_L_law_694 : decode m_L_law.2.1 694 = .ok (.iaload, 1) := by decide +kernel
theorem q_L_law_695 : decode m_L_law.2.1 695 = .ok (.aload_n 0, 1) := by decide +kernel
theorem q_L_law_696 : decode m_L_law.2.1 696 = .ok (.iload_n 3, 1) := by decide +kernel
theorem q_L_law_697 : decode m_L_law.2.1 697 = .ok (.iconst 2, 1) := by decide +kernel
theorem q_L_law_698 : decode m_L_law.2.1 698 = .ok (.iadd, 1) := by decide +kernel
theorem q_L_law_699 : decode m_L_law.2.1 699 = .ok (.iaload, 1) := by decide +kernel
theorem q_L_law_700 : decode m_L_law.2.1 700 = .ok (.invokevirtual 86, 3) := by decide +kernel
theorem q_L_law_703 : decode m_L_law.2.1 703 = .ok (.aload_n 2, 1) := by decide +kernel
theorem q_L_law_704 : decode m_L_law.2.1 704 = .ok (.aload_n 0, 1) := by decide +kernel
theorem q_L_law_705 : decode m_L_law.2.1 705 = .ok (.iload_n 3, 1) := by decide +kernel
theorem q_L_law_706 : decode m_L_law.2.1 706 = .ok (.iconst 1, 1) := by decide +kernel
theorem q_L_law_707 : decode m_L_law.2.1 707 = .ok (.iadd, 1) := by decide +kernel
theorem q_L_law_708 : decode m_L_law.2.1 708 = .ok (.iaload, 1) := by decide +kernel
theorem q_L_law_709 : decode m_L_law.2.1 709 = .ok (.aload_n 0, 1) := by decide +kernel
theorem q_L_law_710 : decode m_L_law.2.1 710 = .ok (.iload_n 3, 1) := by decide +kernel
theorem q_L_law_711 : decode m_L_law.2.1 711 = .ok (.iconst 2, 1) := by decide +kernel
theorem q_L_law_712 : decode m_L_law.2.1 712 = .ok (.iadd, 1) := by decide +kernel
theorem q_L_law_713 : decode m_L_law.2.1 713 = .ok (.iaload, 1) := by decide +kernel
theorem q_L_law_714 : decode m_L_law.2.1 714 = .ok (.invokevirtual 90, 3) := by decide +kernel
theorem q_L_law_717 : decode m_L_law.2.1 717 = .ok (.lcmp, 1) := by decide +kernel
theorem q_L_law_718 : decode m_L_law.2.1 718 = .ok (.ifCond .eq 347, 3) := by decide +kernel
theorem q_L_law_721 : decode m_L_law.2.1 721 = .ok (.iconst 0, 1) := by decide +kernel
theorem q_L_law_722 : decode m_L_law.2.1 722 = .ok (.ireturn, 1) := by decide +kernel
theorem q_L_law_723 : decode m_L_law.2.1 723 = .ok (.aload_n 1, 1) := by decide +kernel
theorem q_L_law_724 : decode m_L_law.2.1 724 = .ok (.aload_n 0, 1) := by decide +kernel
theorem q_L_law_725 : decode m_L_law.2.1 725 = .ok (.iload_n 3, 1) := by decide +kernel
theorem q_L_law_726 : decode m_L_law.2.1 726 = .ok (.iconst 1, 1) := by decide +kernel
theorem q_L_law_727 : decode m_L_law.2.1 727 = .ok (.iadd, 1) := by decide +kernel
theorem q_L_law_728 : decode m_L_law.2.1 728 = .ok (.iaload, 1) := by decide +kernel
theorem q_L_law_729 : decode m_L_law.2.1 729 = .ok (.aload_n 0, 1) := by decide +kernel
theorem q_L_law_730 : decode m_L_law.2.1 730 = .ok (.iload_n 3, 1) := by decide +kernel
theorem q_L_law_731 : decode m_L_law.2.1 731 = .ok (.iconst 2, 1) := by decide +kernel
theorem q_L_law_732 : decode m_L_law.2.1 732 = .ok (.iadd, 1) := by decide +kernel
theorem q_L_law_733 : decode m_L_law.2.1 733 = .ok (.iaload, 1) := by decide +kernel
theorem q_L_law_734 : decode m_L_law.2.1 734 = .ok (.ifCond .eq 7, 3) := by decide +kernel
theorem q_L_law_737 : decode m_L_law.2.1 737 = .ok (.iconst 1, 1) := by decide +kernel
theorem q_L_law_738 : decode m_L_law.2.1 738 = .ok (.goto 4, 3) := by decide +kernel
theorem q_L_law_741 : decode m_L_law.2.1 741 = .ok (.iconst 0, 1) := by decide +kernel
theorem q_L_law_742 : decode m_L_law.2.1 742 = .ok (.invokevirtual 91, 3) := by decide +kernel
theorem q_L_law_745 : decode m_L_law.2.1 745 = .ok (.aload_n 2, 1) := by decide +kernel
theorem q_L_law_746 : decode m_L_law.2.1 746 = .ok (.aload_n 0, 1) := by decide +kernel
theorem q_L_law_747 : decode m_L_law.2.1 747 = .ok (.iload_n 3, 1) := by decide +kernel
theorem q_L_law_748 : decode m_L_law.2.1 748 = .ok (.iconst 1, 1) := by decide +kernel
theorem q_L_law_749 : decode m_L_law.2.1 749 = .ok (.iadd, 1) := by decide +kernel
theorem q_L_law_750 : decode m_L_law.2.1 750 = .ok (.iaload, 1) := by decide +kernel
theorem q_L_law_751 : decode m_L_law.2.1 751 = .ok (.aload_n 0, 1) := by decide +kernel
theorem q_L_law_752 : decode m_L_law.2.1 752 = .ok (.iload_n 3, 1) := by decide +kernel
theorem q_L_law_753 : decode m_L_law.2.1 753 = .ok (.iconst 2, 1) := by decide +kernel
theorem q_L_law_754 : decode m_L_law.2.1 754 = .ok (.iadd, 1) := by decide +kernel
theorem q_L_law_755 : decode m_L_law.2.1 755 = .ok (.iaload, 1) := by decide +kernel
theorem q_L_law_756 : decode m_L_law.2.1 756 = .ok (.ifCond .eq 7, 3) := by decide +kernel
theorem q_L_law_759 : decode m_L_law.2.1 759 = .ok (.iconst 1, 1) := by decide +kernel
theorem q_L_law_760 : decode m_L_law.2.1 760 = .ok (.goto 4, 3) := by decide +kernel
theorem q_L_law_763 : decode m_L_law.2.1 763 = .ok (.iconst 0, 1) := by decide +kernel
theorem q_L_law_764 : decode m_L_law.2.1 764 = .ok (.invokevirtual 95, 3) := by decide +kernel
theorem q_L_law_767 : decode m_L_law.2.1 767 = .ok (.if_icmp .eq 298, 3) := by decide +kernel
theorem q_L_law_770 : decode m_L_law.2.1 770 = .ok (.iconst 0, 1) := by decide +kernel
theorem q_L_law_771 : decode m_L_law.2.1 771 = .ok (.ireturn, 1) := by decide +kernel
theorem q_L_law_772 : decode m_L_law.2.1 772 = .ok (.aload_n 1, 1) := by decide +kernel
theorem q_L_law_773 : decode m_L_law.2.1 773 = .ok (.aload_n 0, 1) := by decide +kernel
theorem q_L_law_774 : decode m_L_law.2.1 774 = .ok (.iload_n 3, 1) := by decide +kernel
theorem q_L_law_775 : decode m_L_law.2.1 775 = .ok (.iconst 1, 1) := by decide +kernel
theorem q_L_law_776 : decode m_L_law.2.1 776 = .ok (.iadd, 1) := by decide +kernel
theorem q_L_law_777 : decode m_L_law.2.1 777 = .ok (.iaload, 1) := by decide +kernel
theorem q_L_law_778 : decode m_L_law.2.1 778 = .ok (.i2l, 1) := by decide +kernel
theorem q_L_law_779 : decode m_L_law.2.1 779 = .ok (.bipush 32, 2) := by decide +kernel
theorem q_L_law_781 : decode m_L_law.2.1 781 = .ok (.lshl, 1) := by decide +kernel
theorem q_L_law_782 : decode m_L_law.2.1 782 = .ok (.aload_n 0, 1) := by decide +kernel
theorem q_L_law_783 : decode m_L_law.2.1 783 = .ok (.iload_n 3, 1) := by decide +kernel
theorem q_L_law_784 : decode m_L_law.2.1 784 = .ok (.iconst 2, 1) := by decide +kernel
theorem q_L_law_785 : decode m_L_law.2.1 785 = .ok (.iadd, 1) := by decide +kernel
theorem q_L_law_786 : decode m_L_law.2.1 786 = .ok (.iaload, 1) := by decide +kernel
theorem q_L_law_787 : decode m_L_law.2.1 787 = .ok (.i2l, 1) := by decide +kernel
theorem q_L_law_788 : decode m_L_law.2.1 788 = .ok (.ldc2_w 26, 3) := by decide +kernel
theorem q_L_law_791 : decode m_L_law.2.1 791 = .ok (.land, 1) := by decide +kernel
theorem q_L_law_792 : decode m_L_law.2.1 792 = .ok (.lor, 1) := by decide +kernel
theorem q_L_law_793 : decode m_L_law.2.1 793 = .ok (.invokevirtual 96, 3) := by decide +kernel
theorem q_L_law_796 : decode m_L_law.2.1 796 = .ok (.aload_n 2, 1) := by decide +kernel
theorem q_L_law_797 : decode m_L_law.2.1 797 = .ok (.aload_n 0, 1) := by decide +kernel
theorem q_L_law_798 : decode m_L_law.2.1 798 = .ok (.iload_n 3, 1) := by decide +kernel
theorem q_L_law_799 : decode m_L_law.2.1 799 = .ok (.iconst 1, 1) := by decide +kernel
theorem q_L_law_800 : decode m_L_law.2.1 800 = .ok (.iadd, 1) := by decide +kernel
theorem q_L_law_801 : decode m_L_law.2.1 801 = .ok (.iaload, 1) := by decide +kernel
theorem q_L_law_802 : decode m_L_law.2.1 802 = .ok (.i2l, 1) := by decide +kernel
theorem q_L_law_803 : decode m_L_law.2.1 803 = .ok (.bipush 32, 2) := by decide +kernel
theorem q_L_law_805 : decode m_L_law.2.1 805 = .ok (.lshl, 1) := by decide +kernel
theorem q_L_law_806 : decode m_L_law.2.1 806 = .ok (.aload_n 0, 1) := by decide +kernel
theorem q_L_law_807 : decode m_L_law.2.1 807 = .ok (.iload_n 3, 1) := by decide +kernel
theorem q_L_law_808 : decode m_L_law.2.1 808 = .ok (.iconst 2, 1) := by decide +kernel
theorem q_L_law_809 : decode m_L_law.2.1 809 = .ok (.iadd, 1) := by decide +kernel
theorem q_L_law_810 : decode m_L_law.2.1 810 = .ok (.iaload, 1) := by decide +kernel
theorem q_L_law_811 : decode m_L_law.2.1 811 = .ok (.i2l, 1) := by decide +kernel
theorem q_L_law_812 : decode m_L_law.2.1 812 = .ok (.ldc2_w 26, 3) := by decide +kernel
theorem q_L_law_815 : decode m_L_law.2.1 815 = .ok (.land, 1) := by decide +kernel
theorem q_L_law_816 : decode m_L_law.2.1 816 = .ok (.lor, 1) := by decide +kernel
theorem q_L_law_817 : decode m_L_law.2.1 817 = .ok (.invokevirtual 99, 3) := by decide +kernel
theorem q_L_law_820 : decode m_L_law.2.1 820 = .ok (.if_icmp .eq 245, 3) := by decide +kernel
theorem q_L_law_823 : decode m_L_law.2.1 823 = .ok (.iconst 0, 1) := by decide +kernel
theorem q_L_law_824 : decode m_L_law.2.1 824 = .ok (.ireturn, 1) := by decide +kernel
theorem q_L_law_825 : decode m_L_law.2.1 825 = .ok (.aload_n 1, 1) := by decide +kernel
theorem q_L_law_826 : decode m_L_law.2.1 826 = .ok (.aload_n 0, 1) := by decide +kernel
theorem q_L_law_827 : decode m_L_law.2.1 827 = .ok (.iload_n 3, 1) := by decide +kernel
theorem q_L_law_828 : decode m_L_law.2.1 828 = .ok (.iconst 1, 1) := by decide +kernel
theorem q_L_law_829 : decode m_L_law.2.1 829 = .ok (.iadd, 1) := by decide +kernel
theorem q_L_law_830 : decode m_L_law.2.1 830 = .ok (.iaload, 1) := by decide +kernel
theorem q_L_law_831 : decode m_L_law.2.1 831 = .ok (.invokevirtual 100, 3) := by decide +kernel
theorem q_L_law_834 : decode m_L_law.2.1 834 = .ok (.aload_n 2, 1) := by decide +kernel
theorem q_L_law_835 : decode m_L_law.2.1 835 = .ok (.aload_n 0, 1) := by decide +kernel
theorem q_L_law_836 : decode m_L_law.2.1 836 = .ok (.iload_n 3, 1) := by decide +kernel
theorem q_L_law_837 : decode m_L_law.2.1 837 = .ok (.iconst 1, 1) := by decide +kernel
theorem q_L_law_838 : decode m_L_law.2.1 838 = .ok (.iadd, 1) := by decide +kernel
theorem q_L_law_839 : decode m_L_law.2.1 839 = .ok (.iaload, 1) := by decide +kernel
theorem q_L_law_840 : decode m_L_law.2.1 840 = .ok (.invokevirtual 103, 3) := by decide +kernel
theorem q_L_law_843 : decode m_L_law.2.1 843 = .ok (.if_icmp .eq 222, 3) := by decide +kernel
theorem q_L_law_846 : decode m_L_law.2.1 846 = .ok (.iconst 0, 1) := by decide +kernel
theorem q_L_law_847 : decode m_L_law.2.1 847 = .ok (.ireturn, 1) := by decide +kernel
theorem q_L_law_848 : decode m_L_law.2.1 848 = .ok (.aload_n 1, 1) := by decide +kernel
theorem q_L_law_849 : decode m_L_law.2.1 849 = .ok (.aload_n 0, 1) := by decide +kernel
theorem q_L_law_850 : decode m_L_law.2.1 850 = .ok (.iload_n 3, 1) := by decide +kernel
theorem q_L_law_851 : decode m_L_law.2.1 851 = .ok (.iconst 1, 1) := by decide +kernel
theorem q_L_law_852 : decode m_L_law.2.1 852 = .ok (.iadd, 1) := by decide +kernel
theorem q_L_law_853 : decode m_L_law.2.1 853 = .ok (.iaload, 1) := by decide +kernel
theorem q_L_law_854 : decode m_L_law.2.1 854 = .ok (.invokevirtual 104, 3) := by decide +kernel
theorem q_L_law_857 : decode m_L_law.2.1 857 = .ok (.aload_n 2, 1) := by decide +kernel
theorem q_L_law_858 : decode m_L_law.2.1 858 = .ok (.aload_n 0, 1) := by decide +kernel
theorem q_L_law_859 : decode m_L_law.2.1 859 = .ok (.iload_n 3, 1) := by decide +kernel
theorem q_L_law_860 : decode m_L_law.2.1 860 = .ok (.iconst 1, 1) := by decide +kernel
theorem q_L_law_861 : decode m_L_law.2.1 861 = .ok (.iadd, 1) := by decide +kernel
theorem q_L_law_862 : decode m_L_law.2.1 862 = .ok (.iaload, 1) := by decide +kernel
theorem q_L_law_863 : decode m_L_law.2.1 863 = .ok (.invokevirtual 107, 3) := by decide +kernel
theorem q_L_law_866 : decode m_L_law.2.1 866 = .ok (.lcmp, 1) := by decide +kernel
theorem q_L_law_867 : decode m_L_law.2.1 867 = .ok (.ifCond .eq 198, 3) := by decide +kernel
theorem q_L_law_870 : decode m_L_law.2.1 870 = .ok (.iconst 0, 1) := by decide +kernel
theorem q_L_law_871 : decode m_L_law.2.1 871 = .ok (.ireturn, 1) := by decide +kernel
theorem q_L_law_872 : decode m_L_law.2.1 872 = .ok (.aload_n 1, 1) := by decide +kernel
theorem q_L_law_873 : decode m_L_law.2.1 873 = .ok (.aload_n 0, 1) := by decide +kernel
theorem q_L_law_874 : decode m_L_law.2.1 874 = .ok (.iload_n 3, 1) := by decide +kernel
theorem q_L_law_875 : decode m_L_law.2.1 875 = .ok (.iconst 1, 1) := by decide +kernel
theorem q_L_law_876 : decode m_L_law.2.1 876 = .ok (.iadd, 1) := by decide +kernel
theorem q_L_law_877 : decode m_L_law.2.1 877 = .ok (.iaload, 1) := by decide +kernel
theorem q_L_law_878 : decode m_L_law.2.1 878 = .ok (.invokevirtual 108, 3) := by decide +kernel
theorem q_L_law_881 : decode m_L_law.2.1 881 = .ok (.aload_n 2, 1) := by decide +kernel
theorem q_L_law_882 : decode m_L_law.2.1 882 = .ok (.aload_n 0, 1) := by decide +kernel
theorem q_L_law_883 : decode m_L_law.2.1 883 = .ok (.iload_n 3, 1) := by decide +kernel
theorem q_L_law_884 : decode m_L_law.2.1 884 = .ok (.iconst 1, 1) := by decide +kernel
theorem q_L_law_885 : decode m_L_law.2.1 885 = .ok (.iadd, 1) := by decide +kernel
theorem q_L_law_886 : decode m_L_law.2.1 886 = .ok (.iaload, 1) := by decide +kernel
theorem q_L_law_887 : decode m_L_law.2.1 887 = .ok (.invokevirtual 111, 3) := by decide +kernel
theorem q_L_law_890 : decode m_L_law.2.1 890 = .ok (.if_icmp .eq 175, 3) := by decide +kernel
theorem q_L_law_893 : decode m_L_law.2.1 893 = .ok (.iconst 0, 1) := by decide +kernel
theorem q_L_law_894 : decode m_L_law.2.1 894 = .ok (.ireturn, 1) := by decide +kernel
theorem q_L_law_895 : decode m_L_law.2.1 895 = .ok (.aload_n 1, 1) := by decide +kernel
theorem q_L_law_896 : decode m_L_law.2.1 896 = .ok (.aload_n 0, 1) := by decide +kernel
theorem q_L_law_897 : decode m_L_law.2.1 897 = .ok (.iload_n 3, 1) := by decide +kernel
theorem q_L_law_898 : decode m_L_law.2.1 898 = .ok (.iconst 1, 1) := by decide +kernel
theorem q_L_law_899 : decode m_L_law.2.1 899 = .ok (.iadd, 1) := by decide +kernel
theorem q_L_law_900 : decode m_L_law.2.1 900 = .ok (.iaload, 1) := by decide +kernel
theorem q_L_law_901 : decode m_L_law.2.1 901 = .ok (.aload_n 0, 1) := by decide +kernel
theorem q_L_law_902 : decode m_L_law.2.1 902 = .ok (.iload_n 3, 1) := by decide +kernel
theorem q_L_law_903 : decode m_L_law.2.1 903 = .ok (.iconst 2, 1) := by decide +kernel
theorem q_L_law_904 : decode m_L_law.2.1 904 = .ok (.iadd, 1) := by decide +kernel
theorem q_L_law_905 : decode m_L_law.2.1 905 = .ok (.iaload, 1) := by decide +kernel
theorem q_L_law_906 : decode m_L_law.2.1 906 = .ok (.invokevirtual 112, 3) := by decide +kernel
theorem q_L_law_909 : decode m_L_law.2.1 909 = .ok (.aload_n 2, 1) := by decide +kernel
theorem q_L_law_910 : decode m_L_law.2.1 910 = .ok (.aload_n 0, 1) := by decide +kernel
theorem q_L_law_911 : decode m_L_law.2.1 911 = .ok (.iload_n 3, 1) := by decide +kernel
theorem q_L_law_912 : decode m_L_law.2.1 912 = .ok (.iconst 1, 1) := by decide +kernel
theorem q_L_law_913 : decode m_L_law.2.1 913 = .ok (.iadd, 1) := by decide +kernel
theorem q_L_law_914 : decode m_L_law.2.1 914 = .ok (.iaload, 1) := by decide +kernel
theorem q_L_law_915 : decode m_L_law.2.1 915 = .ok (.aload_n 0, 1) := by decide +kernel
theorem q_L_law_916 : decode m_L_law.2.1 916 = .ok (.iload_n 3, 1) := by decide +kernel
theorem q_L_law_917 : decode m_L_law.2.1 917 = .ok (.iconst 2, 1) := by decide +kernel
theorem q_L_law_918 : decode m_L_law.2.1 918 = .ok (.iadd, 1) := by decide +kernel
theorem q_L_law_919 : decode m_L_law.2.1 919 = .ok (.iaload, 1) := by decide +kernel
theorem q_L_law_920 : decode m_L_law.2.1 920 = .ok (.invokevirtual 115, 3) := by decide +kernel
theorem q_L_law_923 : decode m_L_law.2.1 923 = .ok (.lcmp, 1) := by decide +kernel
theorem q_L_law_924 : decode m_L_law.2.1 924 = .ok (.ifCond .eq 141, 3) := by decide +kernel
theorem q_L_law_927 : decode m_L_law.2.1 927 = .ok (.iconst 0, 1) := by decide +kernel
theorem q_L_law_928 : decode m_L_law.2.1 928 = .ok (.ireturn, 1) := by decide +kernel
theorem q_L_law_929 : decode m_L_law.2.1 929 = .ok (.aload_n 1, 1) := by decide +kernel
theorem q_L_law_930 : decode m_L_law.2.1 930 = .ok (.aload_n 0, 1) := by decide +kernel
theorem q_L_law_931 : decode m_L_law.2.1 931 = .ok (.iload_n 3, 1) := by decide +kernel
theorem q_L_law_932 : decode m_L_law.2.1 932 = .ok (.iconst 1, 1) := by decide +kernel
theorem q_L_law_933 : decode m_L_law.2.1 933 = .ok (.iadd, 1) := by decide +kernel
theorem q_L_law_934 : decode m_L_law.2.1 934 = .ok (.iaload, 1) := by decide +kernel
theorem q_L_law_935 : decode m_L_law.2.1 935 = .ok (.invokevirtual 116, 3) := by decide +kernel
theorem q_L_law_938 : decode m_L_law.2.1 938 = .ok (.aload_n 2, 1) := by decide +kernel
theorem q_L_law_939 : decode m_L_law.2.1 939 = .ok (.aload_n 0, 1) := by decide +kernel
theorem q_L_law_940 : decode m_L_law.2.1 940 = .ok (.iload_n 3, 1) := by decide +kernel
theorem q_L_law_941 : decode m_L_law.2.1 941 = .ok (.iconst 1, 1) := by decide +kernel
theorem q_L_law_942 : decode m_L_law.2.1 942 = .ok (.iadd, 1) := by decide +kernel
theorem q_L_law_943 : decode m_L_law.2.1 943 = .ok (.iaload, 1) := by decide +kernel
theorem q_L_law_944 : decode m_L_law.2.1 944 = .ok (.invokevirtual 119, 3) := by decide +kernel
theorem q_L_law_947 : decode m_L_law.2.1 947 = .ok (.if_icmp .eq 118, 3) := by decide +kernel
theorem q_L_law_950 : decode m_L_law.2.1 950 = .ok (.iconst 0, 1) := by decide +kernel
theorem q_L_law_951 : decode m_L_law.2.1 951 = .ok (.ireturn, 1) := by decide +kernel
theorem q_L_law_952 : decode m_L_law.2.1 952 = .ok (.aload_n 1, 1) := by decide +kernel
theorem q_L_law_953 : decode m_L_law.2.1 953 = .ok (.aload_n 0, 1) := by decide +kernel
theorem q_L_law_954 : decode m_L_law.2.1 954 = .ok (.iload_n 3, 1) := by decide +kernel
theorem q_L_law_955 : decode m_L_law.2.1 955 = .ok (.iconst 1, 1) := by decide +kernel
theorem q_L_law_956 : decode m_L_law.2.1 956 = .ok (.iadd, 1) := by decide +kernel
theorem q_L_law_957 : decode m_L_law.2.1 957 = .ok (.iaload, 1) := by decide +kernel
theorem q_L_law_958 : decode m_L_law.2.1 958 = .ok (.aload_n 0, 1) := by decide +kernel
theorem q_L_law_959 : decode m_L_law.2.1 959 = .ok (.iload_n 3, 1) := by decide +kernel
theorem q_L_law_960 : decode m_L_law.2.1 960 = .ok (.iconst 2, 1) := by decide +kernel
theorem q_L_law_961 : decode m_L_law.2.1 961 = .ok (.iadd, 1) := by decide +kernel
theorem q_L_law_962 : decode m_L_law.2.1 962 = .ok (.iaload, 1) := by decide +kernel
theorem q_L_law_963 : decode m_L_law.2.1 963 = .ok (.invokevirtual 120, 3) := by decide +kernel
theorem q_L_law_966 : decode m_L_law.2.1 966 = .ok (.aload_n 2, 1) := by decide +kernel
theorem q_L_law_967 : decode m_L_law.2.1 967 = .ok (.aload_n 0, 1) := by decide +kernel
theorem q_L_law_968 : decode m_L_law.2.1 968 = .ok (.iload_n 3, 1) := by decide +kernel
theorem q_L_law_969 : decode m_L_law.2.1 969 = .ok (.iconst 1, 1) := by decide +kernel
theorem q_L_law_970 : decode m_L_law.2.1 970 = .ok (.iadd, 1) := by decide +kernel
theorem q_L_law_971 : decode m_L_law.2.1 971 = .ok (.iaload, 1) := by decide +kernel
theorem q_L_law_972 : decode m_L_law.2.1 972 = .ok (.aload_n 0, 1) := by decide +kernel
theorem q_L_law_973 : decode m_L_law.2.1 973 = .ok (.iload_n 3, 1) := by decide +kernel
theorem q_L_law_974 : decode m_L_law.2.1 974 = .ok (.iconst 2, 1) := by decide +kernel
theorem q_L_law_975 : decode m_L_law.2.1 975 = .ok (.iadd, 1) := by decide +kernel
theorem q_L_law_976 : decode m_L_law.2.1 976 = .ok (.iaload, 1) := by decide +kernel
theorem q_L_law_977 : decode m_L_law.2.1 977 = .ok (.invokevirtual 123, 3) := by decide +kernel
theorem q_L_law_980 : decode m_L_law.2.1 980 = .ok (.lcmp, 1) := by decide +kernel
theorem q_L_law_981 : decode m_L_law.2.1 981 = .ok (.ifCond .eq 84, 3) := by decide +kernel
theorem q_L_law_984 : decode m_L_law.2.1 984 = .ok (.iconst 0, 1) := by decide +kernel
theorem q_L_law_985 : decode m_L_law.2.1 985 = .ok (.ireturn, 1) := by decide +kernel
theorem q_L_law_986 : decode m_L_law.2.1 986 = .ok (.aload_n 1, 1) := by decide +kernel
theorem q_L_law_987 : decode m_L_law.2.1 987 = .ok (.aload_n 0, 1) := by decide +kernel
theorem q_L_law_988 : decode m_L_law.2.1 988 = .ok (.iload_n 3, 1) := by decide +kernel
theorem q_L_law_989 : decode m_L_law.2.1 989 = .ok (.iconst 1, 1) := by decide +kernel
theorem q_L_law_990 : decode m_L_law.2.1 990 = .ok (.iadd, 1) := by decide +kernel
theorem q_L_law_991 : decode m_L_law.2.1 991 = .ok (.iaload, 1) := by decide +kernel
theorem q_L_law_992 : decode m_L_law.2.1 992 = .ok (.aload_n 0, 1) := by decide +kernel
theorem q_L_law_993 : decode m_L_law.2.1 993 = .ok (.iload_n 3, 1) := by decide +kernel
theorem q_L_law_994 : decode m_L_law.2.1 994 = .ok (.iconst 2, 1) := by decide +kernel
theorem q_L_law_995 : decode m_L_law.2.1 995 = .ok (.iadd, 1) := by decide +kernel
theorem q_L_law_996 : decode m_L_law.2.1 996 = .ok (.iaload, 1) := by decide +kernel
theorem q_L_law_997 : decode m_L_law.2.1 997 = .ok (.invokevirtual 124, 3) := by decide +kernel
theorem q_L_law_1000 : decode m_L_law.2.1 1000 = .ok (.aload_n 2, 1) := by decide +kernel
theorem q_L_law_1001 : decode m_L_law.2.1 1001 = .ok (.aload_n 0, 1) := by decide +kernel
theorem q_L_law_1002 : decode m_L_law.2.1 1002 = .ok (.iload_n 3, 1) := by decide +kernel
theorem q_L_law_1003 : decode m_L_law.2.1 1003 = .ok (.iconst 1, 1) := by decide +kernel
theorem q_L_law_1004 : decode m_L_law.2.1 1004 = .ok (.iadd, 1) := by decide +kernel
theorem q_L_law_1005 : decode m_L_law.2.1 1005 = .ok (.iaload, 1) := by decide +kernel
theorem q_L_law_1006 : decode m_L_law.2.1 1006 = .ok (.aload_n 0, 1) := by decide +kernel
theorem q_L_law_1007 : decode m_L_law.2.1 1007 = .ok (.iload_n 3, 1) := by decide +kernel
theorem q_L_law_1008 : decode m_L_law.2.1 1008 = .ok (.iconst 2, 1) := by decide +kernel
theorem q_L_law_1009 : decode m_L_law.2.1 1009 = .ok (.iadd, 1) := by decide +kernel
theorem q_L_law_1010 : decode m_L_law.2.1 1010 = .ok (.iaload, 1) := by decide +kernel
theorem q_L_law_1011 : decode m_L_law.2.1 1011 = .ok (.invokevirtual 128, 3) := by decide +kernel
theorem q_L_law_1014 : decode m_L_law.2.1 1014 = .ok (.if_icmp .eq 51, 3) := by decide +kernel
theorem q_L_law_1017 : decode m_L_law.2.1 1017 = .ok (.iconst 0, 1) := by decide +kernel
theorem q_L_law_1018 : decode m_L_law.2.1 1018 = .ok (.ireturn, 1) := by decide +kernel
theorem q_L_law_1019 : decode m_L_law.2.1 1019 = .ok (.aload_n 1, 1) := by decide +kernel
theorem q_L_law_1020 : decode m_L_law.2.1 1020 = .ok (.aload_n 0, 1) := by decide +kernel
theorem q_L_law_1021 : decode m_L_law.2.1 1021 = .ok (.iload_n 3, 1) := by decide +kernel
theorem q_L_law_1022 : decode m_L_law.2.1 1022 = .ok (.iconst 1, 1) := by decide +kernel
theorem q_L_law_1023 : decode m_L_law.2.1 1023 = .ok (.iadd, 1) := by decide +kernel
theorem q_L_law_1024 : decode m_L_law.2.1 1024 = .ok (.iaload, 1) := by decide +kernel
theorem q_L_law_1025 : decode m_L_law.2.1 1025 = .ok (.invokevirtual 129, 3) := by decide +kernel
theorem q_L_law_1028 : decode m_L_law.2.1 1028 = .ok (.aload_n 2, 1) := by decide +kernel
theorem q_L_law_1029 : decode m_L_law.2.1 1029 = .ok (.aload_n 0, 1) := by decide +kernel
theorem q_L_law_1030 : decode m_L_law.2.1 1030 = .ok (.iload_n 3, 1) := by decide +kernel
theorem q_L_law_1031 : decode m_L_law.2.1 1031 = .ok (.iconst 1, 1) := by decide +kernel
theorem q_L_law_1032 : decode m_L_law.2.1 1032 = .ok (.iadd, 1) := by decide +kernel
theorem q_L_law_1033 : decode m_L_law.2.1 1033 = .ok (.iaload, 1) := by decide +kernel
theorem q_L_law_1034 : decode m_L_law.2.1 1034 = .ok (.invokevirtual 132, 3) := by decide +kernel
theorem q_L_law_1037 : decode m_L_law.2.1 1037 = .ok (.if_icmp .eq 28, 3) := by decide +kernel
theorem q_L_law_1040 : decode m_L_law.2.1 1040 = .ok (.iconst 0, 1) := by decide +kernel
theorem q_L_law_1041 : decode m_L_law.2.1 1041 = .ok (.ireturn, 1) := by decide +kernel
theorem q_L_law_1042 : decode m_L_law.2.1 1042 = .ok (.aload_n 1, 1) := by decide +kernel
theorem q_L_law_1043 : decode m_L_law.2.1 1043 = .ok (.aload_n 0, 1) := by decide +kernel
theorem q_L_law_1044 : decode m_L_law.2.1 1044 = .ok (.iload_n 3, 1) := by decide +kernel
theorem q_L_law_1045 : decode m_L_law.2.1 1045 = .ok (.iconst 1, 1) := by decide +kernel
theorem q_L_law_1046 : decode m_L_law.2.1 1046 = .ok (.iadd, 1) := by decide +kernel
theorem q_L_law_1047 : decode m_L_law.2.1 1047 = .ok (.iaload, 1) := by decide +kernel
theorem q_L_law_1048 : decode m_L_law.2.1 1048 = .ok (.invokevirtual 133, 3) := by decide +kernel
theorem q_L_law_1051 : decode m_L_law.2.1 1051 = .ok (.aload_n 2, 1) := by decide +kernel
theorem q_L_law_1052 : decode m_L_law.2.1 1052 = .ok (.aload_n 0, 1) := by decide +kernel
theorem q_L_law_1053 : decode m_L_law.2.1 1053 = .ok (.iload_n 3, 1) := by decide +kernel
theorem q_L_law_1054 : decode m_L_law.2.1 1054 = .ok (.iconst 1, 1) := by decide +kernel
theorem q_L_law_1055 : decode m_L_law.2.1 1055 = .ok (.iadd, 1) := by decide +kernel
theorem q_L_law_1056 : decode m_L_law.2.1 1056 = .ok (.iaload, 1) := by decide +kernel
theorem q_L_law_1057 : decode m_L_law.2.1 1057 = .ok (.invokevirtual 136, 3) := by decide +kernel
theorem q_L_law_1060 : decode m_L_law.2.1 1060 = .ok (.if_icmp .eq 5, 3) := by decide +kernel
theorem q_L_law_1063 : decode m_L_law.2.1 1063 = .ok (.iconst 0, 1) := by decide +kernel
theorem q_L_law_1064 : decode m_L_law.2.1 1064 = .ok (.ireturn, 1) := by decide +kernel
theorem q_L_law_1065 : decode m_L_law.2.1 1065 = .ok (.iinc 3 7, 3) := by decide +kernel
theorem q_L_law_1068 : decode m_L_law.2.1 1068 = .ok (.goto (-1040), 3) := by decide +kernel
theorem q_L_law_1071 : decode m_L_law.2.1 1071 = .ok (.iconst 1, 1) := by decide +kernel
theorem q_L_law_1072 : decode m_L_law.2.1 1072 = .ok (.ireturn, 1) := by decide +kernel
end
section
/-! NUMBERS: ints by their naturals (nI), longs by their integers (lZ), booleans (zI), plans (pI), bits of masks -/
theorem am_inc (k : Nat) : nI k + Int32.ofInt 1 = nI (k + 1) := by
  rw [show Int32.ofInt 1 = (1 : Int32) from by decide]
  exact nI_1 k
theorem am_dec (k : Nat) : nI (k + 1) + Int32.ofInt (-1) = nI k := by
  rw [show Int32.ofInt (-1) = (-1 : Int32) from by decide]
  exact pk_m1 k
def lZ (z : Int) : Int64 := Int64.ofInt z
theorem lZ_add (a b : Int) : lZ a + lZ b = lZ (a + b) := (Int64.ofInt_add a b).symm
theorem lZ_sub (a b : Int) : lZ a - lZ b = lZ (a - b) := (Int64.ofInt_sub a b).symm
theorem lZ_mul (a b : Int) : lZ a * lZ b = lZ (a * b) := (Int64.ofInt_mul a b).symm
theorem lZ_0 : lZ 0 = 0 := by decide
theorem lZ_toInt {z : Int} (h1 : -9223372036854775808 ≤ z) (h2 : z < 9223372036854775808) : (lZ z).toInt = z := Int64.toInt_ofInt_of_le h1 h2
theorem lZ_lt {a b : Int} (ha : -9223372036854775808 ≤ a ∧ a < 9223372036854775808) (hb : -9223372036854775808 ≤ b ∧ b < 9223372036854775808) : lZ a < lZ b ↔ a < b := by
  rw [Int64.lt_iff_toInt_lt, lZ_toInt ha.1 ha.2, lZ_toInt hb.1 hb.2]
theorem lZ_le {a b : Int} (ha : -9223372036854775808 ≤ a ∧ a < 9223372036854775808) (hb : -9223372036854775808 ≤ b ∧ b < 9223372036854775808) : lZ a ≤ lZ b ↔ a ≤ b := by
  rw [Int64.le_iff_toInt_le, lZ_toInt ha.1 ha.2, lZ_toInt hb.1 hb.2]
theorem lZ_eq {a b : Int} (ha : -9223372036854775808 ≤ a ∧ a < 9223372036854775808) (hb : -9223372036854775808 ≤ b ∧ b < 9223372036854775808) : lZ a = lZ b ↔ a = b := by
  rw [← Int64.toInt_inj, lZ_toInt ha.1 ha.2, lZ_toInt hb.1 hb.2]
theorem lZ_of (x : Int64) : x = lZ x.toInt := (Int64.ofInt_toInt x).symm
theorem lZ_n (n : Nat) : lZ (n : Int) = lN n := rfl
def zI (b : Bool) : Int32 := if b = true then 1 else 0
theorem zI_nar (b : Bool) : narrow .boolean (.int (zI b)) = .int (zI b) := by cases b <;> rfl
theorem zI_fit (b : Bool) : fits .boolean (.int (zI b)) = true := by cases b <;> rfl
theorem zI_0 {b : Bool} : zI b = 0 ↔ b = false := by cases b <;> decide
theorem zI_1 {b : Bool} : zI b = 1 ↔ b = true := by cases b <;> decide
theorem zI_n0 {b : Bool} : ¬ zI b = 0 ↔ b = true := by cases b <;> decide
def pI : Option Nat → Int32
  | none => -1
  | some m => nI m
theorem pI_eq {o : Option Nat} (h : ∀ m, o = some m → m < 2 ^ 31) : pI o = -1 ↔ o = none := by
  cases o with
  | none => simp [pI]
  | some m =>
    have h1 := nI_toInt (h m rfl)
    constructor
    · intro e
      have e2 : nI m = -1 := e
      rw [e2] at h1
      exact absurd h1 (by rw [show (-1 : Int32).toInt = -1 from by decide]; omega)
    · intro e; cases e
theorem bt_amt : ∀ c, c < 32 → ((nI c &&& 31).toBitVec.smod 32).toNat = c := by decide +kernel
theorem bt_get {m c : Nat} (hm : m < 2 ^ 31) (hc : c < 32) : (nI m >>> (nI c &&& 31)) &&& 1 = nI (m / 2 ^ c % 2) := by
  rw [pk_shrN hm _ c (bt_amt c hc)]
  exact pk_andN (n := m / 2 ^ c) (m := 1) (Nat.lt_of_le_of_lt (Nat.div_le_self _ _) (by omega)) 1 (by decide)
theorem bt_is {m c : Nat} (hm : m < 2 ^ 31) (hc : c < 32) : (nI m >>> (nI c &&& 31)) &&& 1 = 1 ↔ m.testBit c = true := by
  rw [bt_get hm hc, Nat.testBit_eq_decide_div_mod_eq, decide_eq_true_iff, show (1 : Int32) = nI 1 from rfl]
  exact nI_eq (by omega) (by omega)
theorem bt_one {c : Nat} (hc : c < 31) : (1 : Int32) <<< (nI c &&& 31) = nI (2 ^ c) := by
  have h := pk_shlN (n := 1) (nI c &&& 31) c (bt_amt c (by omega)) (by rw [Nat.one_mul]; exact Nat.pow_lt_pow_right (by decide) (by omega))
  rw [Nat.one_mul] at h
  exact h
theorem nI_bv (n : Nat) : (nI n).toBitVec = BitVec.ofNat 32 n := rfl
theorem nI_inj {x y : Int32} (h : x.toBitVec = y.toBitVec) : x = y := Int32.toBitVec_inj.mp h
theorem nI_or (a b : Nat) : nI a ||| nI b = nI (a ||| b) := by
  apply nI_inj
  rw [Int32.toBitVec_or, nI_bv, nI_bv, nI_bv]
  apply BitVec.eq_of_toNat_eq
  simp [Nat.or_mod_two_pow]
theorem nI_and (a b : Nat) : nI a &&& nI b = nI (a &&& b) := by
  apply nI_inj
  rw [Int32.toBitVec_and, nI_bv, nI_bv, nI_bv]
  apply BitVec.eq_of_toNat_eq
  simp [Nat.and_mod_two_pow]
theorem nI_xor (a b : Nat) : nI a ^^^ nI b = nI (a ^^^ b) := by
  apply nI_inj
  rw [Int32.toBitVec_xor, nI_bv, nI_bv, nI_bv]
  apply BitVec.eq_of_toNat_eq
  simp [Nat.xor_mod_two_pow]
/-- sums -/
def sm (n : Nat) (f : Nat → Int) : Int := match n with
  | 0 => 0
  | n + 1 => sm n f + f n
theorem sm_congr {n : Nat} {f g : Nat → Int} (h : ∀ i, i < n → f i = g i) : sm n f = sm n g := by
  induction n with
  | zero => rfl
  | succ n ih => simp only [sm]; rw [ih (fun i hi => h i (by omega)), h n (by omega)]
theorem sm_le {n : Nat} {f : Nat → Int} {a b : Int} (h : ∀ i, i < n → a ≤ f i ∧ f i ≤ b) : a * n ≤ sm n f ∧ sm n f ≤ b * n := by
  induction n with
  | zero => simp [sm]
  | succ n ih =>
    have h1 := ih (fun i hi => h i (by omega))
    have h2 := h n (by omega)
    simp only [sm]
    rw [show ((n + 1 : Nat) : Int) = n + 1 from by omega, Int.mul_add, Int.mul_add]
    omega
end
section
/-! A PRUNED SEARCH IS THE SEARCH OVER ALL: sets as masks, the first choice decided first, first with it -/
/-- the leaves below a set: k choices are still open, the next one is n - k -/
def lf (n : Nat) : Nat → Nat → List Nat
  | 0, P => [P]
  | k + 1, P => lf n k (P ||| 2 ^ (n - (k + 1))) ++ lf n k P
theorem lf_len (n : Nat) : ∀ k P, (lf n k P).length = 2 ^ k
  | 0, _ => rfl
  | k + 1, P => by rw [lf, List.length_append, lf_len n k, lf_len n k, Nat.pow_succ]; omega
theorem fold_same {β : Type} {step : β → Nat → β} {z : β} : ∀ {l : List Nat}, (∀ m ∈ l, step z m = z) → l.foldl step z = z
  | [], _ => rfl
  | m :: l, h => by
    rw [List.foldl_cons, h m List.mem_cons_self]
    exact fold_same (fun q hq => h q (List.mem_cons_of_mem _ hq))
def sr {β : Type} (n N : Nat) (hop : Nat → Nat → β → Bool) (badW badO : Nat → Nat → Bool) (step : β → Nat → β) : Nat → Nat → Nat → β → β
  | 0, b, P, z => if N ≤ b ∨ hop 0 P z = true then z else step z P
  | k + 1, b, P, z => if N ≤ b ∨ hop (k + 1) P z = true then z else
      if badO (k + 1) P = true then (if badW (k + 1) P = true then z else sr n N hop badW badO step k b (P ||| 2 ^ (n - (k + 1))) z)
      else sr n N hop badW badO step k (b + 2 ^ k) P (if badW (k + 1) P = true then z else sr n N hop badW badO step k b (P ||| 2 ^ (n - (k + 1))) z)
theorem fold_inv {β : Type} {step : β → Nat → β} {J : β → Prop} (jS : ∀ z m, J z → J (step z m)) : ∀ (l : List Nat) (z : β), J z → J (l.foldl step z)
  | [], _, h => h
  | m :: l, z, h => fold_inv jS l (step z m) (jS z m h)
theorem sr_fold {β : Type} {n N : Nat} {hop : Nat → Nat → β → Bool} {badW badO : Nat → Nat → Bool} {step : β → Nat → β} (I : Nat → Nat → Prop) (J : β → Prop) (jS : ∀ z m, J z → J (step z m))
    (hW : ∀ k P, I (k + 1) P → badW (k + 1) P = true → ∀ m ∈ lf n k (P ||| 2 ^ (n - (k + 1))), ∀ z, step z m = z) (iW : ∀ k P, I (k + 1) P → badW (k + 1) P = false → I k (P ||| 2 ^ (n - (k + 1))))
    (hO : ∀ k P, I (k + 1) P → badO (k + 1) P = true → ∀ m ∈ lf n k P, ∀ z, step z m = z) (iO : ∀ k P, I (k + 1) P → badO (k + 1) P = false → I k P)
    (hH : ∀ k P z, I k P → J z → hop k P z = true → ∀ m ∈ lf n k P, step z m = z) :
    ∀ k b P z, I k P → J z → sr n N hop badW badO step k b P z = ((lf n k P).take (N - b)).foldl step z := by
  intro k
  induction k with
  | zero =>
    intro b P z hI hJ
    unfold sr
    by_cases hb : N ≤ b
    · rw [if_pos (Or.inl hb), Nat.sub_eq_zero_of_le hb]
      rfl
    · by_cases hh : hop 0 P z = true
      · rw [if_pos (Or.inr hh)]
        exact (fold_same (fun m hm => hH 0 P z hI hJ hh m (List.mem_of_mem_take hm))).symm
      · rw [if_neg (by rintro (q | q) <;> contradiction)]
        obtain ⟨j, hj⟩ : ∃ j, N - b = j + 1 := ⟨N - b - 1, by omega⟩
        rw [hj, lf]
        simp
  | succ k ih =>
    intro b P z hI hJ
    unfold sr
    by_cases hb : N ≤ b
    · rw [if_pos (Or.inl hb), Nat.sub_eq_zero_of_le hb]
      rfl
    · by_cases hh : hop (k + 1) P z = true
      · rw [if_pos (Or.inr hh)]
        exact (fold_same (fun m hm => hH (k + 1) P z hI hJ hh m (List.mem_of_mem_take hm))).symm
      · rw [if_neg (by rintro (q | q) <;> contradiction)]
        have eW : (if badW (k + 1) P = true then z else sr n N hop badW badO step k b (P ||| 2 ^ (n - (k + 1))) z) = ((lf n k (P ||| 2 ^ (n - (k + 1)))).take (N - b)).foldl step z := by
          by_cases hw : badW (k + 1) P = true
          · rw [if_pos hw]
            exact (fold_same (fun m hm => hW k P hI hw m (List.mem_of_mem_take hm) z)).symm
          · rw [if_neg hw]
            exact ih b _ z (iW k P hI (by simpa using hw)) hJ
        rw [eW, lf, List.take_append, List.foldl_append, lf_len]
        generalize hz1 : ((lf n k (P ||| 2 ^ (n - (k + 1)))).take (N - b)).foldl step z = z1
        have hJ1 : J z1 := by rw [← hz1]; exact fold_inv jS _ _ hJ
        rw [show N - b - 2 ^ k = N - (b + 2 ^ k) by omega]
        by_cases ho : badO (k + 1) P = true
        · rw [if_pos ho]
          exact (fold_same (fun m hm => hO k P hI ho m (List.mem_of_mem_take hm) z1)).symm
        · rw [if_neg ho]
          exact ih (b + 2 ^ k) P z1 (iO k P hI (by simpa using ho)) hJ1
end
section
/-! THE STATES: what was told and found (ST, common to class and reference), the class's own rows (QS), the reference's own rows (TS); the heap of both -/
abbrev ST : Type := Nat × Nat × Nat × Nat × Nat × Int × (Nat → Int) × (Nat → Nat) × (Nat → Nat) × (Nat → Nat) × (Nat → Nat) × (Nat → Int) × (Nat → Int) × (Nat → Nat) × (Nat → Nat → Int) × (Nat → Nat) × (Nat → Nat) × (Nat → Int) × Option Nat × Nat × Bool
abbrev x_ny (A : ST) : Nat := A.1
abbrev x_nt (A : ST) : Nat := A.2.1
abbrev x_nc (A : ST) : Nat := A.2.2.1
abbrev x_mu (A : ST) : Nat := A.2.2.2.1
abbrev x_nj (A : ST) : Nat := A.2.2.2.2.1
abbrev x_fa (A : ST) : Int := A.2.2.2.2.2.1
abbrev x_bu (A : ST) : Nat → Int := A.2.2.2.2.2.2.1
abbrev x_pl (A : ST) : Nat → Nat := A.2.2.2.2.2.2.2.1
abbrev x_di (A : ST) : Nat → Nat := A.2.2.2.2.2.2.2.2.1
abbrev x_th (A : ST) : Nat → Nat := A.2.2.2.2.2.2.2.2.2.1
abbrev x_yr (A : ST) : Nat → Nat := A.2.2.2.2.2.2.2.2.2.2.1
abbrev x_co (A : ST) : Nat → Int := A.2.2.2.2.2.2.2.2.2.2.2.1
abbrev x_wo (A : ST) : Nat → Int := A.2.2.2.2.2.2.2.2.2.2.2.2.1
abbrev x_jt (A : ST) : Nat → Nat := A.2.2.2.2.2.2.2.2.2.2.2.2.2.1
abbrev x_sv (A : ST) : Nat → Nat → Int := A.2.2.2.2.2.2.2.2.2.2.2.2.2.2.1
abbrev x_ja (A : ST) : Nat → Nat := A.2.2.2.2.2.2.2.2.2.2.2.2.2.2.2.1
abbrev x_jb (A : ST) : Nat → Nat := A.2.2.2.2.2.2.2.2.2.2.2.2.2.2.2.2.1
abbrev x_js (A : ST) : Nat → Int := A.2.2.2.2.2.2.2.2.2.2.2.2.2.2.2.2.2.1
abbrev x_pn (A : ST) : Option Nat := A.2.2.2.2.2.2.2.2.2.2.2.2.2.2.2.2.2.2.1
abbrev x_od (A : ST) : Nat := A.2.2.2.2.2.2.2.2.2.2.2.2.2.2.2.2.2.2.2.1
abbrev x_pr (A : ST) : Bool := A.2.2.2.2.2.2.2.2.2.2.2.2.2.2.2.2.2.2.2.2
def x_s_ny (A : ST) (z : Nat) : ST := (z, x_nt A, x_nc A, x_mu A, x_nj A, x_fa A, x_bu A, x_pl A, x_di A, x_th A, x_yr A, x_co A, x_wo A, x_jt A, x_sv A, x_ja A, x_jb A, x_js A, x_pn A, x_od A, x_pr A)
def x_s_nt (A : ST) (z : Nat) : ST := (x_ny A, z, x_nc A, x_mu A, x_nj A, x_fa A, x_bu A, x_pl A, x_di A, x_th A, x_yr A, x_co A, x_wo A, x_jt A, x_sv A, x_ja A, x_jb A, x_js A, x_pn A, x_od A, x_pr A)
def x_s_nc (A : ST) (z : Nat) : ST := (x_ny A, x_nt A, z, x_mu A, x_nj A, x_fa A, x_bu A, x_pl A, x_di A, x_th A, x_yr A, x_co A, x_wo A, x_jt A, x_sv A, x_ja A, x_jb A, x_js A, x_pn A, x_od A, x_pr A)
def x_s_mu (A : ST) (z : Nat) : ST := (x_ny A, x_nt A, x_nc A, z, x_nj A, x_fa A, x_bu A, x_pl A, x_di A, x_th A, x_yr A, x_co A, x_wo A, x_jt A, x_sv A, x_ja A, x_jb A, x_js A, x_pn A, x_od A, x_pr A)
def x_s_nj (A : ST) (z : Nat) : ST := (x_ny A, x_nt A, x_nc A, x_mu A, z, x_fa A, x_bu A, x_pl A, x_di A, x_th A, x_yr A, x_co A, x_wo A, x_jt A, x_sv A, x_ja A, x_jb A, x_js A, x_pn A, x_od A, x_pr A)
def x_s_fa (A : ST) (z : Int) : ST := (x_ny A, x_nt A, x_nc A, x_mu A, x_nj A, z, x_bu A, x_pl A, x_di A, x_th A, x_yr A, x_co A, x_wo A, x_jt A, x_sv A, x_ja A, x_jb A, x_js A, x_pn A, x_od A, x_pr A)
def x_s_bu (A : ST) (z : Nat → Int) : ST := (x_ny A, x_nt A, x_nc A, x_mu A, x_nj A, x_fa A, z, x_pl A, x_di A, x_th A, x_yr A, x_co A, x_wo A, x_jt A, x_sv A, x_ja A, x_jb A, x_js A, x_pn A, x_od A, x_pr A)
def x_s_pl (A : ST) (z : Nat → Nat) : ST := (x_ny A, x_nt A, x_nc A, x_mu A, x_nj A, x_fa A, x_bu A, z, x_di A, x_th A, x_yr A, x_co A, x_wo A, x_jt A, x_sv A, x_ja A, x_jb A, x_js A, x_pn A, x_od A, x_pr A)
def x_s_di (A : ST) (z : Nat → Nat) : ST := (x_ny A, x_nt A, x_nc A, x_mu A, x_nj A, x_fa A, x_bu A, x_pl A, z, x_th A, x_yr A, x_co A, x_wo A, x_jt A, x_sv A, x_ja A, x_jb A, x_js A, x_pn A, x_od A, x_pr A)
def x_s_th (A : ST) (z : Nat → Nat) : ST := (x_ny A, x_nt A, x_nc A, x_mu A, x_nj A, x_fa A, x_bu A, x_pl A, x_di A, z, x_yr A, x_co A, x_wo A, x_jt A, x_sv A, x_ja A, x_jb A, x_js A, x_pn A, x_od A, x_pr A)
def x_s_yr (A : ST) (z : Nat → Nat) : ST := (x_ny A, x_nt A, x_nc A, x_mu A, x_nj A, x_fa A, x_bu A, x_pl A, x_di A, x_th A, z, x_co A, x_wo A, x_jt A, x_sv A, x_ja A, x_jb A, x_js A, x_pn A, x_od A, x_pr A)
def x_s_co (A : ST) (z : Nat → Int) : ST := (x_ny A, x_nt A, x_nc A, x_mu A, x_nj A, x_fa A, x_bu A, x_pl A, x_di A, x_th A, x_yr A, z, x_wo A, x_jt A, x_sv A, x_ja A, x_jb A, x_js A, x_pn A, x_od A, x_pr A)
def x_s_wo (A : ST) (z : Nat → Int) : ST := (x_ny A, x_nt A, x_nc A, x_mu A, x_nj A, x_fa A, x_bu A, x_pl A, x_di A, x_th A, x_yr A, x_co A, z, x_jt A, x_sv A, x_ja A, x_jb A, x_js A, x_pn A, x_od A, x_pr A)
def x_s_jt (A : ST) (z : Nat → Nat) : ST := (x_ny A, x_nt A, x_nc A, x_mu A, x_nj A, x_fa A, x_bu A, x_pl A, x_di A, x_th A, x_yr A, x_co A, x_wo A, z, x_sv A, x_ja A, x_jb A, x_js A, x_pn A, x_od A, x_pr A)
def x_s_sv (A : ST) (z : Nat → Nat → Int) : ST := (x_ny A, x_nt A, x_nc A, x_mu A, x_nj A, x_fa A, x_bu A, x_pl A, x_di A, x_th A, x_yr A, x_co A, x_wo A, x_jt A, z, x_ja A, x_jb A, x_js A, x_pn A, x_od A, x_pr A)
def x_s_ja (A : ST) (z : Nat → Nat) : ST := (x_ny A, x_nt A, x_nc A, x_mu A, x_nj A, x_fa A, x_bu A, x_pl A, x_di A, x_th A, x_yr A, x_co A, x_wo A, x_jt A, x_sv A, z, x_jb A, x_js A, x_pn A, x_od A, x_pr A)
def x_s_jb (A : ST) (z : Nat → Nat) : ST := (x_ny A, x_nt A, x_nc A, x_mu A, x_nj A, x_fa A, x_bu A, x_pl A, x_di A, x_th A, x_yr A, x_co A, x_wo A, x_jt A, x_sv A, x_ja A, z, x_js A, x_pn A, x_od A, x_pr A)
def x_s_js (A : ST) (z : Nat → Int) : ST := (x_ny A, x_nt A, x_nc A, x_mu A, x_nj A, x_fa A, x_bu A, x_pl A, x_di A, x_th A, x_yr A, x_co A, x_wo A, x_jt A, x_sv A, x_ja A, x_jb A, z, x_pn A, x_od A, x_pr A)
def x_s_pn (A : ST) (z : Option Nat) : ST := (x_ny A, x_nt A, x_nc A, x_mu A, x_nj A, x_fa A, x_bu A, x_pl A, x_di A, x_th A, x_yr A, x_co A, x_wo A, x_jt A, x_sv A, x_ja A, x_jb A, x_js A, z, x_od A, x_pr A)
def x_s_od (A : ST) (z : Nat) : ST := (x_ny A, x_nt A, x_nc A, x_mu A, x_nj A, x_fa A, x_bu A, x_pl A, x_di A, x_th A, x_yr A, x_co A, x_wo A, x_jt A, x_sv A, x_ja A, x_jb A, x_js A, x_pn A, z, x_pr A)
def x_s_pr (A : ST) (z : Bool) : ST := (x_ny A, x_nt A, x_nc A, x_mu A, x_nj A, x_fa A, x_bu A, x_pl A, x_di A, x_th A, x_yr A, x_co A, x_wo A, x_jt A, x_sv A, x_ja A, x_jb A, x_js A, x_pn A, x_od A, z)
abbrev QS : Type := Bool × Option Nat × Bool × Nat × Int × Nat × Nat × Nat × Bool × Nat × (Nat → Int) × (Nat → Nat → Int) × (Nat → Int) × Nat × Nat × Nat × Int × (Nat → Int) × (Nat → Int) × Option Nat × Nat × Int × Nat × (Nat → Nat)
abbrev q_bk (q : QS) : Bool := q.1
abbrev q_ba (q : QS) : Option Nat := q.2.1
abbrev q_ck (q : QS) : Bool := q.2.2.1
abbrev q_cl (q : QS) : Nat := q.2.2.2.1
abbrev q_no (q : QS) : Int := q.2.2.2.2.1
abbrev q_mu (q : QS) : Nat := q.2.2.2.2.2.1
abbrev q_od (q : QS) : Nat := q.2.2.2.2.2.2.1
abbrev q_cm (q : QS) : Nat := q.2.2.2.2.2.2.2.1
abbrev q_oe (q : QS) : Bool := q.2.2.2.2.2.2.2.2.1
abbrev q_ud (q : QS) : Nat := q.2.2.2.2.2.2.2.2.2.1
abbrev q_li (q : QS) : Nat → Int := q.2.2.2.2.2.2.2.2.2.2.1
abbrev q_sf (q : QS) : Nat → Nat → Int := q.2.2.2.2.2.2.2.2.2.2.2.1
abbrev q_wf (q : QS) : Nat → Int := q.2.2.2.2.2.2.2.2.2.2.2.2.1
abbrev q_pk (q : QS) : Nat := q.2.2.2.2.2.2.2.2.2.2.2.2.2.1
abbrev q_tk (q : QS) : Nat := q.2.2.2.2.2.2.2.2.2.2.2.2.2.2.1
abbrev q_sy (q : QS) : Nat := q.2.2.2.2.2.2.2.2.2.2.2.2.2.2.2.1
abbrev q_ga (q : QS) : Int := q.2.2.2.2.2.2.2.2.2.2.2.2.2.2.2.2.1
abbrev q_sp (q : QS) : Nat → Int := q.2.2.2.2.2.2.2.2.2.2.2.2.2.2.2.2.2.1
abbrev q_gi (q : QS) : Nat → Int := q.2.2.2.2.2.2.2.2.2.2.2.2.2.2.2.2.2.2.1
abbrev q_be (q : QS) : Option Nat := q.2.2.2.2.2.2.2.2.2.2.2.2.2.2.2.2.2.2.2.1
abbrev q_bc (q : QS) : Nat := q.2.2.2.2.2.2.2.2.2.2.2.2.2.2.2.2.2.2.2.2.1
abbrev q_bw (q : QS) : Int := q.2.2.2.2.2.2.2.2.2.2.2.2.2.2.2.2.2.2.2.2.2.1
abbrev q_bs (q : QS) : Nat := q.2.2.2.2.2.2.2.2.2.2.2.2.2.2.2.2.2.2.2.2.2.2.1
abbrev q_or (q : QS) : Nat → Nat := q.2.2.2.2.2.2.2.2.2.2.2.2.2.2.2.2.2.2.2.2.2.2.2
def q_s_bk (q : QS) (z : Bool) : QS := (z, q_ba q, q_ck q, q_cl q, q_no q, q_mu q, q_od q, q_cm q, q_oe q, q_ud q, q_li q, q_sf q, q_wf q, q_pk q, q_tk q, q_sy q, q_ga q, q_sp q, q_gi q, q_be q, q_bc q, q_bw q, q_bs q, q_or q)
def q_s_ba (q : QS) (z : Option Nat) : QS := (q_bk q, z, q_ck q, q_cl q, q_no q, q_mu q, q_od q, q_cm q, q_oe q, q_ud q, q_li q, q_sf q, q_wf q, q_pk q, q_tk q, q_sy q, q_ga q, q_sp q, q_gi q, q_be q, q_bc q, q_bw q, q_bs q, q_or q)
def q_s_ck (q : QS) (z : Bool) : QS := (q_bk q, q_ba q, z, q_cl q, q_no q, q_mu q, q_od q, q_cm q, q_oe q, q_ud q, q_li q, q_sf q, q_wf q, q_pk q, q_tk q, q_sy q, q_ga q, q_sp q, q_gi q, q_be q, q_bc q, q_bw q, q_bs q, q_or q)
def q_s_cl (q : QS) (z : Nat) : QS := (q_bk q, q_ba q, q_ck q, z, q_no q, q_mu q, q_od q, q_cm q, q_oe q, q_ud q, q_li q, q_sf q, q_wf q, q_pk q, q_tk q, q_sy q, q_ga q, q_sp q, q_gi q, q_be q, q_bc q, q_bw q, q_bs q, q_or q)
def q_s_no (q : QS) (z : Int) : QS := (q_bk q, q_ba q, q_ck q, q_cl q, z, q_mu q, q_od q, q_cm q, q_oe q, q_ud q, q_li q, q_sf q, q_wf q, q_pk q, q_tk q, q_sy q, q_ga q, q_sp q, q_gi q, q_be q, q_bc q, q_bw q, q_bs q, q_or q)
def q_s_mu (q : QS) (z : Nat) : QS := (q_bk q, q_ba q, q_ck q, q_cl q, q_no q, z, q_od q, q_cm q, q_oe q, q_ud q, q_li q, q_sf q, q_wf q, q_pk q, q_tk q, q_sy q, q_ga q, q_sp q, q_gi q, q_be q, q_bc q, q_bw q, q_bs q, q_or q)
def q_s_od (q : QS) (z : Nat) : QS := (q_bk q, q_ba q, q_ck q, q_cl q, q_no q, q_mu q, z, q_cm q, q_oe q, q_ud q, q_li q, q_sf q, q_wf q, q_pk q, q_tk q, q_sy q, q_ga q, q_sp q, q_gi q, q_be q, q_bc q, q_bw q, q_bs q, q_or q)
def q_s_cm (q : QS) (z : Nat) : QS := (q_bk q, q_ba q, q_ck q, q_cl q, q_no q, q_mu q, q_od q, z, q_oe q, q_ud q, q_li q, q_sf q, q_wf q, q_pk q, q_tk q, q_sy q, q_ga q, q_sp q, q_gi q, q_be q, q_bc q, q_bw q, q_bs q, q_or q)
def q_s_oe (q : QS) (z : Bool) : QS := (q_bk q, q_ba q, q_ck q, q_cl q, q_no q, q_mu q, q_od q, q_cm q, z, q_ud q, q_li q, q_sf q, q_wf q, q_pk q, q_tk q, q_sy q, q_ga q, q_sp q, q_gi q, q_be q, q_bc q, q_bw q, q_bs q, q_or q)
def q_s_ud (q : QS) (z : Nat) : QS := (q_bk q, q_ba q, q_ck q, q_cl q, q_no q, q_mu q, q_od q, q_cm q, q_oe q, z, q_li q, q_sf q, q_wf q, q_pk q, q_tk q, q_sy q, q_ga q, q_sp q, q_gi q, q_be q, q_bc q, q_bw q, q_bs q, q_or q)
def q_s_li (q : QS) (z : Nat → Int) : QS := (q_bk q, q_ba q, q_ck q, q_cl q, q_no q, q_mu q, q_od q, q_cm q, q_oe q, q_ud q, z, q_sf q, q_wf q, q_pk q, q_tk q, q_sy q, q_ga q, q_sp q, q_gi q, q_be q, q_bc q, q_bw q, q_bs q, q_or q)
def q_s_sf (q : QS) (z : Nat → Nat → Int) : QS := (q_bk q, q_ba q, q_ck q, q_cl q, q_no q, q_mu q, q_od q, q_cm q, q_oe q, q_ud q, q_li q, z, q_wf q, q_pk q, q_tk q, q_sy q, q_ga q, q_sp q, q_gi q, q_be q, q_bc q, q_bw q, q_bs q, q_or q)
def q_s_wf (q : QS) (z : Nat → Int) : QS := (q_bk q, q_ba q, q_ck q, q_cl q, q_no q, q_mu q, q_od q, q_cm q, q_oe q, q_ud q, q_li q, q_sf q, z, q_pk q, q_tk q, q_sy q, q_ga q, q_sp q, q_gi q, q_be q, q_bc q, q_bw q, q_bs q, q_or q)
def q_s_pk (q : QS) (z : Nat) : QS := (q_bk q, q_ba q, q_ck q, q_cl q, q_no q, q_mu q, q_od q, q_cm q, q_oe q, q_ud q, q_li q, q_sf q, q_wf q, z, q_tk q, q_sy q, q_ga q, q_sp q, q_gi q, q_be q, q_bc q, q_bw q, q_bs q, q_or q)
def q_s_tk (q : QS) (z : Nat) : QS := (q_bk q, q_ba q, q_ck q, q_cl q, q_no q, q_mu q, q_od q, q_cm q, q_oe q, q_ud q, q_li q, q_sf q, q_wf q, q_pk q, z, q_sy q, q_ga q, q_sp q, q_gi q, q_be q, q_bc q, q_bw q, q_bs q, q_or q)
def q_s_sy (q : QS) (z : Nat) : QS := (q_bk q, q_ba q, q_ck q, q_cl q, q_no q, q_mu q, q_od q, q_cm q, q_oe q, q_ud q, q_li q, q_sf q, q_wf q, q_pk q, q_tk q, z, q_ga q, q_sp q, q_gi q, q_be q, q_bc q, q_bw q, q_bs q, q_or q)
def q_s_ga (q : QS) (z : Int) : QS := (q_bk q, q_ba q, q_ck q, q_cl q, q_no q, q_mu q, q_od q, q_cm q, q_oe q, q_ud q, q_li q, q_sf q, q_wf q, q_pk q, q_tk q, q_sy q, z, q_sp q, q_gi q, q_be q, q_bc q, q_bw q, q_bs q, q_or q)
def q_s_sp (q : QS) (z : Nat → Int) : QS := (q_bk q, q_ba q, q_ck q, q_cl q, q_no q, q_mu q, q_od q, q_cm q, q_oe q, q_ud q, q_li q, q_sf q, q_wf q, q_pk q, q_tk q, q_sy q, q_ga q, z, q_gi q, q_be q, q_bc q, q_bw q, q_bs q, q_or q)
def q_s_gi (q : QS) (z : Nat → Int) : QS := (q_bk q, q_ba q, q_ck q, q_cl q, q_no q, q_mu q, q_od q, q_cm q, q_oe q, q_ud q, q_li q, q_sf q, q_wf q, q_pk q, q_tk q, q_sy q, q_ga q, q_sp q, z, q_be q, q_bc q, q_bw q, q_bs q, q_or q)
def q_s_be (q : QS) (z : Option Nat) : QS := (q_bk q, q_ba q, q_ck q, q_cl q, q_no q, q_mu q, q_od q, q_cm q, q_oe q, q_ud q, q_li q, q_sf q, q_wf q, q_pk q, q_tk q, q_sy q, q_ga q, q_sp q, q_gi q, z, q_bc q, q_bw q, q_bs q, q_or q)
def q_s_bc (q : QS) (z : Nat) : QS := (q_bk q, q_ba q, q_ck q, q_cl q, q_no q, q_mu q, q_od q, q_cm q, q_oe q, q_ud q, q_li q, q_sf q, q_wf q, q_pk q, q_tk q, q_sy q, q_ga q, q_sp q, q_gi q, q_be q, z, q_bw q, q_bs q, q_or q)
def q_s_bw (q : QS) (z : Int) : QS := (q_bk q, q_ba q, q_ck q, q_cl q, q_no q, q_mu q, q_od q, q_cm q, q_oe q, q_ud q, q_li q, q_sf q, q_wf q, q_pk q, q_tk q, q_sy q, q_ga q, q_sp q, q_gi q, q_be q, q_bc q, z, q_bs q, q_or q)
def q_s_bs (q : QS) (z : Nat) : QS := (q_bk q, q_ba q, q_ck q, q_cl q, q_no q, q_mu q, q_od q, q_cm q, q_oe q, q_ud q, q_li q, q_sf q, q_wf q, q_pk q, q_tk q, q_sy q, q_ga q, q_sp q, q_gi q, q_be q, q_bc q, q_bw q, z, q_or q)
def q_s_or (q : QS) (z : Nat → Nat) : QS := (q_bk q, q_ba q, q_ck q, q_cl q, q_no q, q_mu q, q_od q, q_cm q, q_oe q, q_ud q, q_li q, q_sf q, q_wf q, q_pk q, q_tk q, q_sy q, q_ga q, q_sp q, q_gi q, q_be q, q_bc q, q_bw q, q_bs q, z)
abbrev TS : Type := (Nat → Int) × (Nat → Nat) × (Nat → Nat)
abbrev t_pa (t : TS) : Nat → Int := t.1
abbrev t_or (t : TS) : Nat → Nat := t.2.1
abbrev t_ra (t : TS) : Nat → Nat := t.2.2
def t_s_pa (t : TS) (z : Nat → Int) : TS := (z, t_or t, t_ra t)
def t_s_or (t : TS) (z : Nat → Nat) : TS := (t_pa t, z, t_ra t)
def t_s_ra (t : TS) (z : Nat → Nat) : TS := (t_pa t, t_or t, z)
abbrev aI (n : Nat) (f : Nat → Nat) : am_C := .inl (0, n, .inl (fun i => nI (f i)))
abbrev aL (n : Nat) (f : Nat → Int) : am_C := .inl (1, n, .inr (.inl (fun i => lZ (f i))))
abbrev aA (n b : Nat) : am_C := .inl (2, n, .inr (.inr (.inr (.inr (fun i => if i < n then some ((b + i) + 1) else none)))))
def cC (A : ST) (q : QS) : List am_C := [
  .inr (4, [.ref 2, .ref 26, .ref 47, .ref 48, .int (pI (x_pn A)), .int (nI (x_od A)), .int (zI (x_pr A)), .int (zI (q_bk q)), .int (pI (q_ba q)), .int (zI (q_ck q)), .int (nI (q_cl q))]),
  .inr (0, [.int (nI (x_ny A)), .ref 3, .int (nI (x_nt A)), .ref 4, .ref 5, .int (nI (x_nc A)), .ref 6, .ref 7, .ref 8, .ref 9, .int (nI (x_mu A)), .int (nI (x_nj A)), .ref 10, .ref 11, .long (lZ (x_fa A))]),
  aL 6 (x_bu A),
  aI 12 (x_pl A),
  aI 12 (x_di A),
  aI 14 (x_th A),
  aI 14 (x_yr A),
  aL 14 (x_co A),
  aL 14 (x_wo A),
  aI 14 (x_jt A),
  aA 14 11,
  aL 14 (x_sv A 0),
  aL 14 (x_sv A 1),
  aL 14 (x_sv A 2),
  aL 14 (x_sv A 3),
  aL 14 (x_sv A 4),
  aL 14 (x_sv A 5),
  aL 14 (x_sv A 6),
  aL 14 (x_sv A 7),
  aL 14 (x_sv A 8),
  aL 14 (x_sv A 9),
  aL 14 (x_sv A 10),
  aL 14 (x_sv A 11),
  aL 14 (x_sv A 12),
  aL 14 (x_sv A 13),
  .inr (1, [.ref 2, .long (lZ (q_no q)), .int (nI (q_mu q)), .int (nI (q_od q)), .int (nI (q_cm q)), .int (zI (q_oe q)), .int (nI (q_ud q)), .ref 27, .ref 28, .ref 44, .int (nI (q_pk q)), .int (nI (q_tk q)), .int (nI (q_sy q)), .long (lZ (q_ga q)), .ref 45, .ref 46, .int (pI (q_be q)), .int (nI (q_bc q)), .long (lZ (q_bw q)), .int (nI (q_bs q))]),
  aL 6 (q_li q),
  aA 15 28,
  aL 6 (q_sf q 0),
  aL 6 (q_sf q 1),
  aL 6 (q_sf q 2),
  aL 6 (q_sf q 3),
  aL 6 (q_sf q 4),
  aL 6 (q_sf q 5),
  aL 6 (q_sf q 6),
  aL 6 (q_sf q 7),
  aL 6 (q_sf q 8),
  aL 6 (q_sf q 9),
  aL 6 (q_sf q 10),
  aL 6 (q_sf q 11),
  aL 6 (q_sf q 12),
  aL 6 (q_sf q 13),
  aL 6 (q_sf q 14),
  aL 15 (q_wf q),
  aL 6 (q_sp q),
  aL 4 (q_gi q),
  .inr (2, [.ref 2]),
  .inr (3, [.ref 2, .ref 49]),
  aI 14 (q_or q)]
def cM (A : ST) (t : TS) : List am_C := [
  .inr (5, [.int (nI (x_ny A)), .int (nI (x_nt A)), .ref 51, .ref 52, .int (nI (x_nc A)), .ref 53, .ref 54, .ref 55, .ref 56, .int (nI (x_mu A)), .ref 57, .int (nI (x_nj A)), .ref 58, .ref 59, .ref 60, .long (lZ (x_fa A)), .int (pI (x_pn A)), .int (nI (x_od A)), .int (zI (x_pr A)), .ref 61, .ref 62, .ref 63, .ref 64]),
  aI 12 (x_pl A),
  aI 12 (x_di A),
  aI 14 (x_th A),
  aI 14 (x_yr A),
  aL 14 (x_co A),
  aL 14 (x_wo A),
  aL 6 (x_bu A),
  aI 20 (x_ja A),
  aI 20 (x_jb A),
  aL 20 (x_js A),
  aL 6 (fun _ => 0),
  aL 4 (t_pa t),
  aI 14 (t_or t),
  aI 12 (t_ra t)]
def hp (A : ST) (q : QS) (D : ST) (t : TS) : List am_C := cC A q ++ cM D t
theorem hp_len (A : ST) (q : QS) (D : ST) (t : TS) : (hp A q D t).length = 64 := rfl
theorem hp_sv (A : ST) (q : QS) (D : ST) (t : TS) : ∀ a, a < 14 → (hp A q D t)[11 + a]? = some (aL 14 (x_sv A a)) := by
  intro a ha
  rcases (show a = 0 ∨ a = 1 ∨ a = 2 ∨ a = 3 ∨ a = 4 ∨ a = 5 ∨ a = 6 ∨ a = 7 ∨ a = 8 ∨ a = 9 ∨ a = 10 ∨ a = 11 ∨ a = 12 ∨ a = 13 by omega) with rfl | rfl | rfl | rfl | rfl | rfl | rfl | rfl | rfl | rfl | rfl | rfl | rfl | rfl <;> rfl
theorem hp_sf (A : ST) (q : QS) (D : ST) (t : TS) : ∀ a, a < 15 → (hp A q D t)[28 + a]? = some (aL 6 (q_sf q a)) := by
  intro a ha
  rcases (show a = 0 ∨ a = 1 ∨ a = 2 ∨ a = 3 ∨ a = 4 ∨ a = 5 ∨ a = 6 ∨ a = 7 ∨ a = 8 ∨ a = 9 ∨ a = 10 ∨ a = 11 ∨ a = 12 ∨ a = 13 ∨ a = 14 by omega) with rfl | rfl | rfl | rfl | rfl | rfl | rfl | rfl | rfl | rfl | rfl | rfl | rfl | rfl | rfl <;> rfl
end
section
/-! ROWS BY NUMBERS: arrays of naturals and integers, constants of the JDK's pool, new long[n][m] -/
theorem up_nI (f : Nat → Nat) (j x : Nat) : upd (fun i => nI (f i)) j (nI x) = fun i => nI (va_up f j x i) := by
  funext i
  by_cases h : i = j
  · subst h; simp [upd, va_up]
  · simp [upd, va_up, h]
theorem up_lZ (f : Nat → Int) (j : Nat) (x : Int) : vp_updL (fun i => lZ (f i)) j (lZ x) = fun i => lZ (va_up f j x i) := by
  funext i
  by_cases h : i = j
  · subst h; simp [vp_updL, va_up]
  · simp [vp_updL, va_up, h]
theorem zI_t {b : Bool} (h : b = true) : zI b = 1 := zI_1.mpr h
theorem zI_f {b : Bool} (h : b = false) : zI b = 0 := zI_0.mpr h
theorem aw_rz1 {b : Bool} (h : b = true) : some (Value.int (zI b)) = some (Value.int 1) := by rw [zI_t h]
theorem aw_rz0 {b : Bool} (h : b = false) : some (Value.int (zI b)) = some (Value.int 0) := by rw [zI_f h]
section AMN
variable {sc : am_S} {M : am_M} {d pc : Nat} {L : List (Option Value)} {st : List Value} {h : List am_C} {r : Option Value} {h' : List am_C}
theorem aw_ialdN {o n j : Nat} {f : Nat → Nat} (hd : decode M.2.1 pc = .ok (.iaload, 1)) (ho : h[o]? = some (aI n f)) (hj : j < n) (hn : Nat.blt n 2147483648 = true) (kk : AW sc M d (pc + 1) L (.int (nI (f j)) :: st) h r h') : AW sc M d pc L (.int (nI j) :: .ref (o + 1) :: st) h r h' := by
  have hn' : n < 2 ^ 31 := Nat.blt_eq.mp hn
  refine aw_iald hd rfl ho (vp_in_nI hj hn') ?_
  rw [nI_clamp (Nat.lt_trans hj hn')]
  exact kk
theorem aw_laldN {o n j : Nat} {f : Nat → Int} (hd : decode M.2.1 pc = .ok (.laload, 1)) (ho : h[o]? = some (aL n f)) (hj : j < n) (hn : Nat.blt n 2147483648 = true) (kk : AW sc M d (pc + 1) L (.long (lZ (f j)) :: st) h r h') : AW sc M d pc L (.int (nI j) :: .ref (o + 1) :: st) h r h' := by
  have hn' : n < 2 ^ 31 := Nat.blt_eq.mp hn
  refine aw_lald hd rfl ho (vp_in_nI hj hn') ?_
  rw [nI_clamp (Nat.lt_trans hj hn')]
  exact kk
theorem aw_aaldN {o n b j : Nat} (hd : decode M.2.1 pc = .ok (.aaload, 1)) (ho : h[o]? = some (aA n b)) (hj : j < n) (hn : Nat.blt n 2147483648 = true) (kk : AW sc M d (pc + 1) L (.ref ((b + j) + 1) :: st) h r h') : AW sc M d pc L (.int (nI j) :: .ref (o + 1) :: st) h r h' := by
  have hn' : n < 2 ^ 31 := Nat.blt_eq.mp hn
  refine aw_aald (ty := .array .long) hd rfl rfl ho (vp_in_nI hj hn') ?_
  rw [nI_clamp (Nat.lt_trans hj hn'), if_pos hj]
  exact kk
theorem aw_iastN {o n j x : Nat} {f : Nat → Nat} (hd : decode M.2.1 pc = .ok (.iastore, 1)) (ho : h[o]? = some (aI n f)) (hj : j < n) (hn : Nat.blt n 2147483648 = true) (kk : AW sc M d (pc + 1) L st (h.set o (aI n (va_up f j x))) r h') : AW sc M d pc L (.int (nI x) :: .int (nI j) :: .ref (o + 1) :: st) h r h' := by
  have hn' : n < 2 ^ 31 := Nat.blt_eq.mp hn
  refine aw_iast hd rfl ho (vp_in_nI hj hn') ?_
  rw [nI_clamp (Nat.lt_trans hj hn'), up_nI]
  exact kk
theorem aw_lastN {o n j : Nat} {x : Int} {f : Nat → Int} (hd : decode M.2.1 pc = .ok (.lastore, 1)) (ho : h[o]? = some (aL n f)) (hj : j < n) (hn : Nat.blt n 2147483648 = true) (kk : AW sc M d (pc + 1) L st (h.set o (aL n (va_up f j x))) r h') : AW sc M d pc L (.long (lZ x) :: .int (nI j) :: .ref (o + 1) :: st) h r h' := by
  have hn' : n < 2 ^ 31 := Nat.blt_eq.mp hn
  refine aw_last hd rfl ho (vp_in_nI hj hn') ?_
  rw [nI_clamp (Nat.lt_trans hj hn'), up_lZ]
  exact kk
theorem aw_ldcw {idx : Nat} (v : Int32) (hd : decode M.2.1 pc = .ok (.ldc_w idx, 3)) (hw : Cond.constant M.1.cls idx v ∈ am_T) (kk : AW sc M d (pc + 3) L (.int v :: st) h r h') : AW sc M d pc L (st) h r h' := by
  refine ⟨kk.1, ?_⟩
  intro E mc ms p l e R s m args below meth c Z ok H locs cells slots ls hl hH hF hc hs
  exact lv_ldcw ok.1 ok.2.1 ok.2.2.2.1 (ok.2.2.2.2.2.1 _ hw) hd (kk.2 E mc ms p l e R s m args below meth c Z ok H locs cells slots ls hl hH hF hc hs)
theorem aw_is {L' : List (Option Value)} {st' : List Value} {hx : List am_C} (e1 : L = L') (e2 : st = st') (e3 : h = hx) (kk : AW sc M d pc L' st' hx r h') : AW sc M d pc L st h r h' := by
  subst e1; subst e2; subst e3
  exact kk
theorem aw_maxI {idx : Nat} {x y : Int32} (hd : decode M.2.1 pc = .ok (.invokestatic idx, 3)) (hlk : Cond.methodLink M.1.cls idx Lib.Math.max.name ∈ am_T) (hd1 : 1 ≤ d) (hcat : (st.map fun v => v.category).sum ≤ 8) (kk : AW sc M d (pc + 3) L (.int (if x < y then y else x) :: st) h r h') : AW sc M d pc L (.int y :: .int x :: st) h r h' := by
  refine ⟨kk.1, ?_⟩
  have hk1 := kk.1
  intro E mc ms p l e R s m args below meth c Z ok H locs cells slots ls hl hH hF hc hs
  obtain ⟨hx, hb, hml, hown, hin, hts, hK, hX, hR, hZ⟩ := id ok
  have hk : am_k ≤ am_k * d := Nat.le_mul_of_pos_right am_k hd1
  have hk0 : 30 ≤ am_k := by decide
  have hcat' : ((st.map (am_v E)).map fun v => v.category).sum ≤ 8 := by rw [am_cats]; exact hcat
  obtain ⟨hl1, hl2⟩ := hk1
  exact va_mmax hx hb (by rw [hml]; exact hl.2.1.symm) hown (hts _ hlk) (hts _ (am_in1 (i := 24) rfl rfl)) (hts _ (am_in1 (i := 3) rfl rfl)) (hts _ (am_in1 (i := 25) rfl rfl)) (by omega) (by omega) (by omega) (by omega) hd (kk.2 E mc ms p l e R s m args below meth c Z ok H locs cells slots ls hl hH hF hc hs)
theorem aw_minI {idx : Nat} {x y : Int32} (hd : decode M.2.1 pc = .ok (.invokestatic idx, 3)) (hlk : Cond.methodLink M.1.cls idx Lib.Math.min.name ∈ am_T) (hd1 : 1 ≤ d) (hcat : (st.map fun v => v.category).sum ≤ 8) (kk : AW sc M d (pc + 3) L (.int (if y < x then y else x) :: st) h r h') : AW sc M d pc L (.int y :: .int x :: st) h r h' := by
  refine ⟨kk.1, ?_⟩
  have hk1 := kk.1
  intro E mc ms p l e R s m args below meth c Z ok H locs cells slots ls hl hH hF hc hs
  obtain ⟨hx, hb, hml, hown, hin, hts, hK, hX, hR, hZ⟩ := id ok
  have hk : am_k ≤ am_k * d := Nat.le_mul_of_pos_right am_k hd1
  have hk0 : 30 ≤ am_k := by decide
  have hcat' : ((st.map (am_v E)).map fun v => v.category).sum ≤ 8 := by rw [am_cats]; exact hcat
  obtain ⟨hl1, hl2⟩ := hk1
  exact va_mmin hx hb (by rw [hml]; exact hl.2.1.symm) hown (hts _ hlk) (hts _ (am_in1 (i := 21) rfl rfl)) (hts _ (am_in1 (i := 3) rfl rfl)) (hts _ (am_in1 (i := 22) rfl rfl)) (by omega) (by omega) (by omega) (by omega) hd (kk.2 E mc ms p l e R s m args below meth c Z ok H locs cells slots ls hl hH hF hc hs)
theorem aw_maxL {idx : Nat} {x y : Int64} (hd : decode M.2.1 pc = .ok (.invokestatic idx, 3)) (hlk : Cond.methodLink M.1.cls idx Lib.MathLoose.max_long.x ∈ am_T) (hd1 : 1 ≤ d) (hcat : (st.map fun v => v.category).sum ≤ 8) (kk : AW sc M d (pc + 3) L (.long (if y < x then x else y) :: st) h r h') : AW sc M d pc L (.long y :: .long x :: st) h r h' := by
  refine ⟨kk.1, ?_⟩
  have hk1 := kk.1
  intro E mc ms p l e R s m args below meth c Z ok H locs cells slots ls hl hH hF hc hs
  obtain ⟨hx, hb, hml, hown, hin, hts, hK, hX, hR, hZ⟩ := id ok
  have hk : am_k ≤ am_k * d := Nat.le_mul_of_pos_right am_k hd1
  have hk0 : 30 ≤ am_k := by decide
  have hcat' : ((st.map (am_v E)).map fun v => v.category).sum ≤ 8 := by rw [am_cats]; exact hcat
  obtain ⟨hl1, hl2⟩ := hk1
  exact va_mmax_long hx hb (by rw [hml]; exact hl.2.1.symm) hown (hts _ hlk) (hts _ (am_in2 (i := 185) rfl rfl)) (hts _ (am_in1 (i := 3) rfl rfl)) (hts _ (am_in2 (i := 186) rfl rfl)) (by omega) (by omega) (by omega) (by omega) hd (kk.2 E mc ms p l e R s m args below meth c Z ok H locs cells slots ls hl hH hF hc hs)
theorem aw_minL {idx : Nat} {x y : Int64} (hd : decode M.2.1 pc = .ok (.invokestatic idx, 3)) (hlk : Cond.methodLink M.1.cls idx Lib.MathLoose.min_long.x ∈ am_T) (hd1 : 1 ≤ d) (hcat : (st.map fun v => v.category).sum ≤ 8) (kk : AW sc M d (pc + 3) L (.long (if y < x then y else x) :: st) h r h') : AW sc M d pc L (.long y :: .long x :: st) h r h' := by
  refine ⟨kk.1, ?_⟩
  have hk1 := kk.1
  intro E mc ms p l e R s m args below meth c Z ok H locs cells slots ls hl hH hF hc hs
  obtain ⟨hx, hb, hml, hown, hin, hts, hK, hX, hR, hZ⟩ := id ok
  have hk : am_k ≤ am_k * d := Nat.le_mul_of_pos_right am_k hd1
  have hk0 : 30 ≤ am_k := by decide
  have hcat' : ((st.map (am_v E)).map fun v => v.category).sum ≤ 8 := by rw [am_cats]; exact hcat
  obtain ⟨hl1, hl2⟩ := hk1
  exact va_mmin_long hx hb (by rw [hml]; exact hl.2.1.symm) hown (hts _ hlk) (hts _ (am_in2 (i := 206) rfl rfl)) (hts _ (am_in1 (i := 3) rfl rfl)) (hts _ (am_in2 (i := 207) rfl rfl)) (by omega) (by omega) (by omega) (by omega) hd (kk.2 E mc ms p l e R s m args below meth c Z ok H locs cells slots ls hl hH hF hc hs)
end AMN
end
section
/-! ROWS OF WRITES: the heap stays hp of the new states -/
def up2 (f : Nat → Nat → Int) (a j : Nat) (x : Int) : Nat → Nat → Int := va_up f a (va_up (f a) j x)
section AMWR
variable {sc : am_S} {M : am_M} {d pc : Nat} {L : List (Option Value)} {st : List Value} {r : Option Value} {h' : List am_C} {A : ST} {q : QS} {D : ST} {t : TS}
theorem wp_B_4 {idx : Nat} (z : Option Nat) (hd : decode M.2.1 pc = .ok (.putfield idx, 3)) (hf : am_fl M.1.cls idx 4 4) (kk : AW sc M d (pc + 3) L st (hp (x_s_pn A z) q D t) r h') : AW sc M d pc L (.int (pI z) :: .ref 1 :: st) (hp A q D t) r h' := aw_put 4 hd hf tb_B fi_B_4 rfl rfl rfl kk
theorem wp_B_5 {idx : Nat} (z : Nat) (hd : decode M.2.1 pc = .ok (.putfield idx, 3)) (hf : am_fl M.1.cls idx 4 5) (kk : AW sc M d (pc + 3) L st (hp (x_s_od A z) q D t) r h') : AW sc M d pc L (.int (nI z) :: .ref 1 :: st) (hp A q D t) r h' := aw_put 5 hd hf tb_B fi_B_5 rfl rfl rfl kk
theorem wp_B_6 {idx : Nat} (z : Bool) (hd : decode M.2.1 pc = .ok (.putfield idx, 3)) (hf : am_fl M.1.cls idx 4 6) (kk : AW sc M d (pc + 3) L st (hp (x_s_pr A z) q D t) r h') : AW sc M d pc L (.int (zI z) :: .ref 1 :: st) (hp A q D t) r h' := aw_put 6 hd hf tb_B fi_B_6 (zI_nar z) (zI_fit z) rfl kk
theorem wp_B_7 {idx : Nat} (z : Bool) (hd : decode M.2.1 pc = .ok (.putfield idx, 3)) (hf : am_fl M.1.cls idx 4 7) (kk : AW sc M d (pc + 3) L st (hp A (q_s_bk q z) D t) r h') : AW sc M d pc L (.int (zI z) :: .ref 1 :: st) (hp A q D t) r h' := aw_put 7 hd hf tb_B fi_B_7 (zI_nar z) (zI_fit z) rfl kk
theorem wp_B_8 {idx : Nat} (z : Option Nat) (hd : decode M.2.1 pc = .ok (.putfield idx, 3)) (hf : am_fl M.1.cls idx 4 8) (kk : AW sc M d (pc + 3) L st (hp A (q_s_ba q z) D t) r h') : AW sc M d pc L (.int (pI z) :: .ref 1 :: st) (hp A q D t) r h' := aw_put 8 hd hf tb_B fi_B_8 rfl rfl rfl kk
theorem wp_B_9 {idx : Nat} (z : Bool) (hd : decode M.2.1 pc = .ok (.putfield idx, 3)) (hf : am_fl M.1.cls idx 4 9) (kk : AW sc M d (pc + 3) L st (hp A (q_s_ck q z) D t) r h') : AW sc M d pc L (.int (zI z) :: .ref 1 :: st) (hp A q D t) r h' := aw_put 9 hd hf tb_B fi_B_9 (zI_nar z) (zI_fit z) rfl kk
theorem wp_B_10 {idx : Nat} (z : Nat) (hd : decode M.2.1 pc = .ok (.putfield idx, 3)) (hf : am_fl M.1.cls idx 4 10) (kk : AW sc M d (pc + 3) L st (hp A (q_s_cl q z) D t) r h') : AW sc M d pc L (.int (nI z) :: .ref 1 :: st) (hp A q D t) r h' := aw_put 10 hd hf tb_B fi_B_10 rfl rfl rfl kk
theorem wp_W_2 {idx : Nat} (z : Nat) (hd : decode M.2.1 pc = .ok (.putfield idx, 3)) (hf : am_fl M.1.cls idx 0 2) (kk : AW sc M d (pc + 3) L st (hp (x_s_nt A z) q D t) r h') : AW sc M d pc L (.int (nI z) :: .ref 2 :: st) (hp A q D t) r h' := aw_put 2 hd hf tb_W fi_W_2 rfl rfl rfl kk
theorem wp_W_5 {idx : Nat} (z : Nat) (hd : decode M.2.1 pc = .ok (.putfield idx, 3)) (hf : am_fl M.1.cls idx 0 5) (kk : AW sc M d (pc + 3) L st (hp (x_s_nc A z) q D t) r h') : AW sc M d pc L (.int (nI z) :: .ref 2 :: st) (hp A q D t) r h' := aw_put 5 hd hf tb_W fi_W_5 rfl rfl rfl kk
theorem wp_W_10 {idx : Nat} (z : Nat) (hd : decode M.2.1 pc = .ok (.putfield idx, 3)) (hf : am_fl M.1.cls idx 0 10) (kk : AW sc M d (pc + 3) L st (hp (x_s_mu A z) q D t) r h') : AW sc M d pc L (.int (nI z) :: .ref 2 :: st) (hp A q D t) r h' := aw_put 10 hd hf tb_W fi_W_10 rfl rfl rfl kk
theorem wp_W_11 {idx : Nat} (z : Nat) (hd : decode M.2.1 pc = .ok (.putfield idx, 3)) (hf : am_fl M.1.cls idx 0 11) (kk : AW sc M d (pc + 3) L st (hp (x_s_nj A z) q D t) r h') : AW sc M d pc L (.int (nI z) :: .ref 2 :: st) (hp A q D t) r h' := aw_put 11 hd hf tb_W fi_W_11 rfl rfl rfl kk
theorem wp_W_14 {idx : Nat} (z : Int) (hd : decode M.2.1 pc = .ok (.putfield idx, 3)) (hf : am_fl M.1.cls idx 0 14) (kk : AW sc M d (pc + 3) L st (hp (x_s_fa A z) q D t) r h') : AW sc M d pc L (.long (lZ z) :: .ref 2 :: st) (hp A q D t) r h' := aw_put 14 hd hf tb_W fi_W_14 rfl rfl rfl kk
theorem wp_S_1 {idx : Nat} (z : Int) (hd : decode M.2.1 pc = .ok (.putfield idx, 3)) (hf : am_fl M.1.cls idx 1 1) (kk : AW sc M d (pc + 3) L st (hp A (q_s_no q z) D t) r h') : AW sc M d pc L (.long (lZ z) :: .ref 26 :: st) (hp A q D t) r h' := aw_put 1 hd hf tb_S fi_S_1 rfl rfl rfl kk
theorem wp_S_2 {idx : Nat} (z : Nat) (hd : decode M.2.1 pc = .ok (.putfield idx, 3)) (hf : am_fl M.1.cls idx 1 2) (kk : AW sc M d (pc + 3) L st (hp A (q_s_mu q z) D t) r h') : AW sc M d pc L (.int (nI z) :: .ref 26 :: st) (hp A q D t) r h' := aw_put 2 hd hf tb_S fi_S_2 rfl rfl rfl kk
theorem wp_S_3 {idx : Nat} (z : Nat) (hd : decode M.2.1 pc = .ok (.putfield idx, 3)) (hf : am_fl M.1.cls idx 1 3) (kk : AW sc M d (pc + 3) L st (hp A (q_s_od q z) D t) r h') : AW sc M d pc L (.int (nI z) :: .ref 26 :: st) (hp A q D t) r h' := aw_put 3 hd hf tb_S fi_S_3 rfl rfl rfl kk
theorem wp_S_4 {idx : Nat} (z : Nat) (hd : decode M.2.1 pc = .ok (.putfield idx, 3)) (hf : am_fl M.1.cls idx 1 4) (kk : AW sc M d (pc + 3) L st (hp A (q_s_cm q z) D t) r h') : AW sc M d pc L (.int (nI z) :: .ref 26 :: st) (hp A q D t) r h' := aw_put 4 hd hf tb_S fi_S_4 rfl rfl rfl kk
theorem wp_S_5 {idx : Nat} (z : Bool) (hd : decode M.2.1 pc = .ok (.putfield idx, 3)) (hf : am_fl M.1.cls idx 1 5) (kk : AW sc M d (pc + 3) L st (hp A (q_s_oe q z) D t) r h') : AW sc M d pc L (.int (zI z) :: .ref 26 :: st) (hp A q D t) r h' := aw_put 5 hd hf tb_S fi_S_5 (zI_nar z) (zI_fit z) rfl kk
theorem wp_S_6 {idx : Nat} (z : Nat) (hd : decode M.2.1 pc = .ok (.putfield idx, 3)) (hf : am_fl M.1.cls idx 1 6) (kk : AW sc M d (pc + 3) L st (hp A (q_s_ud q z) D t) r h') : AW sc M d pc L (.int (nI z) :: .ref 26 :: st) (hp A q D t) r h' := aw_put 6 hd hf tb_S fi_S_6 rfl rfl rfl kk
theorem wp_S_10 {idx : Nat} (z : Nat) (hd : decode M.2.1 pc = .ok (.putfield idx, 3)) (hf : am_fl M.1.cls idx 1 10) (kk : AW sc M d (pc + 3) L st (hp A (q_s_pk q z) D t) r h') : AW sc M d pc L (.int (nI z) :: .ref 26 :: st) (hp A q D t) r h' := aw_put 10 hd hf tb_S fi_S_10 rfl rfl rfl kk
theorem wp_S_11 {idx : Nat} (z : Nat) (hd : decode M.2.1 pc = .ok (.putfield idx, 3)) (hf : am_fl M.1.cls idx 1 11) (kk : AW sc M d (pc + 3) L st (hp A (q_s_tk q z) D t) r h') : AW sc M d pc L (.int (nI z) :: .ref 26 :: st) (hp A q D t) r h' := aw_put 11 hd hf tb_S fi_S_11 rfl rfl rfl kk
theorem wp_S_12 {idx : Nat} (z : Nat) (hd : decode M.2.1 pc = .ok (.putfield idx, 3)) (hf : am_fl M.1.cls idx 1 12) (kk : AW sc M d (pc + 3) L st (hp A (q_s_sy q z) D t) r h') : AW sc M d pc L (.int (nI z) :: .ref 26 :: st) (hp A q D t) r h' := aw_put 12 hd hf tb_S fi_S_12 rfl rfl rfl kk
theorem wp_S_13 {idx : Nat} (z : Int) (hd : decode M.2.1 pc = .ok (.putfield idx, 3)) (hf : am_fl M.1.cls idx 1 13) (kk : AW sc M d (pc + 3) L st (hp A (q_s_ga q z) D t) r h') : AW sc M d pc L (.long (lZ z) :: .ref 26 :: st) (hp A q D t) r h' := aw_put 13 hd hf tb_S fi_S_13 rfl rfl rfl kk
theorem wp_S_16 {idx : Nat} (z : Option Nat) (hd : decode M.2.1 pc = .ok (.putfield idx, 3)) (hf : am_fl M.1.cls idx 1 16) (kk : AW sc M d (pc + 3) L st (hp A (q_s_be q z) D t) r h') : AW sc M d pc L (.int (pI z) :: .ref 26 :: st) (hp A q D t) r h' := aw_put 16 hd hf tb_S fi_S_16 rfl rfl rfl kk
theorem wp_S_17 {idx : Nat} (z : Nat) (hd : decode M.2.1 pc = .ok (.putfield idx, 3)) (hf : am_fl M.1.cls idx 1 17) (kk : AW sc M d (pc + 3) L st (hp A (q_s_bc q z) D t) r h') : AW sc M d pc L (.int (nI z) :: .ref 26 :: st) (hp A q D t) r h' := aw_put 17 hd hf tb_S fi_S_17 rfl rfl rfl kk
theorem wp_S_18 {idx : Nat} (z : Int) (hd : decode M.2.1 pc = .ok (.putfield idx, 3)) (hf : am_fl M.1.cls idx 1 18) (kk : AW sc M d (pc + 3) L st (hp A (q_s_bw q z) D t) r h') : AW sc M d pc L (.long (lZ z) :: .ref 26 :: st) (hp A q D t) r h' := aw_put 18 hd hf tb_S fi_S_18 rfl rfl rfl kk
theorem wp_S_19 {idx : Nat} (z : Nat) (hd : decode M.2.1 pc = .ok (.putfield idx, 3)) (hf : am_fl M.1.cls idx 1 19) (kk : AW sc M d (pc + 3) L st (hp A (q_s_bs q z) D t) r h') : AW sc M d pc L (.int (nI z) :: .ref 26 :: st) (hp A q D t) r h' := aw_put 19 hd hf tb_S fi_S_19 rfl rfl rfl kk
theorem wp_M_1 {idx : Nat} (z : Nat) (hd : decode M.2.1 pc = .ok (.putfield idx, 3)) (hf : am_fl M.1.cls idx 5 1) (kk : AW sc M d (pc + 3) L st (hp A q (x_s_nt D z) t) r h') : AW sc M d pc L (.int (nI z) :: .ref 50 :: st) (hp A q D t) r h' := aw_put 1 hd hf tb_M fi_M_1 rfl rfl rfl kk
theorem wp_M_4 {idx : Nat} (z : Nat) (hd : decode M.2.1 pc = .ok (.putfield idx, 3)) (hf : am_fl M.1.cls idx 5 4) (kk : AW sc M d (pc + 3) L st (hp A q (x_s_nc D z) t) r h') : AW sc M d pc L (.int (nI z) :: .ref 50 :: st) (hp A q D t) r h' := aw_put 4 hd hf tb_M fi_M_4 rfl rfl rfl kk
theorem wp_M_9 {idx : Nat} (z : Nat) (hd : decode M.2.1 pc = .ok (.putfield idx, 3)) (hf : am_fl M.1.cls idx 5 9) (kk : AW sc M d (pc + 3) L st (hp A q (x_s_mu D z) t) r h') : AW sc M d pc L (.int (nI z) :: .ref 50 :: st) (hp A q D t) r h' := aw_put 9 hd hf tb_M fi_M_9 rfl rfl rfl kk
theorem wp_M_11 {idx : Nat} (z : Nat) (hd : decode M.2.1 pc = .ok (.putfield idx, 3)) (hf : am_fl M.1.cls idx 5 11) (kk : AW sc M d (pc + 3) L st (hp A q (x_s_nj D z) t) r h') : AW sc M d pc L (.int (nI z) :: .ref 50 :: st) (hp A q D t) r h' := aw_put 11 hd hf tb_M fi_M_11 rfl rfl rfl kk
theorem wp_M_15 {idx : Nat} (z : Int) (hd : decode M.2.1 pc = .ok (.putfield idx, 3)) (hf : am_fl M.1.cls idx 5 15) (kk : AW sc M d (pc + 3) L st (hp A q (x_s_fa D z) t) r h') : AW sc M d pc L (.long (lZ z) :: .ref 50 :: st) (hp A q D t) r h' := aw_put 15 hd hf tb_M fi_M_15 rfl rfl rfl kk
theorem wp_M_16 {idx : Nat} (z : Option Nat) (hd : decode M.2.1 pc = .ok (.putfield idx, 3)) (hf : am_fl M.1.cls idx 5 16) (kk : AW sc M d (pc + 3) L st (hp A q (x_s_pn D z) t) r h') : AW sc M d pc L (.int (pI z) :: .ref 50 :: st) (hp A q D t) r h' := aw_put 16 hd hf tb_M fi_M_16 rfl rfl rfl kk
theorem wp_M_17 {idx : Nat} (z : Nat) (hd : decode M.2.1 pc = .ok (.putfield idx, 3)) (hf : am_fl M.1.cls idx 5 17) (kk : AW sc M d (pc + 3) L st (hp A q (x_s_od D z) t) r h') : AW sc M d pc L (.int (nI z) :: .ref 50 :: st) (hp A q D t) r h' := aw_put 17 hd hf tb_M fi_M_17 rfl rfl rfl kk
theorem wp_M_18 {idx : Nat} (z : Bool) (hd : decode M.2.1 pc = .ok (.putfield idx, 3)) (hf : am_fl M.1.cls idx 5 18) (kk : AW sc M d (pc + 3) L st (hp A q (x_s_pr D z) t) r h') : AW sc M d pc L (.int (zI z) :: .ref 50 :: st) (hp A q D t) r h' := aw_put 18 hd hf tb_M fi_M_18 (zI_nar z) (zI_fit z) rfl kk
theorem wa_2 {j : Nat} (z : Int) (hd : decode M.2.1 pc = .ok (.lastore, 1)) (hj : j < 6) (kk : AW sc M d (pc + 1) L st (hp (x_s_bu A (va_up (x_bu A) j z)) q D t) r h') : AW sc M d pc L (.long (lZ z) :: .int (nI j) :: .ref 3 :: st) (hp A q D t) r h' := aw_lastN hd rfl hj rfl kk
theorem wa_3 {j : Nat} (z : Nat) (hd : decode M.2.1 pc = .ok (.iastore, 1)) (hj : j < 12) (kk : AW sc M d (pc + 1) L st (hp (x_s_pl A (va_up (x_pl A) j z)) q D t) r h') : AW sc M d pc L (.int (nI z) :: .int (nI j) :: .ref 4 :: st) (hp A q D t) r h' := aw_iastN hd rfl hj rfl kk
theorem wa_4 {j : Nat} (z : Nat) (hd : decode M.2.1 pc = .ok (.iastore, 1)) (hj : j < 12) (kk : AW sc M d (pc + 1) L st (hp (x_s_di A (va_up (x_di A) j z)) q D t) r h') : AW sc M d pc L (.int (nI z) :: .int (nI j) :: .ref 5 :: st) (hp A q D t) r h' := aw_iastN hd rfl hj rfl kk
theorem wa_5 {j : Nat} (z : Nat) (hd : decode M.2.1 pc = .ok (.iastore, 1)) (hj : j < 14) (kk : AW sc M d (pc + 1) L st (hp (x_s_th A (va_up (x_th A) j z)) q D t) r h') : AW sc M d pc L (.int (nI z) :: .int (nI j) :: .ref 6 :: st) (hp A q D t) r h' := aw_iastN hd rfl hj rfl kk
theorem wa_6 {j : Nat} (z : Nat) (hd : decode M.2.1 pc = .ok (.iastore, 1)) (hj : j < 14) (kk : AW sc M d (pc + 1) L st (hp (x_s_yr A (va_up (x_yr A) j z)) q D t) r h') : AW sc M d pc L (.int (nI z) :: .int (nI j) :: .ref 7 :: st) (hp A q D t) r h' := aw_iastN hd rfl hj rfl kk
theorem wa_7 {j : Nat} (z : Int) (hd : decode M.2.1 pc = .ok (.lastore, 1)) (hj : j < 14) (kk : AW sc M d (pc + 1) L st (hp (x_s_co A (va_up (x_co A) j z)) q D t) r h') : AW sc M d pc L (.long (lZ z) :: .int (nI j) :: .ref 8 :: st) (hp A q D t) r h' := aw_lastN hd rfl hj rfl kk
theorem wa_8 {j : Nat} (z : Int) (hd : decode M.2.1 pc = .ok (.lastore, 1)) (hj : j < 14) (kk : AW sc M d (pc + 1) L st (hp (x_s_wo A (va_up (x_wo A) j z)) q D t) r h') : AW sc M d pc L (.long (lZ z) :: .int (nI j) :: .ref 9 :: st) (hp A q D t) r h' := aw_lastN hd rfl hj rfl kk
theorem wa_9 {j : Nat} (z : Nat) (hd : decode M.2.1 pc = .ok (.iastore, 1)) (hj : j < 14) (kk : AW sc M d (pc + 1) L st (hp (x_s_jt A (va_up (x_jt A) j z)) q D t) r h') : AW sc M d pc L (.int (nI z) :: .int (nI j) :: .ref 10 :: st) (hp A q D t) r h' := aw_iastN hd rfl hj rfl kk
theorem wa_26 {j : Nat} (z : Int) (hd : decode M.2.1 pc = .ok (.lastore, 1)) (hj : j < 6) (kk : AW sc M d (pc + 1) L st (hp A (q_s_li q (va_up (q_li q) j z)) D t) r h') : AW sc M d pc L (.long (lZ z) :: .int (nI j) :: .ref 27 :: st) (hp A q D t) r h' := aw_lastN hd rfl hj rfl kk
theorem wa_43 {j : Nat} (z : Int) (hd : decode M.2.1 pc = .ok (.lastore, 1)) (hj : j < 15) (kk : AW sc M d (pc + 1) L st (hp A (q_s_wf q (va_up (q_wf q) j z)) D t) r h') : AW sc M d pc L (.long (lZ z) :: .int (nI j) :: .ref 44 :: st) (hp A q D t) r h' := aw_lastN hd rfl hj rfl kk
theorem wa_44 {j : Nat} (z : Int) (hd : decode M.2.1 pc = .ok (.lastore, 1)) (hj : j < 6) (kk : AW sc M d (pc + 1) L st (hp A (q_s_sp q (va_up (q_sp q) j z)) D t) r h') : AW sc M d pc L (.long (lZ z) :: .int (nI j) :: .ref 45 :: st) (hp A q D t) r h' := aw_lastN hd rfl hj rfl kk
theorem wa_45 {j : Nat} (z : Int) (hd : decode M.2.1 pc = .ok (.lastore, 1)) (hj : j < 4) (kk : AW sc M d (pc + 1) L st (hp A (q_s_gi q (va_up (q_gi q) j z)) D t) r h') : AW sc M d pc L (.long (lZ z) :: .int (nI j) :: .ref 46 :: st) (hp A q D t) r h' := aw_lastN hd rfl hj rfl kk
theorem wa_48 {j : Nat} (z : Nat) (hd : decode M.2.1 pc = .ok (.iastore, 1)) (hj : j < 14) (kk : AW sc M d (pc + 1) L st (hp A (q_s_or q (va_up (q_or q) j z)) D t) r h') : AW sc M d pc L (.int (nI z) :: .int (nI j) :: .ref 49 :: st) (hp A q D t) r h' := aw_iastN hd rfl hj rfl kk
theorem wa_50 {j : Nat} (z : Nat) (hd : decode M.2.1 pc = .ok (.iastore, 1)) (hj : j < 12) (kk : AW sc M d (pc + 1) L st (hp A q (x_s_pl D (va_up (x_pl D) j z)) t) r h') : AW sc M d pc L (.int (nI z) :: .int (nI j) :: .ref 51 :: st) (hp A q D t) r h' := aw_iastN hd rfl hj rfl kk
theorem wa_51 {j : Nat} (z : Nat) (hd : decode M.2.1 pc = .ok (.iastore, 1)) (hj : j < 12) (kk : AW sc M d (pc + 1) L st (hp A q (x_s_di D (va_up (x_di D) j z)) t) r h') : AW sc M d pc L (.int (nI z) :: .int (nI j) :: .ref 52 :: st) (hp A q D t) r h' := aw_iastN hd rfl hj rfl kk
theorem wa_52 {j : Nat} (z : Nat) (hd : decode M.2.1 pc = .ok (.iastore, 1)) (hj : j < 14) (kk : AW sc M d (pc + 1) L st (hp A q (x_s_th D (va_up (x_th D) j z)) t) r h') : AW sc M d pc L (.int (nI z) :: .int (nI j) :: .ref 53 :: st) (hp A q D t) r h' := aw_iastN hd rfl hj rfl kk
theorem wa_53 {j : Nat} (z : Nat) (hd : decode M.2.1 pc = .ok (.iastore, 1)) (hj : j < 14) (kk : AW sc M d (pc + 1) L st (hp A q (x_s_yr D (va_up (x_yr D) j z)) t) r h') : AW sc M d pc L (.int (nI z) :: .int (nI j) :: .ref 54 :: st) (hp A q D t) r h' := aw_iastN hd rfl hj rfl kk
theorem wa_54 {j : Nat} (z : Int) (hd : decode M.2.1 pc = .ok (.lastore, 1)) (hj : j < 14) (kk : AW sc M d (pc + 1) L st (hp A q (x_s_co D (va_up (x_co D) j z)) t) r h') : AW sc M d pc L (.long (lZ z) :: .int (nI j) :: .ref 55 :: st) (hp A q D t) r h' := aw_lastN hd rfl hj rfl kk
theorem wa_55 {j : Nat} (z : Int) (hd : decode M.2.1 pc = .ok (.lastore, 1)) (hj : j < 14) (kk : AW sc M d (pc + 1) L st (hp A q (x_s_wo D (va_up (x_wo D) j z)) t) r h') : AW sc M d pc L (.long (lZ z) :: .int (nI j) :: .ref 56 :: st) (hp A q D t) r h' := aw_lastN hd rfl hj rfl kk
theorem wa_56 {j : Nat} (z : Int) (hd : decode M.2.1 pc = .ok (.lastore, 1)) (hj : j < 6) (kk : AW sc M d (pc + 1) L st (hp A q (x_s_bu D (va_up (x_bu D) j z)) t) r h') : AW sc M d pc L (.long (lZ z) :: .int (nI j) :: .ref 57 :: st) (hp A q D t) r h' := aw_lastN hd rfl hj rfl kk
theorem wa_57 {j : Nat} (z : Nat) (hd : decode M.2.1 pc = .ok (.iastore, 1)) (hj : j < 20) (kk : AW sc M d (pc + 1) L st (hp A q (x_s_ja D (va_up (x_ja D) j z)) t) r h') : AW sc M d pc L (.int (nI z) :: .int (nI j) :: .ref 58 :: st) (hp A q D t) r h' := aw_iastN hd rfl hj rfl kk
theorem wa_58 {j : Nat} (z : Nat) (hd : decode M.2.1 pc = .ok (.iastore, 1)) (hj : j < 20) (kk : AW sc M d (pc + 1) L st (hp A q (x_s_jb D (va_up (x_jb D) j z)) t) r h') : AW sc M d pc L (.int (nI z) :: .int (nI j) :: .ref 59 :: st) (hp A q D t) r h' := aw_iastN hd rfl hj rfl kk
theorem wa_59 {j : Nat} (z : Int) (hd : decode M.2.1 pc = .ok (.lastore, 1)) (hj : j < 20) (kk : AW sc M d (pc + 1) L st (hp A q (x_s_js D (va_up (x_js D) j z)) t) r h') : AW sc M d pc L (.long (lZ z) :: .int (nI j) :: .ref 60 :: st) (hp A q D t) r h' := aw_lastN hd rfl hj rfl kk
theorem wa_61 {j : Nat} (z : Int) (hd : decode M.2.1 pc = .ok (.lastore, 1)) (hj : j < 4) (kk : AW sc M d (pc + 1) L st (hp A q D (t_s_pa t (va_up (t_pa t) j z))) r h') : AW sc M d pc L (.long (lZ z) :: .int (nI j) :: .ref 62 :: st) (hp A q D t) r h' := aw_lastN hd rfl hj rfl kk
theorem wa_62 {j : Nat} (z : Nat) (hd : decode M.2.1 pc = .ok (.iastore, 1)) (hj : j < 14) (kk : AW sc M d (pc + 1) L st (hp A q D (t_s_or t (va_up (t_or t) j z))) r h') : AW sc M d pc L (.int (nI z) :: .int (nI j) :: .ref 63 :: st) (hp A q D t) r h' := aw_iastN hd rfl hj rfl kk
theorem wa_63 {j : Nat} (z : Nat) (hd : decode M.2.1 pc = .ok (.iastore, 1)) (hj : j < 12) (kk : AW sc M d (pc + 1) L st (hp A q D (t_s_ra t (va_up (t_ra t) j z))) r h') : AW sc M d pc L (.int (nI z) :: .int (nI j) :: .ref 64 :: st) (hp A q D t) r h' := aw_iastN hd rfl hj rfl kk
theorem wa_sf {a j : Nat} (z : Int) (hd : decode M.2.1 pc = .ok (.lastore, 1)) (ha : a < 15) (hj : j < 6) (kk : AW sc M d (pc + 1) L st (hp A (q_s_sf q (up2 (q_sf q) a j z)) D t) r h') : AW sc M d pc L (.long (lZ z) :: .int (nI j) :: .ref ((28 + a) + 1) :: st) (hp A q D t) r h' := by
  refine aw_lastN hd (hp_sf A q D t a ha) hj rfl ?_
  have e : (hp A q D t).set (28 + a) (aL 6 (va_up (q_sf q a) j z)) = hp A (q_s_sf q (up2 (q_sf q) a j z)) D t := by
    rcases (show a = 0 ∨ a = 1 ∨ a = 2 ∨ a = 3 ∨ a = 4 ∨ a = 5 ∨ a = 6 ∨ a = 7 ∨ a = 8 ∨ a = 9 ∨ a = 10 ∨ a = 11 ∨ a = 12 ∨ a = 13 ∨ a = 14 by omega) with rfl | rfl | rfl | rfl | rfl | rfl | rfl | rfl | rfl | rfl | rfl | rfl | rfl | rfl | rfl <;> rfl
  rw [e]
  exact kk
theorem wa_sv {a j : Nat} (z : Int) (hd : decode M.2.1 pc = .ok (.lastore, 1)) (ha : a < 14) (hj : j < 14) (kk : AW sc M d (pc + 1) L st (hp (x_s_sv A (up2 (x_sv A) a j z)) q D t) r h') : AW sc M d pc L (.long (lZ z) :: .int (nI j) :: .ref ((11 + a) + 1) :: st) (hp A q D t) r h' := by
  refine aw_lastN hd (hp_sv A q D t a ha) hj rfl ?_
  have e : (hp A q D t).set (11 + a) (aL 14 (va_up (x_sv A a) j z)) = hp (x_s_sv A (up2 (x_sv A) a j z)) q D t := by
    rcases (show a = 0 ∨ a = 1 ∨ a = 2 ∨ a = 3 ∨ a = 4 ∨ a = 5 ∨ a = 6 ∨ a = 7 ∨ a = 8 ∨ a = 9 ∨ a = 10 ∨ a = 11 ∨ a = 12 ∨ a = 13 by omega) with rfl | rfl | rfl | rfl | rfl | rfl | rfl | rfl | rfl | rfl | rfl | rfl | rfl | rfl <;> rfl
  rw [e]
  exact kk
end AMWR
end
section
/-! CONTRACTS 1: the JDK's, the static ones, the tests of numbers -/
theorem nge_lt {a b : Nat} (c : ¬ nI b ≤ nI a) (ha : a < 2 ^ 31) (hb : b < 2 ^ 31) : a < b := by
  rw [nI_leI hb ha] at c
  omega
theorem nge_ge {a b : Nat} (c : nI b ≤ nI a) (ha : a < 2 ^ 31) (hb : b < 2 ^ 31) : b ≤ a := (nI_leI hb ha).mp c
theorem bt_dec {m c : Nat} (hm : m < 2 ^ 31) (hc : c < 32) : decide ((nI m >>> (nI c &&& 31)) &&& 1 = 1) = m.testBit c := by
  rw [Bool.eq_iff_iff, decide_eq_true_iff]
  exact bt_is hm hc
def bcI (x : Int32) : Int32 :=
  let a := x - ((x.toUInt32 >>> ((1 : Int32).toUInt32 &&& Int32.toUInt32 31)).toInt32 &&& 1431655765)
  let b := (a &&& 858993459) + ((a.toUInt32 >>> ((2 : Int32).toUInt32 &&& Int32.toUInt32 31)).toInt32 &&& 858993459)
  let c := (b + (b.toUInt32 >>> ((4 : Int32).toUInt32 &&& Int32.toUInt32 31)).toInt32) &&& 252645135
  let d := c + (c.toUInt32 >>> ((8 : Int32).toUInt32 &&& Int32.toUInt32 31)).toInt32
  let e := d + (d.toUInt32 >>> ((16 : Int32).toUInt32 &&& Int32.toUInt32 31)).toInt32
  e &&& 63
theorem c_JL_compare (sc : am_S) (h : List am_C) (x y : Int64)  : AM sc m_JL_compare 0 [.long x, .long y] h (some (.int (if y ≤ x then (if x = y then 0 else 1) else -1))) h := by
  refine AM.of (by decide) (Nat.le_of_ble_eq_true rfl) ?_
  show AW sc m_JL_compare 0 0 [some (.long x), none, some (.long y), none] [] _ _ _
  refine aw_lload_n 0 q_JL_compare_0 rfl rfl ?_
  refine aw_lload_n 2 q_JL_compare_1 rfl rfl ?_
  refine aw_lcmp_ge 10 q_JL_compare_2 q_JL_compare_3 rfl (fun c2 => ?_) (fun c2 => ?_)
  · skip
    refine aw_lload_n 0 q_JL_compare_10 rfl rfl ?_
    refine aw_lload_n 2 q_JL_compare_11 rfl rfl ?_
    refine aw_lcmp_ne 20 q_JL_compare_12 q_JL_compare_13 rfl (fun c12 => ?_) (fun c12 => ?_)
    · skip
      refine aw_iconst 1 q_JL_compare_20 rfl ?_
      exact aw_iret .int q_JL_compare_21 rfl rfl (by simp [*]) rfl
    · skip
      refine aw_iconst 0 q_JL_compare_16 rfl ?_
      refine aw_goto 21 q_JL_compare_17 rfl ?_
      exact aw_iret .int q_JL_compare_21 rfl rfl (by simp [*]) rfl
  · skip
    refine aw_iconst (-1) q_JL_compare_6 rfl ?_
    refine aw_goto 21 q_JL_compare_7 rfl ?_
    exact aw_iret .int q_JL_compare_21 rfl rfl (by simp [*]) rfl
theorem c_JI_bitCount (sc : am_S) (h : List am_C) (x : Int32)  : AM sc m_JI_bitCount 0 [.int x] h (some (.int (bcI x))) h := by
  refine AM.of (by decide) (Nat.le_of_ble_eq_true rfl) ?_
  show AW sc m_JI_bitCount 0 0 [some (.int x)] [] _ _ _
  refine aw_iload_n 0 q_JI_bitCount_0 rfl rfl ?_
  refine aw_iload_n 0 q_JI_bitCount_1 rfl rfl ?_
  refine aw_iconst 1 q_JI_bitCount_2 rfl ?_
  refine aw_iushr q_JI_bitCount_3 ?_
  refine aw_ldcw 1431655765 q_JI_bitCount_4 (am_in2 (i := 111) rfl rfl) ?_
  refine aw_iand q_JI_bitCount_7 ?_
  refine aw_isub q_JI_bitCount_8 ?_
  refine aw_istore_n 0 q_JI_bitCount_9 rfl rfl rfl ?_
  refine aw_iload_n 0 q_JI_bitCount_10 rfl rfl ?_
  refine aw_ldcw 858993459 q_JI_bitCount_11 (am_in2 (i := 112) rfl rfl) ?_
  refine aw_iand q_JI_bitCount_14 ?_
  refine aw_iload_n 0 q_JI_bitCount_15 rfl rfl ?_
  refine aw_iconst 2 q_JI_bitCount_16 rfl ?_
  refine aw_iushr q_JI_bitCount_17 ?_
  refine aw_ldcw 858993459 q_JI_bitCount_18 (am_in2 (i := 112) rfl rfl) ?_
  refine aw_iand q_JI_bitCount_21 ?_
  refine aw_iadd q_JI_bitCount_22 ?_
  refine aw_istore_n 0 q_JI_bitCount_23 rfl rfl rfl ?_
  refine aw_iload_n 0 q_JI_bitCount_24 rfl rfl ?_
  refine aw_iload_n 0 q_JI_bitCount_25 rfl rfl ?_
  refine aw_iconst 4 q_JI_bitCount_26 rfl ?_
  refine aw_iushr q_JI_bitCount_27 ?_
  refine aw_iadd q_JI_bitCount_28 ?_
  refine aw_ldcw 252645135 q_JI_bitCount_29 (am_in2 (i := 113) rfl rfl) ?_
  refine aw_iand q_JI_bitCount_32 ?_
  refine aw_istore_n 0 q_JI_bitCount_33 rfl rfl rfl ?_
  refine aw_iload_n 0 q_JI_bitCount_34 rfl rfl ?_
  refine aw_iload_n 0 q_JI_bitCount_35 rfl rfl ?_
  refine aw_bipush 8 q_JI_bitCount_36 rfl ?_
  refine aw_iushr q_JI_bitCount_38 ?_
  refine aw_iadd q_JI_bitCount_39 ?_
  refine aw_istore_n 0 q_JI_bitCount_40 rfl rfl rfl ?_
  refine aw_iload_n 0 q_JI_bitCount_41 rfl rfl ?_
  refine aw_iload_n 0 q_JI_bitCount_42 rfl rfl ?_
  refine aw_bipush 16 q_JI_bitCount_43 rfl ?_
  refine aw_iushr q_JI_bitCount_45 ?_
  refine aw_iadd q_JI_bitCount_46 ?_
  refine aw_istore_n 0 q_JI_bitCount_47 rfl rfl rfl ?_
  refine aw_iload_n 0 q_JI_bitCount_48 rfl rfl ?_
  refine aw_bipush 63 q_JI_bitCount_49 rfl ?_
  refine aw_iand q_JI_bitCount_51 ?_
  exact aw_iret .int q_JI_bitCount_52 rfl rfl rfl rfl
theorem c_B_isIn (sc : am_S) (h : List am_C) (m c : Nat) (hm : m < 2 ^ 31) (hc : c < 32) : AM sc m_B_isIn 0 [.int (nI m), .int (nI c)] h (some (.int (zI (m.testBit c)))) h := by
  refine AM.of (by decide) (Nat.le_of_ble_eq_true rfl) ?_
  show AW sc m_B_isIn 0 0 [some (.int (nI m)), some (.int (nI c))] [] _ _ _
  rw [← bt_dec hm hc]
  refine aw_iload_n 0 q_B_isIn_0 rfl rfl ?_
  refine aw_iload_n 1 q_B_isIn_1 rfl rfl ?_
  refine aw_ishr q_B_isIn_2 ?_
  refine aw_iconst 1 q_B_isIn_3 rfl ?_
  refine aw_iand q_B_isIn_4 ?_
  refine aw_iconst 1 q_B_isIn_5 rfl ?_
  refine aw_icmp_ne 13 q_B_isIn_6 rfl (fun c6 => ?_) (fun c6 => ?_)
  · skip
    refine aw_iconst 0 q_B_isIn_13 rfl ?_
    exact aw_iret .boolean q_B_isIn_14 rfl rfl (by simp [zI, *]) rfl
  · skip
    refine aw_iconst 1 q_B_isIn_9 rfl ?_
    refine aw_goto 14 q_B_isIn_10 rfl ?_
    exact aw_iret .boolean q_B_isIn_14 rfl rfl (by simp [zI, *]) rfl
theorem c_M_has (sc : am_S) (h : List am_C) (m c : Nat) (hm : m < 2 ^ 31) (hc : c < 32) : AM sc m_M_has 0 [.int (nI m), .int (nI c)] h (some (.int (zI (m.testBit c)))) h := by
  refine AM.of (by decide) (Nat.le_of_ble_eq_true rfl) ?_
  show AW sc m_M_has 0 0 [some (.int (nI m)), some (.int (nI c))] [] _ _ _
  rw [← bt_dec hm hc]
  refine aw_iload_n 0 q_M_has_0 rfl rfl ?_
  refine aw_iload_n 1 q_M_has_1 rfl rfl ?_
  refine aw_ishr q_M_has_2 ?_
  refine aw_iconst 1 q_M_has_3 rfl ?_
  refine aw_iand q_M_has_4 ?_
  refine aw_iconst 1 q_M_has_5 rfl ?_
  refine aw_icmp_ne 13 q_M_has_6 rfl (fun c6 => ?_) (fun c6 => ?_)
  · skip
    refine aw_iconst 0 q_M_has_13 rfl ?_
    exact aw_iret .boolean q_M_has_14 rfl rfl (by simp [zI, *]) rfl
  · skip
    refine aw_iconst 1 q_M_has_9 rfl ?_
    refine aw_goto 14 q_M_has_10 rfl ?_
    exact aw_iret .boolean q_M_has_14 rfl rfl (by simp [zI, *]) rfl
theorem c_B_isWithin (sc : am_S) (h : List am_C) (v w : Int64)  : AM sc m_B_isWithin 0 [.long v, .long w] h (some (.int (zI (decide (¬ v < 0 ∧ ¬ w < v))))) h := by
  refine AM.of (by decide) (Nat.le_of_ble_eq_true rfl) ?_
  show AW sc m_B_isWithin 0 0 [some (.long v), none, some (.long w), none] [] _ _ _
  refine aw_lload_n 0 q_B_isWithin_0 rfl rfl ?_
  refine aw_lconst 0 q_B_isWithin_1 rfl ?_
  refine aw_lcmp_lt 16 q_B_isWithin_2 q_B_isWithin_3 rfl (fun c2 => ?_) (fun c2 => ?_)
  · skip
    refine aw_iconst 0 q_B_isWithin_16 rfl ?_
    exact aw_iret .boolean q_B_isWithin_17 rfl rfl (by simp [zI, *]) rfl
  · skip
    refine aw_lload_n 0 q_B_isWithin_6 rfl rfl ?_
    refine aw_lload_n 2 q_B_isWithin_7 rfl rfl ?_
    refine aw_lcmp_gt 16 q_B_isWithin_8 q_B_isWithin_9 rfl (fun c8 => ?_) (fun c8 => ?_)
    · skip
      refine aw_iconst 0 q_B_isWithin_16 rfl ?_
      exact aw_iret .boolean q_B_isWithin_17 rfl rfl (by simp [zI, *]) rfl
    · skip
      refine aw_iconst 1 q_B_isWithin_12 rfl ?_
      refine aw_goto 17 q_B_isWithin_13 rfl ?_
      exact aw_iret .boolean q_B_isWithin_17 rfl rfl (by simp [zI, *]) rfl
theorem c_M_in (sc : am_S) (h : List am_C) (v a w : Int64)  : AM sc m_M_in 0 [.long v, .long a, .long w] h (some (.int (zI (decide (¬ v < a ∧ ¬ w < v))))) h := by
  refine AM.of (by decide) (Nat.le_of_ble_eq_true rfl) ?_
  show AW sc m_M_in 0 0 [some (.long v), none, some (.long a), none, some (.long w), none] [] _ _ _
  refine aw_lload_n 0 q_M_in_0 rfl rfl ?_
  refine aw_lload_n 2 q_M_in_1 rfl rfl ?_
  refine aw_lcmp_lt 17 q_M_in_2 q_M_in_3 rfl (fun c2 => ?_) (fun c2 => ?_)
  · skip
    refine aw_iconst 0 q_M_in_17 rfl ?_
    exact aw_iret .boolean q_M_in_18 rfl rfl (by simp [zI, *]) rfl
  · skip
    refine aw_lload_n 0 q_M_in_6 rfl rfl ?_
    refine aw_lload q_M_in_7 rfl ?_
    refine aw_lcmp_gt 17 q_M_in_9 q_M_in_10 rfl (fun c9 => ?_) (fun c9 => ?_)
    · skip
      refine aw_iconst 0 q_M_in_17 rfl ?_
      exact aw_iret .boolean q_M_in_18 rfl rfl (by simp [zI, *]) rfl
    · skip
      refine aw_iconst 1 q_M_in_13 rfl ?_
      refine aw_goto 18 q_M_in_14 rfl ?_
      exact aw_iret .boolean q_M_in_18 rfl rfl (by simp [zI, *]) rfl
theorem c_B_isDistrict (sc : am_S) (h : List am_C) (x : Int32)  : AM sc m_B_isDistrict 0 [.int x] h (some (.int (zI (decide (¬ x < 0 ∧ ¬ 4 ≤ x))))) h := by
  refine AM.of (by decide) (Nat.le_of_ble_eq_true rfl) ?_
  show AW sc m_B_isDistrict 0 0 [some (.int x)] [] _ _ _
  refine aw_iload_n 0 q_B_isDistrict_0 rfl rfl ?_
  refine aw_if_lt 13 q_B_isDistrict_1 rfl (fun c1 => ?_) (fun c1 => ?_)
  · skip
    refine aw_iconst 0 q_B_isDistrict_13 rfl ?_
    exact aw_iret .boolean q_B_isDistrict_14 rfl rfl (by simp [zI, *]) rfl
  · skip
    refine aw_iload_n 0 q_B_isDistrict_4 rfl rfl ?_
    refine aw_iconst 4 q_B_isDistrict_5 rfl ?_
    refine aw_icmp_ge 13 q_B_isDistrict_6 rfl (fun c6 => ?_) (fun c6 => ?_)
    · skip
      refine aw_iconst 0 q_B_isDistrict_13 rfl ?_
      exact aw_iret .boolean q_B_isDistrict_14 rfl rfl (by simp [zI, *]) rfl
    · skip
      refine aw_iconst 1 q_B_isDistrict_9 rfl ?_
      refine aw_goto 14 q_B_isDistrict_10 rfl ?_
      exact aw_iret .boolean q_B_isDistrict_14 rfl rfl (by simp [zI, *]) rfl
theorem c_B_isNodes (sc : am_S) (h : List am_C) (v : Int64)  : AM sc m_B_isNodes 0 [.long v] h (some (.int (zI (decide (¬ v < 1 ∧ ¬ 20000 < v))))) h := by
  refine AM.of (by decide) (Nat.le_of_ble_eq_true rfl) ?_
  show AW sc m_B_isNodes 0 0 [some (.long v), none] [] _ _ _
  refine aw_lload_n 0 q_B_isNodes_0 rfl rfl ?_
  refine aw_lconst 1 q_B_isNodes_1 rfl ?_
  refine aw_lcmp_lt 18 q_B_isNodes_2 q_B_isNodes_3 rfl (fun c2 => ?_) (fun c2 => ?_)
  · skip
    refine aw_iconst 0 q_B_isNodes_18 rfl ?_
    exact aw_iret .boolean q_B_isNodes_19 rfl rfl (by simp [zI, *]) rfl
  · skip
    refine aw_lload_n 0 q_B_isNodes_6 rfl rfl ?_
    refine aw_ldc2 20000 q_B_isNodes_7 (am_in2 (i := 75) rfl rfl) ?_
    refine aw_lcmp_gt 18 q_B_isNodes_10 q_B_isNodes_11 rfl (fun c10 => ?_) (fun c10 => ?_)
    · skip
      refine aw_iconst 0 q_B_isNodes_18 rfl ?_
      exact aw_iret .boolean q_B_isNodes_19 rfl rfl (by simp [zI, *]) rfl
    · skip
      refine aw_iconst 1 q_B_isNodes_14 rfl ?_
      refine aw_goto 19 q_B_isNodes_15 rfl ?_
      exact aw_iret .boolean q_B_isNodes_19 rfl rfl (by simp [zI, *]) rfl
theorem c_W_isYear (sc : am_S) (A : ST) (q : QS) (D : ST) (t : TS) (x : Int32)  : AM sc m_W_isYear 0 [.ref 2, .int x] (hp A q D t) (some (.int (zI (decide (¬ x < 0 ∧ ¬ nI (x_ny A) ≤ x))))) (hp A q D t) := by
  refine AM.of (by decide) (Nat.le_of_ble_eq_true rfl) ?_
  show AW sc m_W_isYear 0 0 [some (.ref 2), some (.int x)] [] _ _ _
  refine aw_iload_n 1 q_W_isYear_0 rfl rfl ?_
  refine aw_if_lt 16 q_W_isYear_1 rfl (fun c1 => ?_) (fun c1 => ?_)
  · skip
    refine aw_iconst 0 q_W_isYear_16 rfl ?_
    exact aw_iret .boolean q_W_isYear_17 rfl rfl (by simp [zI, *]) rfl
  · skip
    refine aw_iload_n 1 q_W_isYear_4 rfl rfl ?_
    refine aw_aload_n 0 q_W_isYear_5 rfl rfl ?_
    refine aw_get 0 q_W_isYear_6 fl_W_48 rfl rfl ?_
    refine aw_icmp_ge 16 q_W_isYear_9 rfl (fun c9 => ?_) (fun c9 => ?_)
    · skip
      refine aw_iconst 0 q_W_isYear_16 rfl ?_
      exact aw_iret .boolean q_W_isYear_17 rfl rfl (by simp [zI, *]) rfl
    · skip
      refine aw_iconst 1 q_W_isYear_12 rfl ?_
      refine aw_goto 17 q_W_isYear_13 rfl ?_
      exact aw_iret .boolean q_W_isYear_17 rfl rfl (by simp [zI, *]) rfl
theorem c_W_isThing (sc : am_S) (A : ST) (q : QS) (D : ST) (t : TS) (x : Int32)  : AM sc m_W_isThing 0 [.ref 2, .int x] (hp A q D t) (some (.int (zI (decide (¬ x < 0 ∧ ¬ nI (x_nt A) ≤ x))))) (hp A q D t) := by
  refine AM.of (by decide) (Nat.le_of_ble_eq_true rfl) ?_
  show AW sc m_W_isThing 0 0 [some (.ref 2), some (.int x)] [] _ _ _
  refine aw_iload_n 1 q_W_isThing_0 rfl rfl ?_
  refine aw_if_lt 16 q_W_isThing_1 rfl (fun c1 => ?_) (fun c1 => ?_)
  · skip
    refine aw_iconst 0 q_W_isThing_16 rfl ?_
    exact aw_iret .boolean q_W_isThing_17 rfl rfl (by simp [zI, *]) rfl
  · skip
    refine aw_iload_n 1 q_W_isThing_4 rfl rfl ?_
    refine aw_aload_n 0 q_W_isThing_5 rfl rfl ?_
    refine aw_get 2 q_W_isThing_6 fl_W_52 rfl rfl ?_
    refine aw_icmp_ge 16 q_W_isThing_9 rfl (fun c9 => ?_) (fun c9 => ?_)
    · skip
      refine aw_iconst 0 q_W_isThing_16 rfl ?_
      exact aw_iret .boolean q_W_isThing_17 rfl rfl (by simp [zI, *]) rfl
    · skip
      refine aw_iconst 1 q_W_isThing_12 rfl ?_
      refine aw_goto 17 q_W_isThing_13 rfl ?_
      exact aw_iret .boolean q_W_isThing_17 rfl rfl (by simp [zI, *]) rfl
theorem c_W_isChoice (sc : am_S) (A : ST) (q : QS) (D : ST) (t : TS) (x : Int32)  : AM sc m_W_isChoice 0 [.ref 2, .int x] (hp A q D t) (some (.int (zI (decide (¬ x < 0 ∧ ¬ nI (x_nc A) ≤ x))))) (hp A q D t) := by
  refine AM.of (by decide) (Nat.le_of_ble_eq_true rfl) ?_
  show AW sc m_W_isChoice 0 0 [some (.ref 2), some (.int x)] [] _ _ _
  refine aw_iload_n 1 q_W_isChoice_0 rfl rfl ?_
  refine aw_if_lt 16 q_W_isChoice_1 rfl (fun c1 => ?_) (fun c1 => ?_)
  · skip
    refine aw_iconst 0 q_W_isChoice_16 rfl ?_
    exact aw_iret .boolean q_W_isChoice_17 rfl rfl (by simp [zI, *]) rfl
  · skip
    refine aw_iload_n 1 q_W_isChoice_4 rfl rfl ?_
    refine aw_aload_n 0 q_W_isChoice_5 rfl rfl ?_
    refine aw_get 5 q_W_isChoice_6 fl_W_55 rfl rfl ?_
    refine aw_icmp_ge 16 q_W_isChoice_9 rfl (fun c9 => ?_) (fun c9 => ?_)
    · skip
      refine aw_iconst 0 q_W_isChoice_16 rfl ?_
      exact aw_iret .boolean q_W_isChoice_17 rfl rfl (by simp [zI, *]) rfl
    · skip
      refine aw_iconst 1 q_W_isChoice_12 rfl ?_
      refine aw_goto 17 q_W_isChoice_13 rfl ?_
      exact aw_iret .boolean q_W_isChoice_17 rfl rfl (by simp [zI, *]) rfl
theorem c_M_isYear (sc : am_S) (A : ST) (q : QS) (D : ST) (t : TS) (x : Int32)  : AM sc m_M_isYear 0 [.ref 50, .int x] (hp A q D t) (some (.int (zI (decide (¬ x < 0 ∧ ¬ nI (x_ny D) ≤ x))))) (hp A q D t) := by
  refine AM.of (by decide) (Nat.le_of_ble_eq_true rfl) ?_
  show AW sc m_M_isYear 0 0 [some (.ref 50), some (.int x)] [] _ _ _
  refine aw_iload_n 1 q_M_isYear_0 rfl rfl ?_
  refine aw_if_lt 16 q_M_isYear_1 rfl (fun c1 => ?_) (fun c1 => ?_)
  · skip
    refine aw_iconst 0 q_M_isYear_16 rfl ?_
    exact aw_iret .boolean q_M_isYear_17 rfl rfl (by simp [zI, *]) rfl
  · skip
    refine aw_iload_n 1 q_M_isYear_4 rfl rfl ?_
    refine aw_aload_n 0 q_M_isYear_5 rfl rfl ?_
    refine aw_get 0 q_M_isYear_6 fl_M_63 rfl rfl ?_
    refine aw_icmp_ge 16 q_M_isYear_9 rfl (fun c9 => ?_) (fun c9 => ?_)
    · skip
      refine aw_iconst 0 q_M_isYear_16 rfl ?_
      exact aw_iret .boolean q_M_isYear_17 rfl rfl (by simp [zI, *]) rfl
    · skip
      refine aw_iconst 1 q_M_isYear_12 rfl ?_
      refine aw_goto 17 q_M_isYear_13 rfl ?_
      exact aw_iret .boolean q_M_isYear_17 rfl rfl (by simp [zI, *]) rfl
theorem c_M_isChoice (sc : am_S) (A : ST) (q : QS) (D : ST) (t : TS) (x : Int32)  : AM sc m_M_isChoice 0 [.ref 50, .int x] (hp A q D t) (some (.int (zI (decide (¬ x < 0 ∧ ¬ nI (x_nc D) ≤ x))))) (hp A q D t) := by
  refine AM.of (by decide) (Nat.le_of_ble_eq_true rfl) ?_
  show AW sc m_M_isChoice 0 0 [some (.ref 50), some (.int x)] [] _ _ _
  refine aw_iload_n 1 q_M_isChoice_0 rfl rfl ?_
  refine aw_if_lt 16 q_M_isChoice_1 rfl (fun c1 => ?_) (fun c1 => ?_)
  · skip
    refine aw_iconst 0 q_M_isChoice_16 rfl ?_
    exact aw_iret .boolean q_M_isChoice_17 rfl rfl (by simp [zI, *]) rfl
  · skip
    refine aw_iload_n 1 q_M_isChoice_4 rfl rfl ?_
    refine aw_aload_n 0 q_M_isChoice_5 rfl rfl ?_
    refine aw_get 4 q_M_isChoice_6 fl_M_84 rfl rfl ?_
    refine aw_icmp_ge 16 q_M_isChoice_9 rfl (fun c9 => ?_) (fun c9 => ?_)
    · skip
      refine aw_iconst 0 q_M_isChoice_16 rfl ?_
      exact aw_iret .boolean q_M_isChoice_17 rfl rfl (by simp [zI, *]) rfl
    · skip
      refine aw_iconst 1 q_M_isChoice_12 rfl ?_
      refine aw_goto 17 q_M_isChoice_13 rfl ?_
      exact aw_iret .boolean q_M_isChoice_17 rfl rfl (by simp [zI, *]) rfl
theorem c_W_countOfSets (sc : am_S) (A : ST) (q : QS) (D : ST) (t : TS)  (hc : x_nc A ≤ 14) : AM sc m_W_countOfSets 0 [.ref 2] (hp A q D t) (some (.int (nI (2 ^ x_nc A)))) (hp A q D t) := by
  refine AM.of (by decide) (Nat.le_of_ble_eq_true rfl) ?_
  show AW sc m_W_countOfSets 0 0 [some (.ref 2)] [] _ _ _
  refine aw_iconst 1 q_W_countOfSets_0 rfl ?_
  refine aw_aload_n 0 q_W_countOfSets_1 rfl rfl ?_
  refine aw_get 5 q_W_countOfSets_2 fl_W_55 rfl rfl ?_
  refine aw_ishl q_W_countOfSets_5 ?_
  exact aw_iret .int q_W_countOfSets_6 rfl rfl (by rw [bt_one (by omega)]) rfl
theorem c_W_districtOfChoice (sc : am_S) (A : ST) (q : QS) (D : ST) (t : TS) (c : Nat) (hc : c < 14) (ht : x_th A c < 12) : AM sc m_W_districtOfChoice 0 [.ref 2, .int (nI c)] (hp A q D t) (some (.int (nI (x_di A (x_th A c))))) (hp A q D t) := by
  refine AM.of (by decide) (Nat.le_of_ble_eq_true rfl) ?_
  show AW sc m_W_districtOfChoice 0 0 [some (.ref 2), some (.int (nI c))] [] _ _ _
  refine aw_aload_n 0 q_W_districtOfChoice_0 rfl rfl ?_
  refine aw_get 4 q_W_districtOfChoice_1 fl_W_19 rfl rfl ?_
  refine aw_aload_n 0 q_W_districtOfChoice_4 rfl rfl ?_
  refine aw_get 6 q_W_districtOfChoice_5 fl_W_22 rfl rfl ?_
  refine aw_iload_n 1 q_W_districtOfChoice_8 rfl rfl ?_
  refine aw_ialdN q_W_districtOfChoice_9 rfl (by omega) rfl ?_
  refine aw_ialdN q_W_districtOfChoice_10 rfl (by omega) rfl ?_
  exact aw_iret .int q_W_districtOfChoice_11 rfl rfl rfl rfl
end
section
/-! PURE MEANINGS 1: what the rows of what was told say of a set -/
theorem sm_t {f : Nat → Int} {i : Nat} {x : Int} (h : f i = x) : lZ (sm i f) + lZ x = lZ (sm (i + 1) f) := by
  rw [lZ_add]; simp only [sm, h]
theorem sm_f {f : Nat → Int} {i : Nat} (h : f i = 0) : lZ (sm i f) = lZ (sm (i + 1) f) := by
  simp only [sm, h, Int.add_zero]
theorem sm_tail {f : Nat → Int} {i : Nat} : ∀ {n : Nat}, i ≤ n → (∀ o, i ≤ o → o < n → f o = 0) → sm n f = sm i f
  | 0, h, _ => by rw [show i = 0 by omega]
  | n + 1, h, h0 => by
    by_cases e : i = n + 1
    · rw [e]
    · have := sm_tail (n := n) (by omega) (fun o h1 h2 => h0 o h1 (by omega))
      simp only [sm]
      rw [this, h0 n (by omega) (by omega)]
      omega
/-- the simple bounds of what was told -/
def bd (A : ST) : Prop := x_ny A ≤ 6 ∧ x_nt A ≤ 12 ∧ x_nc A ≤ 14 ∧ (∀ c, x_th A c < 12) ∧ (∀ c, x_yr A c < 6) ∧ (∀ i, x_di A i < 4) ∧ (∀ c, x_jt A c < 16384) ∧ (∀ c, 0 ≤ x_co A c ∧ x_co A c ≤ 1000000) ∧ (∀ c, 0 ≤ x_wo A c ∧ x_wo A c ≤ 1000000) ∧ (∀ a b, 0 ≤ x_sv A a b ∧ x_sv A a b ≤ 1000000) ∧ (∀ y, 0 ≤ x_bu A y ∧ x_bu A y ≤ 200000000) ∧ (∀ i, x_pl A i ≤ 999) ∧ x_mu A < 16384 ∧ 1 ≤ x_ny A
def wsum (A : ST) (m : Nat) : Int := sm (x_nc A) (fun c => if m.testBit c = true then x_wo A c else 0)
def dsum (A : ST) (m d : Nat) : Int := sm (x_nc A) (fun c => if m.testBit c = true ∧ x_di A (x_th A c) = d then x_wo A c else 0)
/-- what the joins of a choice with a set save -/
def swf (A : ST) (c s : Nat) : Nat → Int := fun o => if (x_jt A c &&& s).testBit o = true then x_sv A c o else 0
def sw (A : ST) (c s : Nat) : Int := sm (x_nc A) (swf A c s)
/-- the choices of a set and a year below i -/
def cmk (A : ST) (m y : Nat) : Nat → Nat
  | 0 => 0
  | i + 1 => if m.testBit i = true ∧ x_yr A i = y then cmk A m y i ||| 2 ^ i else cmk A m y i
def spf (A : ST) (m y : Nat) : Nat → Int := fun c => if m.testBit c = true ∧ x_yr A c = y then x_co A c - sw A c (cmk A m y c) else 0
/-- what a set spends in a year, by its sign -/
def sps (A : ST) (m y : Nat) : Int := sm (x_nc A) (spf A m y)
def spI (A : ST) (m y : Nat) : Int := if sps A m y < 0 then 0 else sps A m y
theorem or_lt {a b n : Nat} (ha : a < 2 ^ n) (hb : b < 2 ^ n) : a ||| b < 2 ^ n := Nat.or_lt_two_pow ha hb
theorem and_lt {a b : Nat} (n : Nat) (ha : a < n) : a &&& b < n := Nat.lt_of_le_of_lt Nat.and_le_left ha
theorem cmk_lt (A : ST) (m y : Nat) : ∀ i, cmk A m y i < 2 ^ i
  | 0 => by simp [cmk]
  | i + 1 => by
    have h := cmk_lt A m y i
    have h2 : 2 ^ i < 2 ^ (i + 1) := Nat.pow_lt_pow_right (by decide) (by omega)
    unfold cmk
    split
    · exact or_lt (Nat.lt_trans h h2) h2
    · exact Nat.lt_trans h h2
theorem p14 {i : Nat} (h : i ≤ 14) : 2 ^ i ≤ 16384 := Nat.pow_le_pow_right (by decide) h
theorem sw_bd {A : ST} (b : bd A) (c s : Nat) : 0 ≤ sw A c s ∧ sw A c s ≤ 14000000 := by
  have h := sm_le (n := x_nc A) (f := swf A c s) (a := 0) (b := 1000000) (fun i _ => by
    unfold swf
    have := b.2.2.2.2.2.2.2.2.2.1 c i
    split <;> omega)
  have hn := b.2.2.1
  unfold sw
  omega
theorem sps_bd {A : ST} (b : bd A) (m y : Nat) : -1000000000 ≤ sps A m y ∧ sps A m y ≤ 1000000000 := by
  have h := sm_le (n := x_nc A) (f := spf A m y) (a := -14000000) (b := 1000000) (fun i _ => by
    unfold spf
    have h1 := b.2.2.2.2.2.2.2.1 i
    have h2 := sw_bd b i (cmk A m y i)
    split <;> omega)
  have hn := b.2.2.1
  unfold sps
  omega
theorem spI_bd {A : ST} (b : bd A) (m y : Nat) : 0 ≤ spI A m y ∧ spI A m y ≤ 1000000000 := by
  have := sps_bd b m y
  unfold spI
  split <;> omega
theorem wsum_bd {A : ST} (b : bd A) (m : Nat) : 0 ≤ wsum A m ∧ wsum A m ≤ 14000000 := by
  have h := sm_le (n := x_nc A) (f := fun c => if m.testBit c = true then x_wo A c else 0) (a := 0) (b := 1000000) (fun i _ => by
    have := b.2.2.2.2.2.2.2.2.1 i
    split <;> omega)
  have hn := b.2.2.1
  unfold wsum
  omega
theorem dsum_bd {A : ST} (b : bd A) (m d : Nat) : 0 ≤ dsum A m d ∧ dsum A m d ≤ 14000000 := by
  have h := sm_le (n := x_nc A) (f := fun c => if m.testBit c = true ∧ x_di A (x_th A c) = d then x_wo A c else 0) (a := 0) (b := 1000000) (fun i _ => by
    have := b.2.2.2.2.2.2.2.2.1 i
    split <;> omega)
  have hn := b.2.2.1
  unfold dsum
  omega
/-- the things that a set takes, by its choices below i; whether each was free -/
def tkm (A : ST) (m : Nat) : Nat → Nat
  | 0 => 0
  | i + 1 => if m.testBit i = true then tkm A m i ||| 2 ^ x_th A i else tkm A m i
def pln (A : ST) (m : Nat) : Nat → Bool
  | 0 => true
  | i + 1 => pln A m i && !(m.testBit i && (tkm A m i).testBit (x_th A i))
theorem tkm_lt {A : ST} (b : bd A) (m : Nat) : ∀ i, tkm A m i < 4096
  | 0 => by simp [tkm]
  | i + 1 => by
    have h := tkm_lt b m i
    have h2 : 2 ^ x_th A i < 2 ^ 12 := Nat.pow_lt_pow_right (by decide) (b.2.2.2.1 i)
    unfold tkm
    split
    · exact or_lt (n := 12) h h2
    · exact h
theorem pln_mono {A : ST} {m i : Nat} : ∀ {n : Nat}, i ≤ n → pln A m i = false → pln A m n = false
  | 0, h, e => by rw [show i = 0 by omega] at e; exact e
  | n + 1, h, e => by
    by_cases q : i = n + 1
    · rw [← q]; exact e
    · unfold pln
      rw [pln_mono (n := n) (by omega) e]
      rfl
def wal (A : ST) (m : Nat) : Nat → Bool
  | 0 => true
  | y + 1 => wal A m y && decide (spI A m y ≤ x_bu A y)
theorem wal_mono {A : ST} {m i : Nat} : ∀ {n : Nat}, i ≤ n → wal A m i = false → wal A m n = false
  | 0, h, e => by rw [show i = 0 by omega] at e; exact e
  | n + 1, h, e => by
    by_cases q : i = n + 1
    · rw [← q]; exact e
    · unfold wal
      rw [wal_mono (n := n) (by omega) e]
      rfl
/-- the districts that have things -/
def udm (A : ST) : Nat → Nat
  | 0 => 0
  | i + 1 => udm A i ||| 2 ^ x_di A i
theorem udm_lt {A : ST} (b : bd A) : ∀ i, udm A i < 16
  | 0 => by simp [udm]
  | i + 1 => by
    have h := udm_lt b i
    have h2 : 2 ^ x_di A i < 2 ^ 4 := Nat.pow_lt_pow_right (by decide) (b.2.2.2.2.2.1 i)
    exact or_lt (n := 4) h h2
/-- the choices of a set, a district and a year below i -/
def pom (A : ST) (m d y : Nat) : Nat → Nat
  | 0 => 0
  | i + 1 => if m.testBit i = true ∧ x_di A (x_th A i) = d ∧ x_yr A i = y then pom A m d y i ||| 2 ^ i else pom A m d y i
theorem pom_lt (A : ST) (m d y : Nat) : ∀ i, pom A m d y i < 2 ^ i
  | 0 => by simp [pom]
  | i + 1 => by
    have h := pom_lt A m d y i
    have h2 : 2 ^ i < 2 ^ (i + 1) := Nat.pow_lt_pow_right (by decide) (by omega)
    unfold pom
    split
    · exact or_lt (Nat.lt_trans h h2) h2
    · exact Nat.lt_trans h h2
/-- is a thing done by a year, by choices below i -/
def dnb (A : ST) (m tt y : Nat) : Nat → Bool
  | 0 => false
  | i + 1 => dnb A m tt y i || (m.testBit i && decide (x_th A i = tt) && decide (x_yr A i ≤ y))
theorem dnb_mono {A : ST} {m tt y i : Nat} : ∀ {n : Nat}, i ≤ n → dnb A m tt y i = true → dnb A m tt y n = true
  | 0, h, e => by rw [show i = 0 by omega] at e; exact e
  | n + 1, h, e => by
    by_cases q : i = n + 1
    · rw [← q]; exact e
    · unfold dnb
      rw [dnb_mono (n := n) (by omega) e]
      rfl
/-- the most worth of a thing by a year, by choices below i -/
def mwb (A : ST) (tt y : Nat) : Nat → Int
  | 0 => 0
  | i + 1 => if x_th A i = tt ∧ x_yr A i ≤ y then (if x_wo A i < mwb A tt y i then mwb A tt y i else x_wo A i) else mwb A tt y i
theorem mwb_bd {A : ST} (b : bd A) (tt y : Nat) : ∀ i, 0 ≤ mwb A tt y i ∧ mwb A tt y i ≤ 1000000
  | 0 => by simp [mwb]
  | i + 1 => by
    have h := mwb_bd b tt y i
    have h1 := b.2.2.2.2.2.2.2.2.1 i
    unfold mwb
    split
    · split
      · exact h
      · exact h1
    · exact h
theorem nI_ne {a b : Nat} (ha : a < 2 ^ 31) (hb : b < 2 ^ 31) (h : ¬ nI a = nI b) : ¬ a = b := fun e => h (by rw [e])
theorem nI_eq' {a b : Nat} (ha : a < 2 ^ 31) (hb : b < 2 ^ 31) (h : nI a = nI b) : a = b := (nI_eq ha hb).mp h
end
section
/-! CONTRACTS 2: the rows of what was told (Works), read -/
theorem l_W_worthOfPlan (sc : am_S) (A : ST) (q : QS) (D : ST) (t : TS) (m : Nat) (b : bd A) (hm : m < 16384) : ∀ (n i : Nat), x_nc A - i = n → i ≤ x_nc A →  AW sc m_W_worthOfPlan 1 5 [some (.ref 2), some (.int (nI m)), some (.long (lZ (sm i (fun c => if m.testBit c = true then x_wo A c else 0)))), none, some (.int (nI i))] [] (hp A q D t) (some (.long (lZ (wsum A m)))) (hp A q D t) := by
  intro n
  induction n using Nat.strongRecOn with
  | _ n ih =>
    intro i hn hi
    have b3 := b.2.2.1
    refine aw_iload q_W_worthOfPlan_5 rfl ?_
    refine aw_aload_n 0 q_W_worthOfPlan_7 rfl rfl ?_
    refine aw_get 5 q_W_worthOfPlan_8 fl_W_55 rfl rfl ?_
    refine aw_icmp_ge 39 q_W_worthOfPlan_11 rfl (fun c11 => ?_) (fun c11 => ?_)
    · skip
      refine aw_lload_n 2 q_W_worthOfPlan_39 rfl rfl ?_
      exact aw_lret q_W_worthOfPlan_40 rfl (by rw [show i = x_nc A from Nat.le_antisymm hi (nge_ge c11 (by omega) (by omega))]; rfl) rfl
    · skip
      have hlt : i < x_nc A := nge_lt c11 (by omega) (by omega)
      refine aw_iload_n 1 q_W_worthOfPlan_14 rfl rfl ?_
      refine aw_iload q_W_worthOfPlan_15 rfl ?_
      refine aw_S2 q_W_worthOfPlan_17 st_W_58 (by decide) (Nat.le_of_ble_eq_true rfl) (c_B_isIn _ _ _ _ (by omega) (by omega)) ?_
      refine aw_if_eq 33 q_W_worthOfPlan_20 rfl (fun c20 => ?_) (fun c20 => ?_)
      · skip
        first | refine aw_iinc _ q_W_worthOfPlan_33 rfl (am_inc _) rfl rfl ?_ | refine aw_iinc _ q_W_worthOfPlan_33 rfl rfl rfl rfl ?_
        refine aw_goto 5 q_W_worthOfPlan_36 rfl ?_
        first
          | (have h9 := zI_0.mp c20; rw [sm_f (f := (fun c => if m.testBit c = true then x_wo A c else 0)) (i := i) (by simp [h9])]; exact ih _ (by omega) (i + 1) rfl (by omega))
          | (have h9 := zI_n0.mp c20; rw [sm_t (f := (fun c => if m.testBit c = true then x_wo A c else 0)) (i := i) (by simp [h9])]; exact ih _ (by omega) (i + 1) rfl (by omega))
      · skip
        refine aw_lload_n 2 q_W_worthOfPlan_23 rfl rfl ?_
        refine aw_aload_n 0 q_W_worthOfPlan_24 rfl rfl ?_
        refine aw_get 9 q_W_worthOfPlan_25 fl_W_31 rfl rfl ?_
        refine aw_iload q_W_worthOfPlan_28 rfl ?_
        refine aw_laldN q_W_worthOfPlan_30 rfl (by omega) rfl ?_
        refine aw_ladd q_W_worthOfPlan_31 ?_
        refine aw_lstore_n 2 q_W_worthOfPlan_32 rfl rfl rfl ?_
        first | refine aw_iinc _ q_W_worthOfPlan_33 rfl (am_inc _) rfl rfl ?_ | refine aw_iinc _ q_W_worthOfPlan_33 rfl rfl rfl rfl ?_
        refine aw_goto 5 q_W_worthOfPlan_36 rfl ?_
        first
          | (have h9 := zI_0.mp c20; rw [sm_f (f := (fun c => if m.testBit c = true then x_wo A c else 0)) (i := i) (by simp [h9])]; exact ih _ (by omega) (i + 1) rfl (by omega))
          | (have h9 := zI_n0.mp c20; rw [sm_t (f := (fun c => if m.testBit c = true then x_wo A c else 0)) (i := i) (by simp [h9])]; exact ih _ (by omega) (i + 1) rfl (by omega))
theorem c_W_worthOfPlan (sc : am_S) (A : ST) (q : QS) (D : ST) (t : TS) (m : Nat) (b : bd A) (hm : m < 16384) : AM sc m_W_worthOfPlan 1 [.ref 2, .int (nI m)] (hp A q D t) (some (.long (lZ (wsum A m)))) (hp A q D t) := by
  refine AM.of (by decide) (Nat.le_of_ble_eq_true rfl) ?_
  show AW sc m_W_worthOfPlan 1 0 [some (.ref 2), some (.int (nI m)), none, none, none] [] _ _ _
  refine aw_lconst (lZ 0) q_W_worthOfPlan_0 rfl ?_
  refine aw_lstore_n 2 q_W_worthOfPlan_1 rfl rfl rfl ?_
  refine aw_iconst 0 q_W_worthOfPlan_2 rfl ?_
  refine aw_istore q_W_worthOfPlan_3 rfl rfl ?_
  exact l_W_worthOfPlan sc A q D t m b hm _ 0 rfl (by omega)
theorem l_W_worthOfDistrict (sc : am_S) (A : ST) (q : QS) (D : ST) (t : TS) (m dd : Nat) (b : bd A) (hm : m < 16384) (hdd : dd < 4) : ∀ (n i : Nat), x_nc A - i = n → i ≤ x_nc A →  AW sc m_W_worthOfDistrict 1 5 [some (.ref 2), some (.int (nI m)), some (.int (nI dd)), some (.long (lZ (sm i (fun c => if m.testBit c = true ∧ x_di A (x_th A c) = dd then x_wo A c else 0)))), none, some (.int (nI i))] [] (hp A q D t) (some (.long (lZ (dsum A m dd)))) (hp A q D t) := by
  intro n
  induction n using Nat.strongRecOn with
  | _ n ih =>
    intro i hn hi
    have b3 := b.2.2.1
    have b6 := b.2.2.2.2.2.1 (x_th A i)
    have b4 := b.2.2.2.1 i
    refine aw_iload q_W_worthOfDistrict_5 rfl ?_
    refine aw_aload_n 0 q_W_worthOfDistrict_7 rfl rfl ?_
    refine aw_get 5 q_W_worthOfDistrict_8 fl_W_55 rfl rfl ?_
    refine aw_icmp_ge 49 q_W_worthOfDistrict_11 rfl (fun c11 => ?_) (fun c11 => ?_)
    · skip
      refine aw_lload_n 3 q_W_worthOfDistrict_49 rfl rfl ?_
      exact aw_lret q_W_worthOfDistrict_50 rfl (by rw [show i = x_nc A from Nat.le_antisymm hi (nge_ge c11 (by omega) (by omega))]; rfl) rfl
    · skip
      have hlt : i < x_nc A := nge_lt c11 (by omega) (by omega)
      refine aw_iload_n 1 q_W_worthOfDistrict_14 rfl rfl ?_
      refine aw_iload q_W_worthOfDistrict_15 rfl ?_
      refine aw_S2 q_W_worthOfDistrict_17 st_W_58 (by decide) (Nat.le_of_ble_eq_true rfl) (c_B_isIn _ _ _ _ (by omega) (by omega)) ?_
      refine aw_if_eq 43 q_W_worthOfDistrict_20 rfl (fun c20 => ?_) (fun c20 => ?_)
      · skip
        first | refine aw_iinc _ q_W_worthOfDistrict_43 rfl (am_inc _) rfl rfl ?_ | refine aw_iinc _ q_W_worthOfDistrict_43 rfl rfl rfl rfl ?_
        refine aw_goto 5 q_W_worthOfDistrict_46 rfl ?_
        first
          | (have h9 := zI_0.mp c20; rw [sm_f (f := (fun c => if m.testBit c = true ∧ x_di A (x_th A c) = dd then x_wo A c else 0)) (i := i) (by simp [h9])]; exact ih _ (by omega) (i + 1) rfl (by omega))
          | (have h9 := nI_ne (by omega) (by omega) c30; rw [sm_f (f := (fun c => if m.testBit c = true ∧ x_di A (x_th A c) = dd then x_wo A c else 0)) (i := i) (by simp [h9])]; exact ih _ (by omega) (i + 1) rfl (by omega))
          | (have h9 := zI_n0.mp c20; have h8 := nI_eq' (by omega) (by omega) c30; rw [sm_t (f := (fun c => if m.testBit c = true ∧ x_di A (x_th A c) = dd then x_wo A c else 0)) (i := i) (by simp [h9, h8])]; exact ih _ (by omega) (i + 1) rfl (by omega))
      · skip
        refine aw_aload_n 0 q_W_worthOfDistrict_23 rfl rfl ?_
        refine aw_iload q_W_worthOfDistrict_24 rfl ?_
        refine aw_V1 q_W_worthOfDistrict_26 st_W_81 rfl (by decide) (Nat.le_of_ble_eq_true rfl) (c_W_districtOfChoice _ _ _ _ _ _ (by omega) (by omega)) ?_
        refine aw_iload_n 2 q_W_worthOfDistrict_29 rfl rfl ?_
        refine aw_icmp_ne 43 q_W_worthOfDistrict_30 rfl (fun c30 => ?_) (fun c30 => ?_)
        · skip
          first | refine aw_iinc _ q_W_worthOfDistrict_43 rfl (am_inc _) rfl rfl ?_ | refine aw_iinc _ q_W_worthOfDistrict_43 rfl rfl rfl rfl ?_
          refine aw_goto 5 q_W_worthOfDistrict_46 rfl ?_
          first
            | (have h9 := zI_0.mp c20; rw [sm_f (f := (fun c => if m.testBit c = true ∧ x_di A (x_th A c) = dd then x_wo A c else 0)) (i := i) (by simp [h9])]; exact ih _ (by omega) (i + 1) rfl (by omega))
            | (have h9 := nI_ne (by omega) (by omega) c30; rw [sm_f (f := (fun c => if m.testBit c = true ∧ x_di A (x_th A c) = dd then x_wo A c else 0)) (i := i) (by simp [h9])]; exact ih _ (by omega) (i + 1) rfl (by omega))
            | (have h9 := zI_n0.mp c20; have h8 := nI_eq' (by omega) (by omega) c30; rw [sm_t (f := (fun c => if m.testBit c = true ∧ x_di A (x_th A c) = dd then x_wo A c else 0)) (i := i) (by simp [h9, h8])]; exact ih _ (by omega) (i + 1) rfl (by omega))
        · skip
          refine aw_lload_n 3 q_W_worthOfDistrict_33 rfl rfl ?_
          refine aw_aload_n 0 q_W_worthOfDistrict_34 rfl rfl ?_
          refine aw_get 9 q_W_worthOfDistrict_35 fl_W_31 rfl rfl ?_
          refine aw_iload q_W_worthOfDistrict_38 rfl ?_
          refine aw_laldN q_W_worthOfDistrict_40 rfl (by omega) rfl ?_
          refine aw_ladd q_W_worthOfDistrict_41 ?_
          refine aw_lstore_n 3 q_W_worthOfDistrict_42 rfl rfl rfl ?_
          first | refine aw_iinc _ q_W_worthOfDistrict_43 rfl (am_inc _) rfl rfl ?_ | refine aw_iinc _ q_W_worthOfDistrict_43 rfl rfl rfl rfl ?_
          refine aw_goto 5 q_W_worthOfDistrict_46 rfl ?_
          first
            | (have h9 := zI_0.mp c20; rw [sm_f (f := (fun c => if m.testBit c = true ∧ x_di A (x_th A c) = dd then x_wo A c else 0)) (i := i) (by simp [h9])]; exact ih _ (by omega) (i + 1) rfl (by omega))
            | (have h9 := nI_ne (by omega) (by omega) c30; rw [sm_f (f := (fun c => if m.testBit c = true ∧ x_di A (x_th A c) = dd then x_wo A c else 0)) (i := i) (by simp [h9])]; exact ih _ (by omega) (i + 1) rfl (by omega))
            | (have h9 := zI_n0.mp c20; have h8 := nI_eq' (by omega) (by omega) c30; rw [sm_t (f := (fun c => if m.testBit c = true ∧ x_di A (x_th A c) = dd then x_wo A c else 0)) (i := i) (by simp [h9, h8])]; exact ih _ (by omega) (i + 1) rfl (by omega))
theorem c_W_worthOfDistrict (sc : am_S) (A : ST) (q : QS) (D : ST) (t : TS) (m dd : Nat) (b : bd A) (hm : m < 16384) (hdd : dd < 4) : AM sc m_W_worthOfDistrict 1 [.ref 2, .int (nI m), .int (nI dd)] (hp A q D t) (some (.long (lZ (dsum A m dd)))) (hp A q D t) := by
  refine AM.of (by decide) (Nat.le_of_ble_eq_true rfl) ?_
  show AW sc m_W_worthOfDistrict 1 0 [some (.ref 2), some (.int (nI m)), some (.int (nI dd)), none, none, none] [] _ _ _
  refine aw_lconst (lZ 0) q_W_worthOfDistrict_0 rfl ?_
  refine aw_lstore_n 3 q_W_worthOfDistrict_1 rfl rfl rfl ?_
  refine aw_iconst 0 q_W_worthOfDistrict_2 rfl ?_
  refine aw_istore q_W_worthOfDistrict_3 rfl rfl ?_
  exact l_W_worthOfDistrict sc A q D t m dd b hm hdd _ 0 rfl (by omega)
theorem sw_shr {j i : Nat} (hj : j < 16384) (hi : i < 32) : (nI j >>> (nI i &&& 31)) = nI (j / 2 ^ i) := pk_shrN (by omega) _ i (bt_amt i hi)
theorem sw_end {A : ST} {c s i : Nat} (hj : x_jt A c &&& s < 16384) (hi : i ≤ x_nc A) (hi2 : i < 32) (h : (nI (x_jt A c &&& s) >>> (nI i &&& 31)) = 0) : sm i (swf A c s) = sw A c s := by
  rw [sw_shr hj hi2] at h
  have h1 : (x_jt A c &&& s) / 2 ^ i = 0 := by
    have := (nI_eq (a := (x_jt A c &&& s) / 2 ^ i) (b := 0) (Nat.lt_of_le_of_lt (Nat.div_le_self _ _) (by omega)) (by omega)).mp h
    exact this
  have h2 : x_jt A c &&& s < 2 ^ i := by
    rcases Nat.lt_or_ge (x_jt A c &&& s) (2 ^ i) with q | q
    · exact q
    · exact absurd (Nat.div_pos q (Nat.two_pow_pos i)) (by omega)
  unfold sw
  refine (sm_tail hi (fun o h3 _ => ?_)).symm
  unfold swf
  rw [Nat.testBit_lt_two_pow (Nat.lt_of_lt_of_le h2 (Nat.pow_le_pow_right (by decide) h3))]
  rfl
theorem l_W_savesWith (sc : am_S) (A : ST) (q : QS) (D : ST) (t : TS) (c s : Nat) (b : bd A) (hc : c < 14) : ∀ (n i : Nat), x_nc A - i = n → i ≤ x_nc A →  AW sc m_W_savesWith 0 15 [some (.ref 2), some (.int (nI c)), some (.int (nI s)), some (.int (nI (x_jt A c &&& s))), some (.long (lZ (sm i (swf A c s)))), none, some (.int (nI i))] [] (hp A q D t) (some (.long (lZ (sw A c s)))) (hp A q D t) := by
  intro n
  induction n using Nat.strongRecOn with
  | _ n ih =>
    intro i hn hi
    have b3 := b.2.2.1
    have b7 := and_lt (b := s) 16384 (b.2.2.2.2.2.2.1 c)
    refine aw_iload q_W_savesWith_15 rfl ?_
    refine aw_aload_n 0 q_W_savesWith_17 rfl rfl ?_
    refine aw_get 5 q_W_savesWith_18 fl_W_55 rfl rfl ?_
    refine aw_icmp_ge 61 q_W_savesWith_21 rfl (fun c21 => ?_) (fun c21 => ?_)
    · skip
      refine aw_lload q_W_savesWith_61 rfl ?_
      exact aw_lret q_W_savesWith_63 rfl (by rw [show i = x_nc A from Nat.le_antisymm hi (nge_ge c21 (by omega) (by omega))]; rfl) rfl
    · skip
      have hlt : i < x_nc A := nge_lt c21 (by omega) (by omega)
      refine aw_iload_n 3 q_W_savesWith_24 rfl rfl ?_
      refine aw_iload q_W_savesWith_25 rfl ?_
      refine aw_ishr q_W_savesWith_27 ?_
      refine aw_if_eq 61 q_W_savesWith_28 rfl (fun c28 => ?_) (fun c28 => ?_)
      · skip
        refine aw_lload q_W_savesWith_61 rfl ?_
        exact aw_lret q_W_savesWith_63 rfl (by rw [sw_end (by omega) hi (by omega) c28]) rfl
      · skip
        refine aw_iload_n 3 q_W_savesWith_31 rfl rfl ?_
        refine aw_iload q_W_savesWith_32 rfl ?_
        refine aw_ishr q_W_savesWith_34 ?_
        refine aw_iconst 1 q_W_savesWith_35 rfl ?_
        refine aw_iand q_W_savesWith_36 ?_
        refine aw_iconst 1 q_W_savesWith_37 rfl ?_
        refine aw_icmp_ne 55 q_W_savesWith_38 rfl (fun c38 => ?_) (fun c38 => ?_)
        · skip
          first | refine aw_iinc _ q_W_savesWith_55 rfl (am_inc _) rfl rfl ?_ | refine aw_iinc _ q_W_savesWith_55 rfl rfl rfl rfl ?_
          refine aw_goto 15 q_W_savesWith_58 rfl ?_
          first
            | (rw [sm_f (f := swf A c s) (i := i) (by simp [swf, mt (bt_is (m := x_jt A c &&& s) (c := i) (by omega) (by omega)).mpr c38])]; exact ih _ (by omega) (i + 1) rfl (by omega))
            | (rw [sm_t (f := swf A c s) (i := i) (by simp [swf, (bt_is (m := x_jt A c &&& s) (c := i) (by omega) (by omega)).mp c38])]; exact ih _ (by omega) (i + 1) rfl (by omega))
        · skip
          refine aw_lload q_W_savesWith_41 rfl ?_
          refine aw_aload_n 0 q_W_savesWith_43 rfl rfl ?_
          refine aw_get 13 q_W_savesWith_44 fl_W_39 rfl rfl ?_
          refine aw_iload_n 1 q_W_savesWith_47 rfl rfl ?_
          refine aw_aaldN q_W_savesWith_48 rfl hc rfl ?_
          refine aw_iload q_W_savesWith_49 rfl ?_
          refine aw_laldN q_W_savesWith_51 (hp_sv A q D t c hc) (by omega) rfl ?_
          refine aw_ladd q_W_savesWith_52 ?_
          refine aw_lstore q_W_savesWith_53 rfl rfl ?_
          first | refine aw_iinc _ q_W_savesWith_55 rfl (am_inc _) rfl rfl ?_ | refine aw_iinc _ q_W_savesWith_55 rfl rfl rfl rfl ?_
          refine aw_goto 15 q_W_savesWith_58 rfl ?_
          first
            | (rw [sm_f (f := swf A c s) (i := i) (by simp [swf, mt (bt_is (m := x_jt A c &&& s) (c := i) (by omega) (by omega)).mpr c38])]; exact ih _ (by omega) (i + 1) rfl (by omega))
            | (rw [sm_t (f := swf A c s) (i := i) (by simp [swf, (bt_is (m := x_jt A c &&& s) (c := i) (by omega) (by omega)).mp c38])]; exact ih _ (by omega) (i + 1) rfl (by omega))
theorem c_W_savesWith (sc : am_S) (A : ST) (q : QS) (D : ST) (t : TS) (c s : Nat) (b : bd A) (hc : c < 14) : AM sc m_W_savesWith 0 [.ref 2, .int (nI c), .int (nI s)] (hp A q D t) (some (.long (lZ (sw A c s)))) (hp A q D t) := by
  refine AM.of (by decide) (Nat.le_of_ble_eq_true rfl) ?_
  show AW sc m_W_savesWith 0 0 [some (.ref 2), some (.int (nI c)), some (.int (nI s)), none, none, none, none] [] _ _ _
  refine aw_aload_n 0 q_W_savesWith_0 rfl rfl ?_
  refine aw_get 12 q_W_savesWith_1 fl_W_34 rfl rfl ?_
  refine aw_iload_n 1 q_W_savesWith_4 rfl rfl ?_
  refine aw_ialdN q_W_savesWith_5 rfl (by omega) rfl ?_
  refine aw_iload_n 2 q_W_savesWith_6 rfl rfl ?_
  refine aw_iand q_W_savesWith_7 ?_
  rw [nI_and]
  refine aw_istore_n 3 q_W_savesWith_8 rfl rfl rfl ?_
  refine aw_lconst (lZ 0) q_W_savesWith_9 rfl ?_
  refine aw_lstore q_W_savesWith_10 rfl rfl ?_
  refine aw_iconst 0 q_W_savesWith_12 rfl ?_
  refine aw_istore q_W_savesWith_13 rfl rfl ?_
  exact l_W_savesWith sc A q D t c s b hc _ 0 rfl (by omega)
theorem c_W_savesOfAllJoins (sc : am_S) (A : ST) (q : QS) (D : ST) (t : TS) (c : Nat) (b : bd A) (hc : c < 14) : AM sc m_W_savesOfAllJoins 1 [.ref 2, .int (nI c)] (hp A q D t) (some (.long (lZ (sw A c (x_jt A c))))) (hp A q D t) := by
  refine AM.of (by decide) (Nat.le_of_ble_eq_true rfl) ?_
  show AW sc m_W_savesOfAllJoins 1 0 [some (.ref 2), some (.int (nI c))] [] _ _ _
  refine aw_aload_n 0 q_W_savesOfAllJoins_0 rfl rfl ?_
  refine aw_iload_n 1 q_W_savesOfAllJoins_1 rfl rfl ?_
  refine aw_aload_n 0 q_W_savesOfAllJoins_2 rfl rfl ?_
  refine aw_get 12 q_W_savesOfAllJoins_3 fl_W_34 rfl rfl ?_
  refine aw_iload_n 1 q_W_savesOfAllJoins_6 rfl rfl ?_
  refine aw_ialdN q_W_savesOfAllJoins_7 rfl (by omega) rfl ?_
  refine aw_V2 q_W_savesOfAllJoins_8 st_W_65 rfl (by decide) (Nat.le_of_ble_eq_true rfl) (c_W_savesWith _ _ _ _ _ _ _ b hc) ?_
  exact aw_lret q_W_savesOfAllJoins_11 rfl rfl rfl
theorem cmk_t {A : ST} {m y i : Nat} (h : m.testBit i = true ∧ x_yr A i = y) : cmk A m y (i + 1) = cmk A m y i ||| 2 ^ i := by simp only [cmk, if_pos h]
theorem cmk_f {A : ST} {m y i : Nat} (h : ¬ (m.testBit i = true ∧ x_yr A i = y)) : cmk A m y (i + 1) = cmk A m y i := by simp only [cmk, if_neg h]
theorem spI_eq {A : ST} (b : bd A) (m y : Nat) : (if lZ (sps A m y) < 0 then 0 else lZ (sps A m y)) = lZ (spI A m y) := by
  have h := sps_bd b m y
  rw [← lZ_0]
  unfold spI
  by_cases c : sps A m y < 0
  · rw [if_pos c, if_pos ((lZ_lt (by omega) (by omega)).mpr c)]
  · rw [if_neg c, if_neg (fun z => c ((lZ_lt (by omega) (by omega)).mp z))]
theorem sp_step {A : ST} {m y i : Nat} (h : m.testBit i = true ∧ x_yr A i = y) : lZ (sm i (spf A m y)) + (lZ (x_co A i) - lZ (sw A i (cmk A m y i))) = lZ (sm (i + 1) (spf A m y)) := by
  rw [lZ_sub]
  exact sm_t (by simp only [spf, if_pos h])
theorem l_W_spentIn (sc : am_S) (A : ST) (q : QS) (D : ST) (t : TS) (m y : Nat) (b : bd A) (hm : m < 16384) (hy : y < 6) : ∀ (n i : Nat), x_nc A - i = n → i ≤ x_nc A →  AW sc m_W_spentIn 1 8 [some (.ref 2), some (.int (nI m)), some (.int (nI y)), some (.long (lZ (sm i (spf A m y)))), none, some (.int (nI (cmk A m y i))), some (.int (nI i))] [] (hp A q D t) (some (.long (lZ (spI A m y)))) (hp A q D t) := by
  intro n
  induction n using Nat.strongRecOn with
  | _ n ih =>
    intro i hn hi
    have b3 := b.2.2.1
    have b5 := b.2.2.2.2.1 i
    have b8 := cmk_lt A m y i
    refine aw_iload q_W_spentIn_8 rfl ?_
    refine aw_aload_n 0 q_W_spentIn_10 rfl rfl ?_
    refine aw_get 5 q_W_spentIn_11 fl_W_55 rfl rfl ?_
    refine aw_icmp_ge 71 q_W_spentIn_14 rfl (fun c14 => ?_) (fun c14 => ?_)
    · skip
      refine aw_lconst (lZ 0) q_W_spentIn_71 rfl ?_
      refine aw_lload_n 3 q_W_spentIn_72 rfl rfl ?_
      refine aw_maxL q_W_spentIn_73 (am_in2 (i := 184) rfl rfl) (by decide) (Nat.le_of_ble_eq_true rfl) ?_
      exact aw_lret q_W_spentIn_76 rfl (by rw [show i = x_nc A from Nat.le_antisymm hi (nge_ge c14 (by omega) (by omega)), ← spI_eq b m y]; rfl) rfl
    · skip
      have hlt : i < x_nc A := nge_lt c14 (by omega) (by omega)
      have b9 := p14 (i := i) (by omega)
      refine aw_iload_n 1 q_W_spentIn_17 rfl rfl ?_
      refine aw_iload q_W_spentIn_18 rfl ?_
      refine aw_S2 q_W_spentIn_20 st_W_58 (by decide) (Nat.le_of_ble_eq_true rfl) (c_B_isIn _ _ _ _ (by omega) (by omega)) ?_
      refine aw_if_eq 65 q_W_spentIn_23 rfl (fun c23 => ?_) (fun c23 => ?_)
      · skip
        first | refine aw_iinc _ q_W_spentIn_65 rfl (am_inc _) rfl rfl ?_ | refine aw_iinc _ q_W_spentIn_65 rfl rfl rfl rfl ?_
        refine aw_goto 8 q_W_spentIn_68 rfl ?_
        first
          | (have hno : ¬ (m.testBit i = true ∧ x_yr A i = y) := (fun z => by rw [zI_0.mp c23] at z; exact Bool.noConfusion z.1); rw [sm_f (f := spf A m y) (i := i) (by simp only [spf, if_neg hno]), ← cmk_f hno]; exact ih _ (by omega) (i + 1) rfl (by omega))
          | (have hno : ¬ (m.testBit i = true ∧ x_yr A i = y) := (fun z => nI_ne (by omega) (by omega) c34 z.2); rw [sm_f (f := spf A m y) (i := i) (by simp only [spf, if_neg hno]), ← cmk_f hno]; exact ih _ (by omega) (i + 1) rfl (by omega))
          | (have hyes : m.testBit i = true ∧ x_yr A i = y := ⟨zI_n0.mp c23, nI_eq' (by omega) (by omega) c34⟩; rw [sp_step hyes, bt_one (by omega), nI_or, ← cmk_t hyes]; exact ih _ (by omega) (i + 1) rfl (by omega))
      · skip
        refine aw_aload_n 0 q_W_spentIn_26 rfl rfl ?_
        refine aw_get 7 q_W_spentIn_27 fl_W_25 rfl rfl ?_
        refine aw_iload q_W_spentIn_30 rfl ?_
        refine aw_ialdN q_W_spentIn_32 rfl (by omega) rfl ?_
        refine aw_iload_n 2 q_W_spentIn_33 rfl rfl ?_
        refine aw_icmp_ne 65 q_W_spentIn_34 rfl (fun c34 => ?_) (fun c34 => ?_)
        · skip
          first | refine aw_iinc _ q_W_spentIn_65 rfl (am_inc _) rfl rfl ?_ | refine aw_iinc _ q_W_spentIn_65 rfl rfl rfl rfl ?_
          refine aw_goto 8 q_W_spentIn_68 rfl ?_
          first
            | (have hno : ¬ (m.testBit i = true ∧ x_yr A i = y) := (fun z => by rw [zI_0.mp c23] at z; exact Bool.noConfusion z.1); rw [sm_f (f := spf A m y) (i := i) (by simp only [spf, if_neg hno]), ← cmk_f hno]; exact ih _ (by omega) (i + 1) rfl (by omega))
            | (have hno : ¬ (m.testBit i = true ∧ x_yr A i = y) := (fun z => nI_ne (by omega) (by omega) c34 z.2); rw [sm_f (f := spf A m y) (i := i) (by simp only [spf, if_neg hno]), ← cmk_f hno]; exact ih _ (by omega) (i + 1) rfl (by omega))
            | (have hyes : m.testBit i = true ∧ x_yr A i = y := ⟨zI_n0.mp c23, nI_eq' (by omega) (by omega) c34⟩; rw [sp_step hyes, bt_one (by omega), nI_or, ← cmk_t hyes]; exact ih _ (by omega) (i + 1) rfl (by omega))
        · skip
          refine aw_lload_n 3 q_W_spentIn_37 rfl rfl ?_
          refine aw_aload_n 0 q_W_spentIn_38 rfl rfl ?_
          refine aw_get 8 q_W_spentIn_39 fl_W_28 rfl rfl ?_
          refine aw_iload q_W_spentIn_42 rfl ?_
          refine aw_laldN q_W_spentIn_44 rfl (by omega) rfl ?_
          refine aw_aload_n 0 q_W_spentIn_45 rfl rfl ?_
          refine aw_iload q_W_spentIn_46 rfl ?_
          refine aw_iload q_W_spentIn_48 rfl ?_
          refine aw_V2 q_W_spentIn_50 st_W_65 rfl (by decide) (Nat.le_of_ble_eq_true rfl) (c_W_savesWith _ _ _ _ _ _ _ b (by omega)) ?_
          refine aw_lsub q_W_spentIn_53 ?_
          refine aw_ladd q_W_spentIn_54 ?_
          refine aw_lstore_n 3 q_W_spentIn_55 rfl rfl rfl ?_
          refine aw_iload q_W_spentIn_56 rfl ?_
          refine aw_iconst 1 q_W_spentIn_58 rfl ?_
          refine aw_iload q_W_spentIn_59 rfl ?_
          refine aw_ishl q_W_spentIn_61 ?_
          refine aw_ior q_W_spentIn_62 ?_
          refine aw_istore q_W_spentIn_63 rfl rfl ?_
          first | refine aw_iinc _ q_W_spentIn_65 rfl (am_inc _) rfl rfl ?_ | refine aw_iinc _ q_W_spentIn_65 rfl rfl rfl rfl ?_
          refine aw_goto 8 q_W_spentIn_68 rfl ?_
          first
            | (have hno : ¬ (m.testBit i = true ∧ x_yr A i = y) := (fun z => by rw [zI_0.mp c23] at z; exact Bool.noConfusion z.1); rw [sm_f (f := spf A m y) (i := i) (by simp only [spf, if_neg hno]), ← cmk_f hno]; exact ih _ (by omega) (i + 1) rfl (by omega))
            | (have hno : ¬ (m.testBit i = true ∧ x_yr A i = y) := (fun z => nI_ne (by omega) (by omega) c34 z.2); rw [sm_f (f := spf A m y) (i := i) (by simp only [spf, if_neg hno]), ← cmk_f hno]; exact ih _ (by omega) (i + 1) rfl (by omega))
            | (have hyes : m.testBit i = true ∧ x_yr A i = y := ⟨zI_n0.mp c23, nI_eq' (by omega) (by omega) c34⟩; rw [sp_step hyes, bt_one (by omega), nI_or, ← cmk_t hyes]; exact ih _ (by omega) (i + 1) rfl (by omega))
theorem c_W_spentIn (sc : am_S) (A : ST) (q : QS) (D : ST) (t : TS) (m y : Nat) (b : bd A) (hm : m < 16384) (hy : y < 6) : AM sc m_W_spentIn 1 [.ref 2, .int (nI m), .int (nI y)] (hp A q D t) (some (.long (lZ (spI A m y)))) (hp A q D t) := by
  refine AM.of (by decide) (Nat.le_of_ble_eq_true rfl) ?_
  show AW sc m_W_spentIn 1 0 [some (.ref 2), some (.int (nI m)), some (.int (nI y)), none, none, none, none] [] _ _ _
  refine aw_lconst (lZ 0) q_W_spentIn_0 rfl ?_
  refine aw_lstore_n 3 q_W_spentIn_1 rfl rfl rfl ?_
  refine aw_iconst 0 q_W_spentIn_2 rfl ?_
  refine aw_istore q_W_spentIn_3 rfl rfl ?_
  refine aw_iconst 0 q_W_spentIn_5 rfl ?_
  refine aw_istore q_W_spentIn_6 rfl rfl ?_
  exact l_W_spentIn sc A q D t m y b hm hy _ 0 rfl (by omega)
end
section
/-! CONTRACTS 3: Works, read: tests of sets, districts, worths -/
theorem lZ_gt_n {A : ST} (b : bd A) (m y : Nat) (h : lZ (x_bu A y) < lZ (spI A m y)) : ¬ spI A m y ≤ x_bu A y := by
  have h1 := spI_bd b m y
  have h2 := b.2.2.2.2.2.2.2.2.2.2.1 y
  have := (lZ_lt (a := x_bu A y) (b := spI A m y) (by omega) (by omega)).mp h
  omega
theorem lZ_ngt_n {A : ST} (b : bd A) (m y : Nat) (h : ¬ lZ (x_bu A y) < lZ (spI A m y)) : spI A m y ≤ x_bu A y := by
  have h1 := spI_bd b m y
  have h2 := b.2.2.2.2.2.2.2.2.2.2.1 y
  have := mt (lZ_lt (a := x_bu A y) (b := spI A m y) (by omega) (by omega)).mpr h
  omega
theorem c_W_isWithinBudget (sc : am_S) (A : ST) (q : QS) (D : ST) (t : TS) (m y : Nat) (b : bd A) (hm : m < 16384) (hy : y < 6) : AM sc m_W_isWithinBudget 2 [.ref 2, .int (nI m), .int (nI y)] (hp A q D t) (some (.int (zI (decide (spI A m y ≤ x_bu A y))))) (hp A q D t) := by
  refine AM.of (by decide) (Nat.le_of_ble_eq_true rfl) ?_
  show AW sc m_W_isWithinBudget 2 0 [some (.ref 2), some (.int (nI m)), some (.int (nI y))] [] _ _ _
  refine aw_aload_n 0 q_W_isWithinBudget_0 rfl rfl ?_
  refine aw_iload_n 1 q_W_isWithinBudget_1 rfl rfl ?_
  refine aw_iload_n 2 q_W_isWithinBudget_2 rfl rfl ?_
  refine aw_V2 q_W_isWithinBudget_3 st_W_75 rfl (by decide) (Nat.le_of_ble_eq_true rfl) (c_W_spentIn _ _ _ _ _ _ _ b hm hy) ?_
  refine aw_aload_n 0 q_W_isWithinBudget_6 rfl rfl ?_
  refine aw_get 1 q_W_isWithinBudget_7 fl_W_9 rfl rfl ?_
  refine aw_iload_n 2 q_W_isWithinBudget_10 rfl rfl ?_
  refine aw_laldN q_W_isWithinBudget_11 rfl (by omega) rfl ?_
  refine aw_lcmp_gt 20 q_W_isWithinBudget_12 q_W_isWithinBudget_13 rfl (fun c12 => ?_) (fun c12 => ?_)
  · skip
    refine aw_iconst 0 q_W_isWithinBudget_20 rfl ?_
    exact aw_iret .boolean q_W_isWithinBudget_21 rfl rfl (by simp [zI, lZ_gt_n b m y c12]) rfl
  · skip
    refine aw_iconst 1 q_W_isWithinBudget_16 rfl ?_
    refine aw_goto 21 q_W_isWithinBudget_17 rfl ?_
    exact aw_iret .boolean q_W_isWithinBudget_21 rfl rfl (by simp [zI, lZ_ngt_n b m y c12]) rfl
theorem l_W_isWithinAllBudgets (sc : am_S) (A : ST) (q : QS) (D : ST) (t : TS) (m : Nat) (b : bd A) (hm : m < 16384) : ∀ (n i : Nat), x_ny A - i = n → i ≤ x_ny A → wal A m i = true → AW sc m_W_isWithinAllBudgets 3 2 [some (.ref 2), some (.int (nI m)), some (.int (nI i))] [] (hp A q D t) (some (.int (zI (wal A m (x_ny A))))) (hp A q D t) := by
  intro n
  induction n using Nat.strongRecOn with
  | _ n ih =>
    intro i hn hi
    intro hw
    have b1 := b.1
    refine aw_iload_n 2 q_W_isWithinAllBudgets_2 rfl rfl ?_
    refine aw_aload_n 0 q_W_isWithinAllBudgets_3 rfl rfl ?_
    refine aw_get 0 q_W_isWithinAllBudgets_4 fl_W_48 rfl rfl ?_
    refine aw_icmp_ge 27 q_W_isWithinAllBudgets_7 rfl (fun c7 => ?_) (fun c7 => ?_)
    · skip
      refine aw_iconst 1 q_W_isWithinAllBudgets_27 rfl ?_
      exact aw_iret .boolean q_W_isWithinAllBudgets_28 rfl rfl (by rw [show i = x_ny A from Nat.le_antisymm hi (nge_ge c7 (by omega) (by omega))] at hw; rw [hw]; rfl) rfl
    · skip
      have hlt : i < x_ny A := nge_lt c7 (by omega) (by omega)
      refine aw_aload_n 0 q_W_isWithinAllBudgets_10 rfl rfl ?_
      refine aw_iload_n 1 q_W_isWithinAllBudgets_11 rfl rfl ?_
      refine aw_iload_n 2 q_W_isWithinAllBudgets_12 rfl rfl ?_
      refine aw_V2 q_W_isWithinAllBudgets_13 st_W_78 rfl (by decide) (Nat.le_of_ble_eq_true rfl) (c_W_isWithinBudget _ _ _ _ _ _ _ b hm (by omega)) ?_
      refine aw_if_ne 21 q_W_isWithinAllBudgets_16 rfl (fun c16 => ?_) (fun c16 => ?_)
      · skip
        first | refine aw_iinc _ q_W_isWithinAllBudgets_21 rfl (am_inc _) rfl rfl ?_ | refine aw_iinc _ q_W_isWithinAllBudgets_21 rfl rfl rfl rfl ?_
        refine aw_goto 2 q_W_isWithinAllBudgets_24 rfl ?_
        exact ih _ (by omega) (i + 1) rfl (by omega) (by simp only [wal, hw]; simpa using zI_n0.mp c16)
      · skip
        refine aw_iconst 0 q_W_isWithinAllBudgets_19 rfl ?_
        exact aw_iret .boolean q_W_isWithinAllBudgets_20 rfl rfl (by rw [wal_mono (i := i + 1) (by omega) (by simp only [wal, hw]; simpa using zI_0.mp c16)]; rfl) rfl
theorem c_W_isWithinAllBudgets (sc : am_S) (A : ST) (q : QS) (D : ST) (t : TS) (m : Nat) (b : bd A) (hm : m < 16384) : AM sc m_W_isWithinAllBudgets 3 [.ref 2, .int (nI m)] (hp A q D t) (some (.int (zI (wal A m (x_ny A))))) (hp A q D t) := by
  refine AM.of (by decide) (Nat.le_of_ble_eq_true rfl) ?_
  show AW sc m_W_isWithinAllBudgets 3 0 [some (.ref 2), some (.int (nI m)), none] [] _ _ _
  refine aw_iconst 0 q_W_isWithinAllBudgets_0 rfl ?_
  refine aw_istore_n 2 q_W_isWithinAllBudgets_1 rfl rfl rfl ?_
  exact l_W_isWithinAllBudgets sc A q D t m b hm _ 0 rfl (by omega) rfl
theorem tkm_t {A : ST} {m i : Nat} (h : m.testBit i = true) : tkm A m (i + 1) = tkm A m i ||| 2 ^ x_th A i := by simp only [tkm, if_pos h]
theorem tkm_f {A : ST} {m i : Nat} (h : m.testBit i = false) : tkm A m (i + 1) = tkm A m i := by simp [tkm, h]
theorem l_W_isPlan (sc : am_S) (A : ST) (q : QS) (D : ST) (t : TS) (m : Nat) (b : bd A) (hm : m < 16384) : ∀ (n i : Nat), x_nc A - i = n → i ≤ x_nc A → pln A m i = true → AW sc m_W_isPlan 1 4 [some (.ref 2), some (.int (nI m)), some (.int (nI (tkm A m i))), some (.int (nI i))] [] (hp A q D t) (some (.int (zI (pln A m (x_nc A))))) (hp A q D t) := by
  intro n
  induction n using Nat.strongRecOn with
  | _ n ih =>
    intro i hn hi
    intro hw
    have b3 := b.2.2.1
    have b4 := b.2.2.2.1 i
    have b9 := tkm_lt b m i
    refine aw_iload_n 3 q_W_isPlan_4 rfl rfl ?_
    refine aw_aload_n 0 q_W_isPlan_5 rfl rfl ?_
    refine aw_get 5 q_W_isPlan_6 fl_W_55 rfl rfl ?_
    refine aw_icmp_ge 52 q_W_isPlan_9 rfl (fun c9 => ?_) (fun c9 => ?_)
    · skip
      refine aw_iconst 1 q_W_isPlan_52 rfl ?_
      exact aw_iret .boolean q_W_isPlan_53 rfl rfl (by rw [show i = x_nc A from Nat.le_antisymm hi (nge_ge c9 (by omega) (by omega))] at hw; rw [hw]; rfl) rfl
    · skip
      have hlt : i < x_nc A := nge_lt c9 (by omega) (by omega)
      refine aw_iload_n 1 q_W_isPlan_12 rfl rfl ?_
      refine aw_iload_n 3 q_W_isPlan_13 rfl rfl ?_
      refine aw_S2 q_W_isPlan_14 st_W_58 (by decide) (Nat.le_of_ble_eq_true rfl) (c_B_isIn _ _ _ _ (by omega) (by omega)) ?_
      refine aw_if_eq 46 q_W_isPlan_17 rfl (fun c17 => ?_) (fun c17 => ?_)
      · skip
        first | refine aw_iinc _ q_W_isPlan_46 rfl (am_inc _) rfl rfl ?_ | refine aw_iinc _ q_W_isPlan_46 rfl rfl rfl rfl ?_
        refine aw_goto 4 q_W_isPlan_49 rfl ?_
        first
          | (have h9 := zI_0.mp c17; rw [← tkm_f h9]; exact ih _ (by omega) (i + 1) rfl (by omega) (by simp [pln, hw, h9]))
          | (have h9 := zI_n0.mp c17; have h8 := zI_0.mp c30; rw [bt_one (by omega), nI_or, ← tkm_t h9]; exact ih _ (by omega) (i + 1) rfl (by omega) (by simp [pln, hw, h8]))
      · skip
        refine aw_iload_n 2 q_W_isPlan_20 rfl rfl ?_
        refine aw_aload_n 0 q_W_isPlan_21 rfl rfl ?_
        refine aw_get 6 q_W_isPlan_22 fl_W_22 rfl rfl ?_
        refine aw_iload_n 3 q_W_isPlan_25 rfl rfl ?_
        refine aw_ialdN q_W_isPlan_26 rfl (by omega) rfl ?_
        refine aw_S2 q_W_isPlan_27 st_W_58 (by decide) (Nat.le_of_ble_eq_true rfl) (c_B_isIn _ _ _ _ (by omega) (by omega)) ?_
        refine aw_if_eq 35 q_W_isPlan_30 rfl (fun c30 => ?_) (fun c30 => ?_)
        · skip
          refine aw_iload_n 2 q_W_isPlan_35 rfl rfl ?_
          refine aw_iconst 1 q_W_isPlan_36 rfl ?_
          refine aw_aload_n 0 q_W_isPlan_37 rfl rfl ?_
          refine aw_get 6 q_W_isPlan_38 fl_W_22 rfl rfl ?_
          refine aw_iload_n 3 q_W_isPlan_41 rfl rfl ?_
          refine aw_ialdN q_W_isPlan_42 rfl (by omega) rfl ?_
          refine aw_ishl q_W_isPlan_43 ?_
          refine aw_ior q_W_isPlan_44 ?_
          refine aw_istore_n 2 q_W_isPlan_45 rfl rfl rfl ?_
          first | refine aw_iinc _ q_W_isPlan_46 rfl (am_inc _) rfl rfl ?_ | refine aw_iinc _ q_W_isPlan_46 rfl rfl rfl rfl ?_
          refine aw_goto 4 q_W_isPlan_49 rfl ?_
          first
            | (have h9 := zI_0.mp c17; rw [← tkm_f h9]; exact ih _ (by omega) (i + 1) rfl (by omega) (by simp [pln, hw, h9]))
            | (have h9 := zI_n0.mp c17; have h8 := zI_0.mp c30; rw [bt_one (by omega), nI_or, ← tkm_t h9]; exact ih _ (by omega) (i + 1) rfl (by omega) (by simp [pln, hw, h8]))
        · skip
          refine aw_iconst 0 q_W_isPlan_33 rfl ?_
          exact aw_iret .boolean q_W_isPlan_34 rfl rfl (by rw [pln_mono (i := i + 1) (by omega) (by simp [pln, hw, zI_n0.mp c17, zI_n0.mp c30])]; rfl) rfl
theorem c_W_isPlan (sc : am_S) (A : ST) (q : QS) (D : ST) (t : TS) (m : Nat) (b : bd A) (hm : m < 16384) : AM sc m_W_isPlan 1 [.ref 2, .int (nI m)] (hp A q D t) (some (.int (zI (pln A m (x_nc A))))) (hp A q D t) := by
  refine AM.of (by decide) (Nat.le_of_ble_eq_true rfl) ?_
  show AW sc m_W_isPlan 1 0 [some (.ref 2), some (.int (nI m)), none, none] [] _ _ _
  refine aw_iconst 0 q_W_isPlan_0 rfl ?_
  refine aw_istore_n 2 q_W_isPlan_1 rfl rfl rfl ?_
  refine aw_iconst 0 q_W_isPlan_2 rfl ?_
  refine aw_istore_n 3 q_W_isPlan_3 rfl rfl rfl ?_
  exact l_W_isPlan sc A q D t m b hm _ 0 rfl (by omega) rfl
theorem l_W_usedDistricts (sc : am_S) (A : ST) (q : QS) (D : ST) (t : TS)  (b : bd A) : ∀ (n i : Nat), x_nt A - i = n → i ≤ x_nt A →  AW sc m_W_usedDistricts 0 4 [some (.ref 2), some (.int (nI (udm A i))), some (.int (nI i))] [] (hp A q D t) (some (.int (nI (udm A (x_nt A))))) (hp A q D t) := by
  intro n
  induction n using Nat.strongRecOn with
  | _ n ih =>
    intro i hn hi
    have b2 := b.2.1
    have b6 := b.2.2.2.2.2.1 i
    refine aw_iload_n 2 q_W_usedDistricts_4 rfl rfl ?_
    refine aw_aload_n 0 q_W_usedDistricts_5 rfl rfl ?_
    refine aw_get 2 q_W_usedDistricts_6 fl_W_52 rfl rfl ?_
    refine aw_icmp_ge 29 q_W_usedDistricts_9 rfl (fun c9 => ?_) (fun c9 => ?_)
    · skip
      refine aw_iload_n 1 q_W_usedDistricts_29 rfl rfl ?_
      exact aw_iret .int q_W_usedDistricts_30 rfl rfl (by rw [show i = x_nt A from Nat.le_antisymm hi (nge_ge c9 (by omega) (by omega))]) rfl
    · skip
      have hlt : i < x_nt A := nge_lt c9 (by omega) (by omega)
      refine aw_iload_n 1 q_W_usedDistricts_12 rfl rfl ?_
      refine aw_iconst 1 q_W_usedDistricts_13 rfl ?_
      refine aw_aload_n 0 q_W_usedDistricts_14 rfl rfl ?_
      refine aw_get 4 q_W_usedDistricts_15 fl_W_19 rfl rfl ?_
      refine aw_iload_n 2 q_W_usedDistricts_18 rfl rfl ?_
      refine aw_ialdN q_W_usedDistricts_19 rfl (by omega) rfl ?_
      refine aw_ishl q_W_usedDistricts_20 ?_
      refine aw_ior q_W_usedDistricts_21 ?_
      refine aw_istore_n 1 q_W_usedDistricts_22 rfl rfl rfl ?_
      first | refine aw_iinc _ q_W_usedDistricts_23 rfl (am_inc _) rfl rfl ?_ | refine aw_iinc _ q_W_usedDistricts_23 rfl rfl rfl rfl ?_
      refine aw_goto 4 q_W_usedDistricts_26 rfl ?_
      rw [bt_one (by omega), nI_or]
      exact ih _ (by omega) (i + 1) rfl (by omega)
theorem c_W_usedDistricts (sc : am_S) (A : ST) (q : QS) (D : ST) (t : TS)  (b : bd A) : AM sc m_W_usedDistricts 0 [.ref 2] (hp A q D t) (some (.int (nI (udm A (x_nt A))))) (hp A q D t) := by
  refine AM.of (by decide) (Nat.le_of_ble_eq_true rfl) ?_
  show AW sc m_W_usedDistricts 0 0 [some (.ref 2), none, none] [] _ _ _
  refine aw_iconst 0 q_W_usedDistricts_0 rfl ?_
  refine aw_istore_n 1 q_W_usedDistricts_1 rfl rfl rfl ?_
  refine aw_iconst 0 q_W_usedDistricts_2 rfl ?_
  refine aw_istore_n 2 q_W_usedDistricts_3 rfl rfl rfl ?_
  exact l_W_usedDistricts sc A q D t b _ 0 rfl (by omega)
theorem pom_t {A : ST} {m d y i : Nat} (h : m.testBit i = true ∧ x_di A (x_th A i) = d ∧ x_yr A i = y) : pom A m d y (i + 1) = pom A m d y i ||| 2 ^ i := by simp only [pom, if_pos h]
theorem pom_f {A : ST} {m d y i : Nat} (h : ¬ (m.testBit i = true ∧ x_di A (x_th A i) = d ∧ x_yr A i = y)) : pom A m d y (i + 1) = pom A m d y i := by simp only [pom, if_neg h]
theorem l_W_partOf (sc : am_S) (A : ST) (q : QS) (D : ST) (t : TS) (m dd y : Nat) (b : bd A) (hm : m < 16384) (hdd : dd < 4) (hy : y < 6) : ∀ (n i : Nat), x_nc A - i = n → i ≤ x_nc A →  AW sc m_W_partOf 1 6 [some (.ref 2), some (.int (nI m)), some (.int (nI dd)), some (.int (nI y)), some (.int (nI (pom A m dd y i))), some (.int (nI i))] [] (hp A q D t) (some (.int (nI (pom A m dd y (x_nc A))))) (hp A q D t) := by
  intro n
  induction n using Nat.strongRecOn with
  | _ n ih =>
    intro i hn hi
    have b3 := b.2.2.1
    have b4 := b.2.2.2.1 i
    have b5 := b.2.2.2.2.1 i
    have b6 := b.2.2.2.2.2.1 (x_th A i)
    refine aw_iload q_W_partOf_6 rfl ?_
    refine aw_aload_n 0 q_W_partOf_8 rfl rfl ?_
    refine aw_get 5 q_W_partOf_9 fl_W_55 rfl rfl ?_
    refine aw_icmp_ge 60 q_W_partOf_12 rfl (fun c12 => ?_) (fun c12 => ?_)
    · skip
      refine aw_iload q_W_partOf_60 rfl ?_
      exact aw_iret .int q_W_partOf_62 rfl rfl (by rw [show i = x_nc A from Nat.le_antisymm hi (nge_ge c12 (by omega) (by omega))]) rfl
    · skip
      have hlt : i < x_nc A := nge_lt c12 (by omega) (by omega)
      refine aw_iload_n 1 q_W_partOf_15 rfl rfl ?_
      refine aw_iload q_W_partOf_16 rfl ?_
      refine aw_S2 q_W_partOf_18 st_W_58 (by decide) (Nat.le_of_ble_eq_true rfl) (c_B_isIn _ _ _ _ (by omega) (by omega)) ?_
      refine aw_if_eq 54 q_W_partOf_21 rfl (fun c21 => ?_) (fun c21 => ?_)
      · skip
        first | refine aw_iinc _ q_W_partOf_54 rfl (am_inc _) rfl rfl ?_ | refine aw_iinc _ q_W_partOf_54 rfl rfl rfl rfl ?_
        refine aw_goto 6 q_W_partOf_57 rfl ?_
        first
          | (have h9 := zI_0.mp c21; rw [← pom_f (A := A) (m := m) (d := dd) (y := y) (i := i) (by simp [h9])]; exact ih _ (by omega) (i + 1) rfl (by omega))
          | (have h9 := nI_ne (by omega) (by omega) c31; rw [← pom_f (A := A) (m := m) (d := dd) (y := y) (i := i) (by simp [h9])]; exact ih _ (by omega) (i + 1) rfl (by omega))
          | (have h9 := nI_ne (by omega) (by omega) c42; rw [← pom_f (A := A) (m := m) (d := dd) (y := y) (i := i) (by simp [h9])]; exact ih _ (by omega) (i + 1) rfl (by omega))
          | (have h9 := zI_n0.mp c21; have h8 := nI_eq' (by omega) (by omega) c31; have h7 := nI_eq' (by omega) (by omega) c42; rw [bt_one (by omega), nI_or, ← pom_t ⟨h9, h8, h7⟩]; exact ih _ (by omega) (i + 1) rfl (by omega))
      · skip
        refine aw_aload_n 0 q_W_partOf_24 rfl rfl ?_
        refine aw_iload q_W_partOf_25 rfl ?_
        refine aw_V1 q_W_partOf_27 st_W_81 rfl (by decide) (Nat.le_of_ble_eq_true rfl) (c_W_districtOfChoice _ _ _ _ _ _ (by omega) (by omega)) ?_
        refine aw_iload_n 2 q_W_partOf_30 rfl rfl ?_
        refine aw_icmp_ne 54 q_W_partOf_31 rfl (fun c31 => ?_) (fun c31 => ?_)
        · skip
          first | refine aw_iinc _ q_W_partOf_54 rfl (am_inc _) rfl rfl ?_ | refine aw_iinc _ q_W_partOf_54 rfl rfl rfl rfl ?_
          refine aw_goto 6 q_W_partOf_57 rfl ?_
          first
            | (have h9 := zI_0.mp c21; rw [← pom_f (A := A) (m := m) (d := dd) (y := y) (i := i) (by simp [h9])]; exact ih _ (by omega) (i + 1) rfl (by omega))
            | (have h9 := nI_ne (by omega) (by omega) c31; rw [← pom_f (A := A) (m := m) (d := dd) (y := y) (i := i) (by simp [h9])]; exact ih _ (by omega) (i + 1) rfl (by omega))
            | (have h9 := nI_ne (by omega) (by omega) c42; rw [← pom_f (A := A) (m := m) (d := dd) (y := y) (i := i) (by simp [h9])]; exact ih _ (by omega) (i + 1) rfl (by omega))
            | (have h9 := zI_n0.mp c21; have h8 := nI_eq' (by omega) (by omega) c31; have h7 := nI_eq' (by omega) (by omega) c42; rw [bt_one (by omega), nI_or, ← pom_t ⟨h9, h8, h7⟩]; exact ih _ (by omega) (i + 1) rfl (by omega))
        · skip
          refine aw_aload_n 0 q_W_partOf_34 rfl rfl ?_
          refine aw_get 7 q_W_partOf_35 fl_W_25 rfl rfl ?_
          refine aw_iload q_W_partOf_38 rfl ?_
          refine aw_ialdN q_W_partOf_40 rfl (by omega) rfl ?_
          refine aw_iload_n 3 q_W_partOf_41 rfl rfl ?_
          refine aw_icmp_ne 54 q_W_partOf_42 rfl (fun c42 => ?_) (fun c42 => ?_)
          · skip
            first | refine aw_iinc _ q_W_partOf_54 rfl (am_inc _) rfl rfl ?_ | refine aw_iinc _ q_W_partOf_54 rfl rfl rfl rfl ?_
            refine aw_goto 6 q_W_partOf_57 rfl ?_
            first
              | (have h9 := zI_0.mp c21; rw [← pom_f (A := A) (m := m) (d := dd) (y := y) (i := i) (by simp [h9])]; exact ih _ (by omega) (i + 1) rfl (by omega))
              | (have h9 := nI_ne (by omega) (by omega) c31; rw [← pom_f (A := A) (m := m) (d := dd) (y := y) (i := i) (by simp [h9])]; exact ih _ (by omega) (i + 1) rfl (by omega))
              | (have h9 := nI_ne (by omega) (by omega) c42; rw [← pom_f (A := A) (m := m) (d := dd) (y := y) (i := i) (by simp [h9])]; exact ih _ (by omega) (i + 1) rfl (by omega))
              | (have h9 := zI_n0.mp c21; have h8 := nI_eq' (by omega) (by omega) c31; have h7 := nI_eq' (by omega) (by omega) c42; rw [bt_one (by omega), nI_or, ← pom_t ⟨h9, h8, h7⟩]; exact ih _ (by omega) (i + 1) rfl (by omega))
          · skip
            refine aw_iload q_W_partOf_45 rfl ?_
            refine aw_iconst 1 q_W_partOf_47 rfl ?_
            refine aw_iload q_W_partOf_48 rfl ?_
            refine aw_ishl q_W_partOf_50 ?_
            refine aw_ior q_W_partOf_51 ?_
            refine aw_istore q_W_partOf_52 rfl rfl ?_
            first | refine aw_iinc _ q_W_partOf_54 rfl (am_inc _) rfl rfl ?_ | refine aw_iinc _ q_W_partOf_54 rfl rfl rfl rfl ?_
            refine aw_goto 6 q_W_partOf_57 rfl ?_
            first
              | (have h9 := zI_0.mp c21; rw [← pom_f (A := A) (m := m) (d := dd) (y := y) (i := i) (by simp [h9])]; exact ih _ (by omega) (i + 1) rfl (by omega))
              | (have h9 := nI_ne (by omega) (by omega) c31; rw [← pom_f (A := A) (m := m) (d := dd) (y := y) (i := i) (by simp [h9])]; exact ih _ (by omega) (i + 1) rfl (by omega))
              | (have h9 := nI_ne (by omega) (by omega) c42; rw [← pom_f (A := A) (m := m) (d := dd) (y := y) (i := i) (by simp [h9])]; exact ih _ (by omega) (i + 1) rfl (by omega))
              | (have h9 := zI_n0.mp c21; have h8 := nI_eq' (by omega) (by omega) c31; have h7 := nI_eq' (by omega) (by omega) c42; rw [bt_one (by omega), nI_or, ← pom_t ⟨h9, h8, h7⟩]; exact ih _ (by omega) (i + 1) rfl (by omega))
theorem c_W_partOf (sc : am_S) (A : ST) (q : QS) (D : ST) (t : TS) (m dd y : Nat) (b : bd A) (hm : m < 16384) (hdd : dd < 4) (hy : y < 6) : AM sc m_W_partOf 1 [.ref 2, .int (nI m), .int (nI dd), .int (nI y)] (hp A q D t) (some (.int (nI (pom A m dd y (x_nc A))))) (hp A q D t) := by
  refine AM.of (by decide) (Nat.le_of_ble_eq_true rfl) ?_
  show AW sc m_W_partOf 1 0 [some (.ref 2), some (.int (nI m)), some (.int (nI dd)), some (.int (nI y)), none, none] [] _ _ _
  refine aw_iconst 0 q_W_partOf_0 rfl ?_
  refine aw_istore q_W_partOf_1 rfl rfl ?_
  refine aw_iconst 0 q_W_partOf_3 rfl ?_
  refine aw_istore q_W_partOf_4 rfl rfl ?_
  exact l_W_partOf sc A q D t m dd y b hm hdd hy _ 0 rfl (by omega)
theorem nI_gt {a c : Nat} (ha : a < 2 ^ 31) (hc : c < 2 ^ 31) (h : nI a < nI c) : ¬ c ≤ a := by
  have := (nI_ltI ha hc).mp h
  omega
theorem nI_ngt {a c : Nat} (ha : a < 2 ^ 31) (hc : c < 2 ^ 31) (h : ¬ nI a < nI c) : c ≤ a := by
  have := mt (nI_ltI ha hc).mpr h
  omega
theorem l_W_isDoneBy (sc : am_S) (A : ST) (q : QS) (D : ST) (t : TS) (m tt y : Nat) (b : bd A) (hm : m < 16384) (htt : tt < 12) (hy : y < 6) : ∀ (n i : Nat), x_nc A - i = n → i ≤ x_nc A → dnb A m tt y i = false → AW sc m_W_isDoneBy 1 3 [some (.ref 2), some (.int (nI m)), some (.int (nI tt)), some (.int (nI y)), some (.int (nI i))] [] (hp A q D t) (some (.int (zI (dnb A m tt y (x_nc A))))) (hp A q D t) := by
  intro n
  induction n using Nat.strongRecOn with
  | _ n ih =>
    intro i hn hi
    intro hw
    have b3 := b.2.2.1
    have b4 := b.2.2.2.1 i
    have b5 := b.2.2.2.2.1 i
    refine aw_iload q_W_isDoneBy_3 rfl ?_
    refine aw_aload_n 0 q_W_isDoneBy_5 rfl rfl ?_
    refine aw_get 5 q_W_isDoneBy_6 fl_W_55 rfl rfl ?_
    refine aw_icmp_ge 51 q_W_isDoneBy_9 rfl (fun c9 => ?_) (fun c9 => ?_)
    · skip
      refine aw_iconst 0 q_W_isDoneBy_51 rfl ?_
      exact aw_iret .boolean q_W_isDoneBy_52 rfl rfl (by rw [show i = x_nc A from Nat.le_antisymm hi (nge_ge c9 (by omega) (by omega))] at hw; rw [hw]; rfl) rfl
    · skip
      have hlt : i < x_nc A := nge_lt c9 (by omega) (by omega)
      refine aw_iload_n 1 q_W_isDoneBy_12 rfl rfl ?_
      refine aw_iload q_W_isDoneBy_13 rfl ?_
      refine aw_S2 q_W_isDoneBy_15 st_W_58 (by decide) (Nat.le_of_ble_eq_true rfl) (c_B_isIn _ _ _ _ (by omega) (by omega)) ?_
      refine aw_if_eq 45 q_W_isDoneBy_18 rfl (fun c18 => ?_) (fun c18 => ?_)
      · skip
        first | refine aw_iinc _ q_W_isDoneBy_45 rfl (am_inc _) rfl rfl ?_ | refine aw_iinc _ q_W_isDoneBy_45 rfl rfl rfl rfl ?_
        refine aw_goto 3 q_W_isDoneBy_48 rfl ?_
        first
          | (have h9 := zI_0.mp c18; exact ih _ (by omega) (i + 1) rfl (by omega) (by simp [dnb, hw, h9]))
          | (have h9 := nI_ne (by omega) (by omega) c29; exact ih _ (by omega) (i + 1) rfl (by omega) (by simp [dnb, hw, h9]))
          | (have h9 := nI_gt (by omega) (by omega) c40; exact ih _ (by omega) (i + 1) rfl (by omega) (by simp [dnb, hw]; intros; omega))
      · skip
        refine aw_aload_n 0 q_W_isDoneBy_21 rfl rfl ?_
        refine aw_get 6 q_W_isDoneBy_22 fl_W_22 rfl rfl ?_
        refine aw_iload q_W_isDoneBy_25 rfl ?_
        refine aw_ialdN q_W_isDoneBy_27 rfl (by omega) rfl ?_
        refine aw_iload_n 2 q_W_isDoneBy_28 rfl rfl ?_
        refine aw_icmp_ne 45 q_W_isDoneBy_29 rfl (fun c29 => ?_) (fun c29 => ?_)
        · skip
          first | refine aw_iinc _ q_W_isDoneBy_45 rfl (am_inc _) rfl rfl ?_ | refine aw_iinc _ q_W_isDoneBy_45 rfl rfl rfl rfl ?_
          refine aw_goto 3 q_W_isDoneBy_48 rfl ?_
          first
            | (have h9 := zI_0.mp c18; exact ih _ (by omega) (i + 1) rfl (by omega) (by simp [dnb, hw, h9]))
            | (have h9 := nI_ne (by omega) (by omega) c29; exact ih _ (by omega) (i + 1) rfl (by omega) (by simp [dnb, hw, h9]))
            | (have h9 := nI_gt (by omega) (by omega) c40; exact ih _ (by omega) (i + 1) rfl (by omega) (by simp [dnb, hw]; intros; omega))
        · skip
          refine aw_aload_n 0 q_W_isDoneBy_32 rfl rfl ?_
          refine aw_get 7 q_W_isDoneBy_33 fl_W_25 rfl rfl ?_
          refine aw_iload q_W_isDoneBy_36 rfl ?_
          refine aw_ialdN q_W_isDoneBy_38 rfl (by omega) rfl ?_
          refine aw_iload_n 3 q_W_isDoneBy_39 rfl rfl ?_
          refine aw_icmp_gt 45 q_W_isDoneBy_40 rfl (fun c40 => ?_) (fun c40 => ?_)
          · skip
            first | refine aw_iinc _ q_W_isDoneBy_45 rfl (am_inc _) rfl rfl ?_ | refine aw_iinc _ q_W_isDoneBy_45 rfl rfl rfl rfl ?_
            refine aw_goto 3 q_W_isDoneBy_48 rfl ?_
            first
              | (have h9 := zI_0.mp c18; exact ih _ (by omega) (i + 1) rfl (by omega) (by simp [dnb, hw, h9]))
              | (have h9 := nI_ne (by omega) (by omega) c29; exact ih _ (by omega) (i + 1) rfl (by omega) (by simp [dnb, hw, h9]))
              | (have h9 := nI_gt (by omega) (by omega) c40; exact ih _ (by omega) (i + 1) rfl (by omega) (by simp [dnb, hw]; intros; omega))
          · skip
            refine aw_iconst 1 q_W_isDoneBy_43 rfl ?_
            exact aw_iret .boolean q_W_isDoneBy_44 rfl rfl (by rw [dnb_mono (i := i + 1) (by omega) (by simp [dnb, zI_n0.mp c18, nI_eq' (by omega) (by omega) c29, nI_ngt (by omega) (by omega) c40])]; rfl) rfl
theorem c_W_isDoneBy (sc : am_S) (A : ST) (q : QS) (D : ST) (t : TS) (m tt y : Nat) (b : bd A) (hm : m < 16384) (htt : tt < 12) (hy : y < 6) : AM sc m_W_isDoneBy 1 [.ref 2, .int (nI m), .int (nI tt), .int (nI y)] (hp A q D t) (some (.int (zI (dnb A m tt y (x_nc A))))) (hp A q D t) := by
  refine AM.of (by decide) (Nat.le_of_ble_eq_true rfl) ?_
  show AW sc m_W_isDoneBy 1 0 [some (.ref 2), some (.int (nI m)), some (.int (nI tt)), some (.int (nI y)), none] [] _ _ _
  refine aw_iconst 0 q_W_isDoneBy_0 rfl ?_
  refine aw_istore q_W_isDoneBy_1 rfl rfl ?_
  exact l_W_isDoneBy sc A q D t m tt y b hm htt hy _ 0 rfl (by omega) rfl
theorem mwb_f {A : ST} {tt y i : Nat} (h : ¬ (x_th A i = tt ∧ x_yr A i ≤ y)) : mwb A tt y (i + 1) = mwb A tt y i := by simp only [mwb, if_neg h]
theorem mwb_t {A : ST} (b : bd A) {tt y i : Nat} (h : x_th A i = tt ∧ x_yr A i ≤ y) : (if lZ (x_wo A i) < lZ (mwb A tt y i) then lZ (mwb A tt y i) else lZ (x_wo A i)) = lZ (mwb A tt y (i + 1)) := by
  have h1 := mwb_bd b tt y i
  have h2 := b.2.2.2.2.2.2.2.2.1 i
  simp only [mwb, if_pos h]
  by_cases c : x_wo A i < mwb A tt y i
  · rw [if_pos c, if_pos ((lZ_lt (by omega) (by omega)).mpr c)]
  · rw [if_neg c, if_neg (fun z => c ((lZ_lt (by omega) (by omega)).mp z))]
theorem l_W_mostWorthBy (sc : am_S) (A : ST) (q : QS) (D : ST) (t : TS) (tt y : Nat) (b : bd A) (htt : tt < 12) (hy : y < 6) : ∀ (n i : Nat), x_nc A - i = n → i ≤ x_nc A →  AW sc m_W_mostWorthBy 1 5 [some (.ref 2), some (.int (nI tt)), some (.int (nI y)), some (.long (lZ (mwb A tt y i))), none, some (.int (nI i))] [] (hp A q D t) (some (.long (lZ (mwb A tt y (x_nc A))))) (hp A q D t) := by
  intro n
  induction n using Nat.strongRecOn with
  | _ n ih =>
    intro i hn hi
    have b3 := b.2.2.1
    have b4 := b.2.2.2.1 i
    have b5 := b.2.2.2.2.1 i
    refine aw_iload q_W_mostWorthBy_5 rfl ?_
    refine aw_aload_n 0 q_W_mostWorthBy_7 rfl rfl ?_
    refine aw_get 5 q_W_mostWorthBy_8 fl_W_55 rfl rfl ?_
    refine aw_icmp_ge 54 q_W_mostWorthBy_11 rfl (fun c11 => ?_) (fun c11 => ?_)
    · skip
      refine aw_lload_n 3 q_W_mostWorthBy_54 rfl rfl ?_
      exact aw_lret q_W_mostWorthBy_55 rfl (by rw [show i = x_nc A from Nat.le_antisymm hi (nge_ge c11 (by omega) (by omega))]) rfl
    · skip
      have hlt : i < x_nc A := nge_lt c11 (by omega) (by omega)
      refine aw_aload_n 0 q_W_mostWorthBy_14 rfl rfl ?_
      refine aw_get 6 q_W_mostWorthBy_15 fl_W_22 rfl rfl ?_
      refine aw_iload q_W_mostWorthBy_18 rfl ?_
      refine aw_ialdN q_W_mostWorthBy_20 rfl (by omega) rfl ?_
      refine aw_iload_n 1 q_W_mostWorthBy_21 rfl rfl ?_
      refine aw_icmp_ne 48 q_W_mostWorthBy_22 rfl (fun c22 => ?_) (fun c22 => ?_)
      · skip
        first | refine aw_iinc _ q_W_mostWorthBy_48 rfl (am_inc _) rfl rfl ?_ | refine aw_iinc _ q_W_mostWorthBy_48 rfl rfl rfl rfl ?_
        refine aw_goto 5 q_W_mostWorthBy_51 rfl ?_
        first
          | (have h9 := nI_ne (by omega) (by omega) c22; rw [← mwb_f (A := A) (tt := tt) (y := y) (i := i) (by simp [h9])]; exact ih _ (by omega) (i + 1) rfl (by omega))
          | (have h9 := nI_gt (by omega) (by omega) c33; rw [← mwb_f (A := A) (tt := tt) (y := y) (i := i) (by omega)]; exact ih _ (by omega) (i + 1) rfl (by omega))
          | (have h9 := nI_eq' (by omega) (by omega) c22; have h8 := nI_ngt (by omega) (by omega) c33; rw [mwb_t b ⟨h9, h8⟩]; exact ih _ (by omega) (i + 1) rfl (by omega))
      · skip
        refine aw_aload_n 0 q_W_mostWorthBy_25 rfl rfl ?_
        refine aw_get 7 q_W_mostWorthBy_26 fl_W_25 rfl rfl ?_
        refine aw_iload q_W_mostWorthBy_29 rfl ?_
        refine aw_ialdN q_W_mostWorthBy_31 rfl (by omega) rfl ?_
        refine aw_iload_n 2 q_W_mostWorthBy_32 rfl rfl ?_
        refine aw_icmp_gt 48 q_W_mostWorthBy_33 rfl (fun c33 => ?_) (fun c33 => ?_)
        · skip
          first | refine aw_iinc _ q_W_mostWorthBy_48 rfl (am_inc _) rfl rfl ?_ | refine aw_iinc _ q_W_mostWorthBy_48 rfl rfl rfl rfl ?_
          refine aw_goto 5 q_W_mostWorthBy_51 rfl ?_
          first
            | (have h9 := nI_ne (by omega) (by omega) c22; rw [← mwb_f (A := A) (tt := tt) (y := y) (i := i) (by simp [h9])]; exact ih _ (by omega) (i + 1) rfl (by omega))
            | (have h9 := nI_gt (by omega) (by omega) c33; rw [← mwb_f (A := A) (tt := tt) (y := y) (i := i) (by omega)]; exact ih _ (by omega) (i + 1) rfl (by omega))
            | (have h9 := nI_eq' (by omega) (by omega) c22; have h8 := nI_ngt (by omega) (by omega) c33; rw [mwb_t b ⟨h9, h8⟩]; exact ih _ (by omega) (i + 1) rfl (by omega))
        · skip
          refine aw_lload_n 3 q_W_mostWorthBy_36 rfl rfl ?_
          refine aw_aload_n 0 q_W_mostWorthBy_37 rfl rfl ?_
          refine aw_get 9 q_W_mostWorthBy_38 fl_W_31 rfl rfl ?_
          refine aw_iload q_W_mostWorthBy_41 rfl ?_
          refine aw_laldN q_W_mostWorthBy_43 rfl (by omega) rfl ?_
          refine aw_maxL q_W_mostWorthBy_44 (am_in2 (i := 184) rfl rfl) (by decide) (Nat.le_of_ble_eq_true rfl) ?_
          refine aw_lstore_n 3 q_W_mostWorthBy_47 rfl rfl rfl ?_
          first | refine aw_iinc _ q_W_mostWorthBy_48 rfl (am_inc _) rfl rfl ?_ | refine aw_iinc _ q_W_mostWorthBy_48 rfl rfl rfl rfl ?_
          refine aw_goto 5 q_W_mostWorthBy_51 rfl ?_
          first
            | (have h9 := nI_ne (by omega) (by omega) c22; rw [← mwb_f (A := A) (tt := tt) (y := y) (i := i) (by simp [h9])]; exact ih _ (by omega) (i + 1) rfl (by omega))
            | (have h9 := nI_gt (by omega) (by omega) c33; rw [← mwb_f (A := A) (tt := tt) (y := y) (i := i) (by omega)]; exact ih _ (by omega) (i + 1) rfl (by omega))
            | (have h9 := nI_eq' (by omega) (by omega) c22; have h8 := nI_ngt (by omega) (by omega) c33; rw [mwb_t b ⟨h9, h8⟩]; exact ih _ (by omega) (i + 1) rfl (by omega))
theorem c_W_mostWorthBy (sc : am_S) (A : ST) (q : QS) (D : ST) (t : TS) (tt y : Nat) (b : bd A) (htt : tt < 12) (hy : y < 6) : AM sc m_W_mostWorthBy 1 [.ref 2, .int (nI tt), .int (nI y)] (hp A q D t) (some (.long (lZ (mwb A tt y (x_nc A))))) (hp A q D t) := by
  refine AM.of (by decide) (Nat.le_of_ble_eq_true rfl) ?_
  show AW sc m_W_mostWorthBy 1 0 [some (.ref 2), some (.int (nI tt)), some (.int (nI y)), none, none, none] [] _ _ _
  refine aw_lconst (lZ 0) q_W_mostWorthBy_0 rfl ?_
  refine aw_lstore_n 3 q_W_mostWorthBy_1 rfl rfl rfl ?_
  refine aw_iconst 0 q_W_mostWorthBy_2 rfl ?_
  refine aw_istore q_W_mostWorthBy_3 rfl rfl ?_
  exact l_W_mostWorthBy sc A q D t tt y b htt hy _ 0 rfl (by omega)
def mw (A : ST) (tt : Nat) : Int := mwb A tt (x_ny A - 1) (x_nc A)
theorem c_W_mostWorth (sc : am_S) (A : ST) (q : QS) (D : ST) (t : TS) (tt : Nat) (b : bd A) (htt : tt < 12) : AM sc m_W_mostWorth 2 [.ref 2, .int (nI tt)] (hp A q D t) (some (.long (lZ (mw A tt)))) (hp A q D t) := by
  refine AM.of (by decide) (Nat.le_of_ble_eq_true rfl) ?_
  show AW sc m_W_mostWorth 2 0 [some (.ref 2), some (.int (nI tt))] [] _ _ _
  refine aw_aload_n 0 q_W_mostWorth_0 rfl rfl ?_
  refine aw_iload_n 1 q_W_mostWorth_1 rfl rfl ?_
  refine aw_aload_n 0 q_W_mostWorth_2 rfl rfl ?_
  refine aw_get 0 q_W_mostWorth_3 fl_W_48 rfl rfl ?_
  refine aw_iconst 1 q_W_mostWorth_6 rfl ?_
  refine aw_isub q_W_mostWorth_7 ?_
  rw [show (1 : Int32) = nI 1 from rfl, pk_sub (by have := b.2.2.2.2.2.2.2.2.2.2.2.2.2; omega)]
  refine aw_V2 q_W_mostWorth_8 st_W_85 rfl (by decide) (Nat.le_of_ble_eq_true rfl) (c_W_mostWorthBy _ _ _ _ _ _ _ b htt (by have := b.1; omega)) ?_
  exact aw_lret q_W_mostWorth_11 rfl rfl rfl
theorem mw_bd {A : ST} (b : bd A) (tt : Nat) : 0 ≤ mw A tt ∧ mw A tt ≤ 1000000 := mwb_bd b tt _ _
/-- thing u ranks before thing v -/
def rkb (A : ST) (u v : Nat) : Bool := if mw A u = mw A v then (if x_pl A u = x_pl A v then decide (u < v) else decide (x_pl A u < x_pl A v)) else decide (mw A v < mw A u)
theorem mw_eq {A : ST} (b : bd A) {u v : Nat} : lZ (mw A u) = lZ (mw A v) ↔ mw A u = mw A v := by
  have h1 := mw_bd b u
  have h2 := mw_bd b v
  exact lZ_eq (by omega) (by omega)
theorem mw_le {A : ST} (b : bd A) {u v : Nat} : lZ (mw A u) ≤ lZ (mw A v) ↔ mw A u ≤ mw A v := by
  have h1 := mw_bd b u
  have h2 := mw_bd b v
  exact lZ_le (by omega) (by omega)
theorem c_W_ranksBefore (sc : am_S) (A : ST) (q : QS) (D : ST) (t : TS) (u v : Nat) (b : bd A) (hu : u < 12) (hv : v < 12) : AM sc m_W_ranksBefore 3 [.ref 2, .int (nI u), .int (nI v)] (hp A q D t) (some (.int (zI (rkb A u v)))) (hp A q D t) := by
  refine AM.of (by decide) (Nat.le_of_ble_eq_true rfl) ?_
  show AW sc m_W_ranksBefore 3 0 [some (.ref 2), some (.int (nI u)), some (.int (nI v)), none, none, none, none] [] _ _ _
  have bu := b.2.2.2.2.2.2.2.2.2.2.2.1 u
  have bv := b.2.2.2.2.2.2.2.2.2.2.2.1 v
  refine aw_aload_n 0 q_W_ranksBefore_0 rfl rfl ?_
  refine aw_iload_n 1 q_W_ranksBefore_1 rfl rfl ?_
  refine aw_V1 q_W_ranksBefore_2 st_W_88 rfl (by decide) (Nat.le_of_ble_eq_true rfl) (c_W_mostWorth _ _ _ _ _ _ b (by assumption)) ?_
  refine aw_lstore_n 3 q_W_ranksBefore_5 rfl rfl rfl ?_
  refine aw_aload_n 0 q_W_ranksBefore_6 rfl rfl ?_
  refine aw_iload_n 2 q_W_ranksBefore_7 rfl rfl ?_
  refine aw_V1 q_W_ranksBefore_8 st_W_88 rfl (by decide) (Nat.le_of_ble_eq_true rfl) (c_W_mostWorth _ _ _ _ _ _ b (by assumption)) ?_
  refine aw_lstore q_W_ranksBefore_11 rfl rfl ?_
  refine aw_lload_n 3 q_W_ranksBefore_13 rfl rfl ?_
  refine aw_lload q_W_ranksBefore_14 rfl ?_
  refine aw_lcmp_eq 33 q_W_ranksBefore_16 q_W_ranksBefore_17 rfl (fun c16 => ?_) (fun c16 => ?_)
  · skip
    have e1 := (mw_eq b).mp c16
    refine aw_aload_n 0 q_W_ranksBefore_33 rfl rfl ?_
    refine aw_get 3 q_W_ranksBefore_34 fl_W_15 rfl rfl ?_
    refine aw_iload_n 1 q_W_ranksBefore_37 rfl rfl ?_
    refine aw_ialdN q_W_ranksBefore_38 rfl (by omega) rfl ?_
    refine aw_aload_n 0 q_W_ranksBefore_39 rfl rfl ?_
    refine aw_get 3 q_W_ranksBefore_40 fl_W_15 rfl rfl ?_
    refine aw_iload_n 2 q_W_ranksBefore_43 rfl rfl ?_
    refine aw_ialdN q_W_ranksBefore_44 rfl (by omega) rfl ?_
    refine aw_icmp_eq 71 q_W_ranksBefore_45 rfl (fun c45 => ?_) (fun c45 => ?_)
    · skip
      refine aw_iload_n 1 q_W_ranksBefore_71 rfl rfl ?_
      refine aw_iload_n 2 q_W_ranksBefore_72 rfl rfl ?_
      refine aw_icmp_ge 80 q_W_ranksBefore_73 rfl (fun c73 => ?_) (fun c73 => ?_)
      · skip
        refine aw_iconst 0 q_W_ranksBefore_80 rfl ?_
        exact aw_iret .boolean q_W_ranksBefore_81 rfl rfl (by have e2 := nI_eq' (by omega) (by omega) c45; have e3 := nge_ge c73 (by omega) (by omega); rw [zI_f]; simp [rkb, e1, e2]; omega) rfl
      · skip
        refine aw_iconst 1 q_W_ranksBefore_76 rfl ?_
        refine aw_goto 81 q_W_ranksBefore_77 rfl ?_
        exact aw_iret .boolean q_W_ranksBefore_81 rfl rfl (by have e2 := nI_eq' (by omega) (by omega) c45; have e3 := nge_lt c73 (by omega) (by omega); rw [zI_t]; simp [rkb, e1, e2]; omega) rfl
    · skip
      refine aw_aload_n 0 q_W_ranksBefore_48 rfl rfl ?_
      refine aw_get 3 q_W_ranksBefore_49 fl_W_15 rfl rfl ?_
      refine aw_iload_n 1 q_W_ranksBefore_52 rfl rfl ?_
      refine aw_ialdN q_W_ranksBefore_53 rfl (by omega) rfl ?_
      refine aw_aload_n 0 q_W_ranksBefore_54 rfl rfl ?_
      refine aw_get 3 q_W_ranksBefore_55 fl_W_15 rfl rfl ?_
      refine aw_iload_n 2 q_W_ranksBefore_58 rfl rfl ?_
      refine aw_ialdN q_W_ranksBefore_59 rfl (by omega) rfl ?_
      refine aw_icmp_ge 67 q_W_ranksBefore_60 rfl (fun c60 => ?_) (fun c60 => ?_)
      · skip
        refine aw_iconst 0 q_W_ranksBefore_67 rfl ?_
        refine aw_goto 81 q_W_ranksBefore_68 rfl ?_
        exact aw_iret .boolean q_W_ranksBefore_81 rfl rfl (by have e2 := nI_ne (by omega) (by omega) c45; have e3 := nge_ge c60 (by omega) (by omega); rw [zI_f]; simp [rkb, e1, e2]; omega) rfl
      · skip
        refine aw_iconst 1 q_W_ranksBefore_63 rfl ?_
        refine aw_goto 81 q_W_ranksBefore_64 rfl ?_
        exact aw_iret .boolean q_W_ranksBefore_81 rfl rfl (by have e2 := nI_ne (by omega) (by omega) c45; have e3 := nge_lt c60 (by omega) (by omega); rw [zI_t]; simp [rkb, e1, e2]; omega) rfl
  · skip
    have e1 := mt (mw_eq b).mpr c16
    refine aw_lload_n 3 q_W_ranksBefore_20 rfl rfl ?_
    refine aw_lload q_W_ranksBefore_21 rfl ?_
    refine aw_lcmp_le 31 q_W_ranksBefore_23 q_W_ranksBefore_24 rfl (fun c23 => ?_) (fun c23 => ?_)
    · skip
      refine aw_iconst 0 q_W_ranksBefore_31 rfl ?_
      exact aw_iret .boolean q_W_ranksBefore_32 rfl rfl (by have e2 := (mw_le b).mp c23; rw [zI_f]; simp [rkb, e1]; omega) rfl
    · skip
      refine aw_iconst 1 q_W_ranksBefore_27 rfl ?_
      refine aw_goto 32 q_W_ranksBefore_28 rfl ?_
      exact aw_iret .boolean q_W_ranksBefore_32 rfl rfl (by have e2 := mt (mw_le b).mpr c23; rw [zI_t]; simp [rkb, e1]; omega) rfl
end
section
/-! CONTRACTS 4: bounds by prices -/
theorem lZ_div {a c : Int} (ha : 0 ≤ a) (ha2 : a < 4611686018427387904) (hc : 0 < c) (hc2 : c < 4611686018427387904) : lZ a / lZ c = lZ (a / c) := by
  obtain ⟨n, rfl⟩ := Int.eq_ofNat_of_zero_le ha
  obtain ⟨k, rfl⟩ := Int.eq_ofNat_of_zero_le (Int.le_of_lt hc)
  rw [lZ_n, lZ_n, pk_lDiv (by omega) (by omega) (by omega)]
  rfl
/-- what a choice is worth at a price p by q, in q-th parts -/
def mpv (A : ST) (p u : Int) (c : Nat) : Int := x_wo A c * u - p * (x_co A c - sw A c (x_jt A c))
def mpt (A : ST) (tt : Nat) (p u : Int) : Nat → Int
  | 0 => 0
  | i + 1 => if x_th A i = tt then (if mpv A p u i < mpt A tt p u i then mpt A tt p u i else mpv A p u i) else mpt A tt p u i
def pq (p u : Int) : Prop := 0 ≤ p ∧ p ≤ 1000000 ∧ 1 ≤ u ∧ u ≤ 1000000
theorem mpv_bd {A : ST} (b : bd A) {p u : Int} (h : pq p u) (c : Nat) : -100000000000000 ≤ mpv A p u c ∧ mpv A p u c ≤ 100000000000000 := by
  have h1 := b.2.2.2.2.2.2.2.2.1 c
  have h2 := b.2.2.2.2.2.2.2.1 c
  have h3 := sw_bd b c (x_jt A c)
  obtain ⟨p1, p2, u1, u2⟩ := h
  unfold mpv
  have hz : -14000000 ≤ x_co A c - sw A c (x_jt A c) ∧ x_co A c - sw A c (x_jt A c) ≤ 1000000 := by omega
  generalize x_co A c - sw A c (x_jt A c) = z at *
  generalize x_wo A c = w at *
  have e1 : 0 ≤ w * u := Int.mul_nonneg h1.1 (by omega)
  have e2 : w * u ≤ 1000000 * 1000000 := Int.mul_le_mul h1.2 u2 (by omega) (by omega)
  have e3 : p * z ≤ p * 1000000 := Int.mul_le_mul_of_nonneg_left hz.2 p1
  have e4 : p * (-14000000) ≤ p * z := Int.mul_le_mul_of_nonneg_left hz.1 p1
  omega
theorem mpt_bd {A : ST} (b : bd A) {p u : Int} (h : pq p u) (tt : Nat) : ∀ i, 0 ≤ mpt A tt p u i ∧ mpt A tt p u i ≤ 100000000000000
  | 0 => by simp [mpt]
  | i + 1 => by
    have h0 := mpt_bd b h tt i
    have h1 := mpv_bd b h i
    unfold mpt
    split
    · split <;> omega
    · exact h0
theorem mpt_f {A : ST} {tt i : Nat} {p u : Int} (h : ¬ x_th A i = tt) : mpt A tt p u (i + 1) = mpt A tt p u i := by simp only [mpt, if_neg h]
theorem mpt_t {A : ST} (b : bd A) {p u : Int} (hp : pq p u) {tt i : Nat} (h : x_th A i = tt) : (if lZ (mpv A p u i) < lZ (mpt A tt p u i) then lZ (mpt A tt p u i) else lZ (mpv A p u i)) = lZ (mpt A tt p u (i + 1)) := by
  have h1 := mpt_bd b hp tt i
  have h2 := mpv_bd b hp i
  simp only [mpt, if_pos h]
  by_cases c : mpv A p u i < mpt A tt p u i
  · rw [if_pos c, if_pos ((lZ_lt (by omega) (by omega)).mpr c)]
  · rw [if_neg c, if_neg (fun z => c ((lZ_lt (by omega) (by omega)).mp z))]
theorem mpv_eq (A : ST) (p u : Int) (c : Nat) : lZ (x_wo A c) * lZ u - lZ p * (lZ (x_co A c) - lZ (sw A c (x_jt A c))) = lZ (mpv A p u c) := by
  rw [lZ_sub, lZ_mul, lZ_mul, lZ_sub]
  rfl
theorem l_N_mostPartsOf (sc : am_S) (A : ST) (q : QS) (D : ST) (t : TS) (tt : Nat) (p u : Int) (b : bd A) (htt : tt < 12) (hpq : pq p u) : ∀ (n i : Nat), x_nc A - i = n → i ≤ x_nc A →  AW sc m_N_mostPartsOf 2 6 [some (.ref 47), some (.int (nI tt)), some (.long (lZ p)), none, some (.long (lZ u)), none, some (.long (lZ (mpt A tt p u i))), none, some (.int (nI i)), none, none] [] (hp A q D t) (some (.long (lZ (mpt A tt p u (x_nc A))))) (hp A q D t) := by
  intro n
  induction n using Nat.strongRecOn with
  | _ n ih =>
    intro i hn hi
    have b3 := b.2.2.1
    have b4 := b.2.2.2.1 i
    refine aw_iload q_N_mostPartsOf_6 rfl ?_
    refine aw_aload_n 0 q_N_mostPartsOf_8 rfl rfl ?_
    refine aw_get 0 q_N_mostPartsOf_9 fl_N_7 rfl rfl ?_
    refine aw_get 5 q_N_mostPartsOf_12 fl_N_34 rfl rfl ?_
    refine aw_icmp_ge 85 q_N_mostPartsOf_15 rfl (fun c15 => ?_) (fun c15 => ?_)
    · skip
      refine aw_lload q_N_mostPartsOf_85 rfl ?_
      exact aw_lret q_N_mostPartsOf_87 rfl (by rw [show i = x_nc A from Nat.le_antisymm hi (nge_ge c15 (by omega) (by omega))]) rfl
    · skip
      have hlt : i < x_nc A := nge_lt c15 (by omega) (by omega)
      refine aw_aload_n 0 q_N_mostPartsOf_18 rfl rfl ?_
      refine aw_get 0 q_N_mostPartsOf_19 fl_N_7 rfl rfl ?_
      refine aw_get 6 q_N_mostPartsOf_22 fl_N_53 rfl rfl ?_
      refine aw_iload q_N_mostPartsOf_25 rfl ?_
      refine aw_ialdN q_N_mostPartsOf_27 rfl (by omega) rfl ?_
      refine aw_iload_n 1 q_N_mostPartsOf_28 rfl rfl ?_
      refine aw_icmp_ne 79 q_N_mostPartsOf_29 rfl (fun c29 => ?_) (fun c29 => ?_)
      · skip
        first | refine aw_iinc _ q_N_mostPartsOf_79 rfl (am_inc _) rfl rfl ?_ | refine aw_iinc _ q_N_mostPartsOf_79 rfl rfl rfl rfl ?_
        refine aw_goto 6 q_N_mostPartsOf_82 rfl ?_
        refine aw_kill [9] ?_
        first
          | (have h9 := nI_ne (by omega) (by omega) c29; rw [← mpt_f h9]; exact ih _ (by omega) (i + 1) rfl (by omega))
          | (have h9 := nI_eq' (by omega) (by omega) c29; rw [mpv_eq, mpt_t b hpq h9]; exact ih _ (by omega) (i + 1) rfl (by omega))
      · skip
        refine aw_aload_n 0 q_N_mostPartsOf_32 rfl rfl ?_
        refine aw_get 0 q_N_mostPartsOf_33 fl_N_7 rfl rfl ?_
        refine aw_get 8 q_N_mostPartsOf_36 fl_N_37 rfl rfl ?_
        refine aw_iload q_N_mostPartsOf_39 rfl ?_
        refine aw_laldN q_N_mostPartsOf_41 rfl (by omega) rfl ?_
        refine aw_aload_n 0 q_N_mostPartsOf_42 rfl rfl ?_
        refine aw_get 0 q_N_mostPartsOf_43 fl_N_7 rfl rfl ?_
        refine aw_iload q_N_mostPartsOf_46 rfl ?_
        refine aw_V1 q_N_mostPartsOf_48 st_N_57 rfl (by decide) (Nat.le_of_ble_eq_true rfl) (c_W_savesOfAllJoins _ _ _ _ _ _ b (by omega)) ?_
        refine aw_lsub q_N_mostPartsOf_51 ?_
        refine aw_lstore q_N_mostPartsOf_52 rfl rfl ?_
        refine aw_lload q_N_mostPartsOf_54 rfl ?_
        refine aw_aload_n 0 q_N_mostPartsOf_56 rfl rfl ?_
        refine aw_get 0 q_N_mostPartsOf_57 fl_N_7 rfl rfl ?_
        refine aw_get 9 q_N_mostPartsOf_60 fl_N_40 rfl rfl ?_
        refine aw_iload q_N_mostPartsOf_63 rfl ?_
        refine aw_laldN q_N_mostPartsOf_65 rfl (by omega) rfl ?_
        refine aw_lload q_N_mostPartsOf_66 rfl ?_
        refine aw_lmul q_N_mostPartsOf_68 ?_
        refine aw_lload_n 2 q_N_mostPartsOf_69 rfl rfl ?_
        refine aw_lload q_N_mostPartsOf_70 rfl ?_
        refine aw_lmul q_N_mostPartsOf_72 ?_
        refine aw_lsub q_N_mostPartsOf_73 ?_
        refine aw_maxL q_N_mostPartsOf_74 (am_in2 (i := 204) rfl rfl) (by decide) (Nat.le_of_ble_eq_true rfl) ?_
        refine aw_lstore q_N_mostPartsOf_77 rfl rfl ?_
        first | refine aw_iinc _ q_N_mostPartsOf_79 rfl (am_inc _) rfl rfl ?_ | refine aw_iinc _ q_N_mostPartsOf_79 rfl rfl rfl rfl ?_
        refine aw_goto 6 q_N_mostPartsOf_82 rfl ?_
        refine aw_kill [9] ?_
        first
          | (have h9 := nI_ne (by omega) (by omega) c29; rw [← mpt_f h9]; exact ih _ (by omega) (i + 1) rfl (by omega))
          | (have h9 := nI_eq' (by omega) (by omega) c29; rw [mpv_eq, mpt_t b hpq h9]; exact ih _ (by omega) (i + 1) rfl (by omega))
theorem c_N_mostPartsOf (sc : am_S) (A : ST) (q : QS) (D : ST) (t : TS) (tt : Nat) (p u : Int) (b : bd A) (htt : tt < 12) (hpq : pq p u) : AM sc m_N_mostPartsOf 2 [.ref 47, .int (nI tt), .long (lZ p), .long (lZ u)] (hp A q D t) (some (.long (lZ (mpt A tt p u (x_nc A))))) (hp A q D t) := by
  refine AM.of (by decide) (Nat.le_of_ble_eq_true rfl) ?_
  show AW sc m_N_mostPartsOf 2 0 [some (.ref 47), some (.int (nI tt)), some (.long (lZ p)), none, some (.long (lZ u)), none, none, none, none, none, none] [] _ _ _
  refine aw_lconst (lZ 0) q_N_mostPartsOf_0 rfl ?_
  refine aw_lstore q_N_mostPartsOf_1 rfl rfl ?_
  refine aw_iconst 0 q_N_mostPartsOf_3 rfl ?_
  refine aw_istore q_N_mostPartsOf_4 rfl rfl ?_
  exact l_N_mostPartsOf sc A q D t tt p u b htt hpq _ 0 rfl (by omega)
def bpn (A : ST) (p u ce : Int) (i : Nat) : Int := ce * p + sm i (fun tt => mpt A tt p u (x_nc A))
def bpr (A : ST) (p u ce : Int) : Int := bpn A p u ce (x_nt A) / u
def ceo (ce : Int) : Prop := 0 ≤ ce ∧ ce ≤ 2000000000
theorem bpn_bd {A : ST} (b : bd A) {p u ce : Int} (h : pq p u) (hc : ceo ce) {i : Nat} (hi : i ≤ 12) : 0 ≤ bpn A p u ce i ∧ bpn A p u ce i ≤ 10000000000000000 := by
  have h1 := sm_le (n := i) (f := fun tt => mpt A tt p u (x_nc A)) (a := 0) (b := 100000000000000) (fun tt _ => mpt_bd b h tt _)
  obtain ⟨p1, p2, u1, u2⟩ := h
  have e1 : 0 ≤ ce * p := Int.mul_nonneg hc.1 p1
  have e2 : ce * p ≤ 2000000000 * 1000000 := Int.mul_le_mul hc.2 p2 p1 (by omega)
  unfold bpn
  omega
theorem bpr_bd {A : ST} (b : bd A) {p u ce : Int} (h : pq p u) (hc : ceo ce) : 0 ≤ bpr A p u ce ∧ bpr A p u ce ≤ 10000000000000000 := by
  have h1 := bpn_bd b h hc b.2.1
  have h2 := h.2.2.1
  unfold bpr
  exact ⟨Int.ediv_nonneg h1.1 (by omega), Int.le_trans (Int.ediv_le_self _ h1.1) h1.2⟩
theorem l_N_byPrice (sc : am_S) (A : ST) (q : QS) (D : ST) (t : TS) (p u ce : Int) (b : bd A) (hpq : pq p u) (hce : ceo ce) : ∀ (n i : Nat), x_nt A - i = n → i ≤ x_nt A →  AW sc m_N_byPrice 3 9 [some (.ref 47), some (.long (lZ p)), none, some (.long (lZ u)), none, some (.long (lZ ce)), none, some (.long (lZ (bpn A p u ce i))), none, some (.int (nI i))] [] (hp A q D t) (some (.long (lZ (bpr A p u ce)))) (hp A q D t) := by
  intro n
  induction n using Nat.strongRecOn with
  | _ n ih =>
    intro i hn hi
    have b2 := b.2.1
    have hu := hpq.2.2
    refine aw_iload q_N_byPrice_9 rfl ?_
    refine aw_aload_n 0 q_N_byPrice_11 rfl rfl ?_
    refine aw_get 0 q_N_byPrice_12 fl_N_7 rfl rfl ?_
    refine aw_get 2 q_N_byPrice_15 fl_N_13 rfl rfl ?_
    refine aw_icmp_ge 40 q_N_byPrice_18 rfl (fun c18 => ?_) (fun c18 => ?_)
    · skip
      refine aw_lload_n 3 q_N_byPrice_40 rfl rfl ?_
      refine aw_lconst (lZ 0) q_N_byPrice_41 rfl ?_
      refine aw_lcmp_le 53 q_N_byPrice_42 q_N_byPrice_43 rfl (fun c42 => ?_) (fun c42 => ?_)
      · skip
        exact absurd ((lZ_le (by omega) (by omega)).mp c42) (by omega)
      · skip
        have hne : ¬ lZ u = 0 := fun z => c42 (by rw [z]; decide)
        refine aw_lload q_N_byPrice_46 rfl ?_
        refine aw_lload_n 3 q_N_byPrice_48 rfl rfl ?_
        refine aw_ldiv q_N_byPrice_49 hne ?_
        refine aw_goto 54 q_N_byPrice_50 rfl ?_
        exact aw_lret q_N_byPrice_54 rfl (by rw [show i = x_nt A from Nat.le_antisymm hi (nge_ge c18 (by omega) (by omega)), lZ_div (bpn_bd b hpq hce b2).1 (by have := (bpn_bd b hpq hce b2).2; omega) (by omega) (by omega)]; rfl) rfl
    · skip
      have hlt : i < x_nt A := nge_lt c18 (by omega) (by omega)
      refine aw_lload q_N_byPrice_21 rfl ?_
      refine aw_aload_n 0 q_N_byPrice_23 rfl rfl ?_
      refine aw_iload q_N_byPrice_24 rfl ?_
      refine aw_lload_n 1 q_N_byPrice_26 rfl rfl ?_
      refine aw_lload_n 3 q_N_byPrice_27 rfl rfl ?_
      refine aw_V3 q_N_byPrice_28 st_N_49 rfl (by decide) (Nat.le_of_ble_eq_true rfl) (c_N_mostPartsOf _ _ _ _ _ _ _ _ b (by omega) hpq) ?_
      refine aw_ladd q_N_byPrice_31 ?_
      refine aw_lstore q_N_byPrice_32 rfl rfl ?_
      first | refine aw_iinc _ q_N_byPrice_34 rfl (am_inc _) rfl rfl ?_ | refine aw_iinc _ q_N_byPrice_34 rfl rfl rfl rfl ?_
      refine aw_goto 9 q_N_byPrice_37 rfl ?_
      rw [lZ_add, show bpn A p u ce i + mpt A i p u (x_nc A) = bpn A p u ce (i + 1) from by simp only [bpn, sm]; omega]
      exact ih _ (by omega) (i + 1) rfl (by omega)
theorem c_N_byPrice (sc : am_S) (A : ST) (q : QS) (D : ST) (t : TS) (p u ce : Int) (b : bd A) (hpq : pq p u) (hce : ceo ce) : AM sc m_N_byPrice 3 [.ref 47, .long (lZ p), .long (lZ u), .long (lZ ce)] (hp A q D t) (some (.long (lZ (bpr A p u ce)))) (hp A q D t) := by
  refine AM.of (by decide) (Nat.le_of_ble_eq_true rfl) ?_
  show AW sc m_N_byPrice 3 0 [some (.ref 47), some (.long (lZ p)), none, some (.long (lZ u)), none, some (.long (lZ ce)), none, none, none, none] [] _ _ _
  refine aw_lload q_N_byPrice_0 rfl ?_
  refine aw_lload_n 1 q_N_byPrice_2 rfl rfl ?_
  refine aw_lmul q_N_byPrice_3 ?_
  refine aw_lstore q_N_byPrice_4 rfl rfl ?_
  refine aw_iconst 0 q_N_byPrice_6 rfl ?_
  refine aw_istore q_N_byPrice_7 rfl rfl ?_
  rw [lZ_mul, show ce * p = bpn A p u ce 0 from by simp only [bpn, sm]; omega]
  exact l_N_byPrice sc A q D t p u ce b hpq hce _ 0 rfl (by omega)
def bps (A : ST) (ce : Int) : Nat → Int
  | 0 => bpr A 0 1 ce
  | i + 1 => if 0 < x_co A i then (if bpr A (x_wo A i) (x_co A i) ce < bps A ce i then bpr A (x_wo A i) (x_co A i) ce else bps A ce i) else bps A ce i
theorem pq_c {A : ST} (b : bd A) {c : Nat} (h : 0 < x_co A c) : pq (x_wo A c) (x_co A c) := by
  have h1 := b.2.2.2.2.2.2.2.2.1 c
  have h2 := b.2.2.2.2.2.2.2.1 c
  unfold pq
  omega
theorem pq_0 : pq 0 1 := by unfold pq; omega
theorem bps_bd {A : ST} (b : bd A) {ce : Int} (hc : ceo ce) : ∀ i, 0 ≤ bps A ce i ∧ bps A ce i ≤ 10000000000000000
  | 0 => bpr_bd b pq_0 hc
  | i + 1 => by
    have h0 := bps_bd b hc i
    unfold bps
    split
    · next h =>
      have := bpr_bd b (pq_c b h) hc
      split <;> omega
    · exact h0
theorem bps_f {A : ST} {ce : Int} {i : Nat} (h : ¬ 0 < x_co A i) : bps A ce (i + 1) = bps A ce i := by simp only [bps, if_neg h]
theorem bps_t {A : ST} (b : bd A) {ce : Int} (hc : ceo ce) {i : Nat} (h : 0 < x_co A i) : (if lZ (bpr A (x_wo A i) (x_co A i) ce) < lZ (bps A ce i) then lZ (bpr A (x_wo A i) (x_co A i) ce) else lZ (bps A ce i)) = lZ (bps A ce (i + 1)) := by
  have h1 := bps_bd b hc i
  have h2 := bpr_bd b (pq_c b h) hc
  simp only [bps, if_pos h]
  by_cases c : bpr A (x_wo A i) (x_co A i) ce < bps A ce i
  · rw [if_pos c, if_pos ((lZ_lt (by omega) (by omega)).mpr c)]
  · rw [if_neg c, if_neg (fun z => c ((lZ_lt (by omega) (by omega)).mp z))]
def bsum (A : ST) (i : Nat) : Int := sm i (x_bu A)
theorem bsum_bd {A : ST} (b : bd A) {i : Nat} (hi : i ≤ 6) : 0 ≤ bsum A i ∧ bsum A i ≤ 1200000000 := by
  have h1 := sm_le (n := i) (f := x_bu A) (a := 0) (b := 200000000) (fun y _ => b.2.2.2.2.2.2.2.2.2.2.1 y)
  unfold bsum
  omega
theorem l_N_byPrices2 (sc : am_S) (A : ST) (q : QS) (D : ST) (t : TS) (mo ce : Int) (b : bd A) (hce : ceo ce) : ∀ (n i : Nat), x_nc A - i = n → i ≤ x_nc A →  AW sc m_N_byPrices 4 48 [some (.ref 47), some (.long (lZ mo)), none, some (.long (lZ ce)), none, some (.long (lZ (bps A ce i))), none, some (.int (nI i)), none, none] [] (hp A q D t) (some (.long (lZ (bps A ce (x_nc A))))) (hp A q D t) := by
  intro n
  induction n using Nat.strongRecOn with
  | _ n ih =>
    intro i hn hi
    have b3 := b.2.2.1
    have b8 := b.2.2.2.2.2.2.2.1 i
    refine aw_iload q_N_byPrices_48 rfl ?_
    refine aw_aload_n 0 q_N_byPrices_50 rfl rfl ?_
    refine aw_get 0 q_N_byPrices_51 fl_N_7 rfl rfl ?_
    refine aw_get 5 q_N_byPrices_54 fl_N_34 rfl rfl ?_
    refine aw_icmp_ge 117 q_N_byPrices_57 rfl (fun c57 => ?_) (fun c57 => ?_)
    · skip
      refine aw_lload q_N_byPrices_117 rfl ?_
      exact aw_lret q_N_byPrices_119 rfl (by rw [show i = x_nc A from Nat.le_antisymm hi (nge_ge c57 (by omega) (by omega))]) rfl
    · skip
      have hlt : i < x_nc A := nge_lt c57 (by omega) (by omega)
      refine aw_aload_n 0 q_N_byPrices_60 rfl rfl ?_
      refine aw_get 0 q_N_byPrices_61 fl_N_7 rfl rfl ?_
      refine aw_get 8 q_N_byPrices_64 fl_N_37 rfl rfl ?_
      refine aw_iload q_N_byPrices_67 rfl ?_
      refine aw_laldN q_N_byPrices_69 rfl (by omega) rfl ?_
      refine aw_lconst (lZ 0) q_N_byPrices_70 rfl ?_
      refine aw_lcmp_le 111 q_N_byPrices_71 q_N_byPrices_72 rfl (fun c71 => ?_) (fun c71 => ?_)
      · skip
        first | refine aw_iinc _ q_N_byPrices_111 rfl (am_inc _) rfl rfl ?_ | refine aw_iinc _ q_N_byPrices_111 rfl rfl rfl rfl ?_
        refine aw_goto 48 q_N_byPrices_114 rfl ?_
        refine aw_kill [8] ?_
        first
          | (have h9 : ¬ 0 < x_co A i := by have := (lZ_le (a := x_co A i) (b := 0) (by omega) (by omega)).mp c71; omega
             rw [← bps_f h9]; exact ih _ (by omega) (i + 1) rfl (by omega))
          | (rw [bps_t b hce hpos]; exact ih _ (by omega) (i + 1) rfl (by omega))
      · skip
        have hpos : 0 < x_co A i := by have := mt (lZ_le (a := x_co A i) (b := 0) (by omega) (by omega)).mpr c71; omega
        refine aw_aload_n 0 q_N_byPrices_75 rfl rfl ?_
        refine aw_aload_n 0 q_N_byPrices_76 rfl rfl ?_
        refine aw_get 0 q_N_byPrices_77 fl_N_7 rfl rfl ?_
        refine aw_get 9 q_N_byPrices_80 fl_N_40 rfl rfl ?_
        refine aw_iload q_N_byPrices_83 rfl ?_
        refine aw_laldN q_N_byPrices_85 rfl (by omega) rfl ?_
        refine aw_aload_n 0 q_N_byPrices_86 rfl rfl ?_
        refine aw_get 0 q_N_byPrices_87 fl_N_7 rfl rfl ?_
        refine aw_get 8 q_N_byPrices_90 fl_N_37 rfl rfl ?_
        refine aw_iload q_N_byPrices_93 rfl ?_
        refine aw_laldN q_N_byPrices_95 rfl (by omega) rfl ?_
        refine aw_lload_n 3 q_N_byPrices_96 rfl rfl ?_
        refine aw_V3 q_N_byPrices_97 st_N_30 rfl (by decide) (Nat.le_of_ble_eq_true rfl) (c_N_byPrice _ _ _ _ _ _ _ _ b (pq_c b hpos) hce) ?_
        refine aw_lstore q_N_byPrices_100 rfl rfl ?_
        refine aw_lload q_N_byPrices_102 rfl ?_
        refine aw_lload q_N_byPrices_104 rfl ?_
        refine aw_minL q_N_byPrices_106 (am_in2 (i := 205) rfl rfl) (by decide) (Nat.le_of_ble_eq_true rfl) ?_
        refine aw_lstore q_N_byPrices_109 rfl rfl ?_
        first | refine aw_iinc _ q_N_byPrices_111 rfl (am_inc _) rfl rfl ?_ | refine aw_iinc _ q_N_byPrices_111 rfl rfl rfl rfl ?_
        refine aw_goto 48 q_N_byPrices_114 rfl ?_
        refine aw_kill [8] ?_
        first
          | (have h9 : ¬ 0 < x_co A i := by have := (lZ_le (a := x_co A i) (b := 0) (by omega) (by omega)).mp c71; omega
             rw [← bps_f h9]; exact ih _ (by omega) (i + 1) rfl (by omega))
          | (rw [bps_t b hce hpos]; exact ih _ (by omega) (i + 1) rfl (by omega))
theorem l_N_byPrices1 (sc : am_S) (A : ST) (q : QS) (D : ST) (t : TS) (mo : Int) (b : bd A) (hmo : 0 ≤ mo ∧ mo ≤ 1000) : ∀ (n i : Nat), x_ny A - i = n → i ≤ x_ny A →  AW sc m_N_byPrices 4 5 [some (.ref 47), some (.long (lZ mo)), none, some (.long (lZ (mo + bsum A i))), none, some (.int (nI i)), none, none, none, none] [] (hp A q D t) (some (.long (lZ (bps A (mo + bsum A (x_ny A)) (x_nc A))))) (hp A q D t) := by
  intro n
  induction n using Nat.strongRecOn with
  | _ n ih =>
    intro i hn hi
    have b1 := b.1
    refine aw_iload q_N_byPrices_5 rfl ?_
    refine aw_aload_n 0 q_N_byPrices_7 rfl rfl ?_
    refine aw_get 0 q_N_byPrices_8 fl_N_7 rfl rfl ?_
    refine aw_get 0 q_N_byPrices_11 fl_N_23 rfl rfl ?_
    refine aw_icmp_ge 36 q_N_byPrices_14 rfl (fun c14 => ?_) (fun c14 => ?_)
    · skip
      have he : i = x_ny A := Nat.le_antisymm hi (nge_ge c14 (by omega) (by omega))
      rw [he]
      have hce : ceo (mo + bsum A (x_ny A)) := by have := bsum_bd b b1; unfold ceo; omega
      refine aw_aload_n 0 q_N_byPrices_36 rfl rfl ?_
      refine aw_lconst (lZ 0) q_N_byPrices_37 rfl ?_
      refine aw_lconst (lZ 1) q_N_byPrices_38 rfl ?_
      refine aw_lload_n 3 q_N_byPrices_39 rfl rfl ?_
      refine aw_V3 q_N_byPrices_40 st_N_30 rfl (by decide) (Nat.le_of_ble_eq_true rfl) (c_N_byPrice _ _ _ _ _ _ _ _ b pq_0 hce) ?_
      refine aw_lstore q_N_byPrices_43 rfl rfl ?_
      refine aw_iconst 0 q_N_byPrices_45 rfl ?_
      refine aw_istore q_N_byPrices_46 rfl rfl ?_
      exact l_N_byPrices2 sc A q D t mo _ b hce _ 0 rfl (by omega)
    · skip
      have hlt : i < x_ny A := nge_lt c14 (by omega) (by omega)
      refine aw_lload_n 3 q_N_byPrices_17 rfl rfl ?_
      refine aw_aload_n 0 q_N_byPrices_18 rfl rfl ?_
      refine aw_get 0 q_N_byPrices_19 fl_N_7 rfl rfl ?_
      refine aw_get 1 q_N_byPrices_22 fl_N_26 rfl rfl ?_
      refine aw_iload q_N_byPrices_25 rfl ?_
      refine aw_laldN q_N_byPrices_27 rfl (by omega) rfl ?_
      refine aw_ladd q_N_byPrices_28 ?_
      refine aw_lstore_n 3 q_N_byPrices_29 rfl rfl rfl ?_
      first | refine aw_iinc _ q_N_byPrices_30 rfl (am_inc _) rfl rfl ?_ | refine aw_iinc _ q_N_byPrices_30 rfl rfl rfl rfl ?_
      refine aw_goto 5 q_N_byPrices_33 rfl ?_
      rw [lZ_add, show mo + bsum A i + x_bu A i = mo + bsum A (i + 1) from by simp only [bsum, sm]; omega]
      exact ih _ (by omega) (i + 1) rfl (by omega)
theorem c_N_byPrices (sc : am_S) (A : ST) (q : QS) (D : ST) (t : TS) (mo : Int) (b : bd A) (hmo : 0 ≤ mo ∧ mo ≤ 1000) : AM sc m_N_byPrices 4 [.ref 47, .long (lZ mo)] (hp A q D t) (some (.long (lZ (bps A (mo + bsum A (x_ny A)) (x_nc A))))) (hp A q D t) := by
  refine AM.of (by decide) (Nat.le_of_ble_eq_true rfl) ?_
  show AW sc m_N_byPrices 4 0 [some (.ref 47), some (.long (lZ mo)), none, none, none, none, none, none, none, none] [] _ _ _
  refine aw_lload_n 1 q_N_byPrices_0 rfl rfl ?_
  refine aw_lstore_n 3 q_N_byPrices_1 rfl rfl rfl ?_
  refine aw_iconst 0 q_N_byPrices_2 rfl ?_
  refine aw_istore q_N_byPrices_3 rfl rfl ?_
  have h0 := l_N_byPrices1 sc A q D t mo b hmo _ 0 rfl (by omega)
  rw [show mo + bsum A 0 = mo from by simp only [bsum, sm]; omega] at h0
  exact h0
theorem l_N_byThings (sc : am_S) (A : ST) (q : QS) (D : ST) (t : TS)  (b : bd A) : ∀ (n i : Nat), x_nt A - i = n → i ≤ x_nt A →  AW sc m_N_byThings 3 4 [some (.ref 47), some (.long (lZ (sm i (mw A)))), none, some (.int (nI i))] [] (hp A q D t) (some (.long (lZ (sm (x_nt A) (mw A))))) (hp A q D t) := by
  intro n
  induction n using Nat.strongRecOn with
  | _ n ih =>
    intro i hn hi
    have b2 := b.2.1
    refine aw_iload_n 3 q_N_byThings_4 rfl rfl ?_
    refine aw_aload_n 0 q_N_byThings_5 rfl rfl ?_
    refine aw_get 0 q_N_byThings_6 fl_N_7 rfl rfl ?_
    refine aw_get 2 q_N_byThings_9 fl_N_13 rfl rfl ?_
    refine aw_icmp_ge 32 q_N_byThings_12 rfl (fun c12 => ?_) (fun c12 => ?_)
    · skip
      refine aw_lload_n 1 q_N_byThings_32 rfl rfl ?_
      exact aw_lret q_N_byThings_33 rfl (by rw [show i = x_nt A from Nat.le_antisymm hi (nge_ge c12 (by omega) (by omega))]) rfl
    · skip
      have hlt : i < x_nt A := nge_lt c12 (by omega) (by omega)
      refine aw_lload_n 1 q_N_byThings_15 rfl rfl ?_
      refine aw_aload_n 0 q_N_byThings_16 rfl rfl ?_
      refine aw_get 0 q_N_byThings_17 fl_N_7 rfl rfl ?_
      refine aw_iload_n 3 q_N_byThings_20 rfl rfl ?_
      refine aw_V1 q_N_byThings_21 st_N_19 rfl (by decide) (Nat.le_of_ble_eq_true rfl) (c_W_mostWorth _ _ _ _ _ _ b (by omega)) ?_
      refine aw_ladd q_N_byThings_24 ?_
      refine aw_lstore_n 1 q_N_byThings_25 rfl rfl rfl ?_
      first | refine aw_iinc _ q_N_byThings_26 rfl (am_inc _) rfl rfl ?_ | refine aw_iinc _ q_N_byThings_26 rfl rfl rfl rfl ?_
      refine aw_goto 4 q_N_byThings_29 rfl ?_
      rw [sm_t (f := mw A) (i := i) rfl]
      exact ih _ (by omega) (i + 1) rfl (by omega)
theorem c_N_byThings (sc : am_S) (A : ST) (q : QS) (D : ST) (t : TS)  (b : bd A) : AM sc m_N_byThings 3 [.ref 47] (hp A q D t) (some (.long (lZ (sm (x_nt A) (mw A))))) (hp A q D t) := by
  refine AM.of (by decide) (Nat.le_of_ble_eq_true rfl) ?_
  show AW sc m_N_byThings 3 0 [some (.ref 47), none, none, none] [] _ _ _
  refine aw_lconst (lZ 0) q_N_byThings_0 rfl ?_
  refine aw_lstore_n 1 q_N_byThings_1 rfl rfl rfl ?_
  refine aw_iconst 0 q_N_byThings_2 rfl ?_
  refine aw_istore_n 3 q_N_byThings_3 rfl rfl rfl ?_
  exact l_N_byThings sc A q D t b _ 0 rfl (by omega)
end
section
/-! CONTRACTS 5: plain policies -/
def psb (A : ST) (m : Nat) : Bool := pln A m (x_nc A) && wal A m (x_ny A)
def ldw (A : ST) (u v : Nat) : Int := if x_co A u = 0 ∨ x_co A v = 0 then (if x_co A u ≤ x_co A v then (if x_co A v = x_co A u then 0 else 1) else -1) else x_wo A u * x_co A v - x_wo A v * x_co A u
theorem co_eq {A : ST} (b : bd A) {u v : Nat} : lZ (x_co A u) = lZ (x_co A v) ↔ x_co A u = x_co A v := by
  have h1 := b.2.2.2.2.2.2.2.1 u
  have h2 := b.2.2.2.2.2.2.2.1 v
  exact lZ_eq (by omega) (by omega)
theorem co_le {A : ST} (b : bd A) {u v : Nat} : lZ (x_co A u) ≤ lZ (x_co A v) ↔ x_co A u ≤ x_co A v := by
  have h1 := b.2.2.2.2.2.2.2.1 u
  have h2 := b.2.2.2.2.2.2.2.1 v
  exact lZ_le (by omega) (by omega)
theorem co_0 {A : ST} (b : bd A) {u : Nat} : lZ (x_co A u) = lZ 0 ↔ x_co A u = 0 := by
  have h1 := b.2.2.2.2.2.2.2.1 u
  exact lZ_eq (by omega) (by omega)
theorem ldw_1 {A : ST} (b : bd A) {u v : Nat} (h : x_co A u = 0 ∨ x_co A v = 0) : lZ (ldw A u v) = (if lZ (x_co A u) ≤ lZ (x_co A v) then (if lZ (x_co A v) = lZ (x_co A u) then (0 : Int32) else 1) else -1).toInt64 := by
  unfold ldw
  rw [if_pos h]
  simp only [co_le b, co_eq b]
  split
  · split <;> decide
  · decide
theorem ldw_2 {A : ST} {u v : Nat} (h : ¬ (x_co A u = 0 ∨ x_co A v = 0)) : lZ (x_wo A u) * lZ (x_co A v) - lZ (x_wo A v) * lZ (x_co A u) = lZ (ldw A u v) := by
  rw [lZ_mul, lZ_mul, lZ_sub]
  unfold ldw
  rw [if_neg h]
theorem mul_bd {x y : Int} (h1 : 0 ≤ x ∧ x ≤ 1000000) (h2 : 0 ≤ y ∧ y ≤ 1000000) : 0 ≤ x * y ∧ x * y ≤ 1000000000000 := by
  have e1 := Int.mul_nonneg h1.1 h2.1
  have e2 : x * y ≤ 1000000 * 1000000 := Int.mul_le_mul h1.2 h2.2 h2.1 (by omega)
  omega
theorem ldw_bd {A : ST} (b : bd A) (u v : Nat) : -1000000000000 ≤ ldw A u v ∧ ldw A u v ≤ 1000000000000 := by
  have h1 := mul_bd (b.2.2.2.2.2.2.2.2.1 u) (b.2.2.2.2.2.2.2.1 v)
  have h2 := mul_bd (b.2.2.2.2.2.2.2.2.1 v) (b.2.2.2.2.2.2.2.1 u)
  unfold ldw
  split
  · split
    · split <;> omega
    · omega
  · omega
def gbl (A : ST) (k u v : Nat) : Int := if k = 1 then ldw A u v else if k = 2 ∧ ¬ x_yr A u = x_yr A v then (x_yr A v : Int) - x_yr A u else x_wo A u - x_wo A v
def gb (A : ST) (k u v : Nat) : Bool := if gbl A k u v = 0 then decide (u < v) else decide (0 < gbl A k u v)
theorem gbl_bd {A : ST} (b : bd A) (k u v : Nat) : -1000000000000 ≤ gbl A k u v ∧ gbl A k u v ≤ 1000000000000 := by
  have h1 := ldw_bd b u v
  have h2 := b.2.2.2.2.2.2.2.2.1 u
  have h3 := b.2.2.2.2.2.2.2.2.1 v
  have h4 := b.2.2.2.2.1 u
  have h5 := b.2.2.2.2.1 v
  unfold gbl
  split
  · exact h1
  · split <;> omega
theorem gb_self (A : ST) (k c : Nat) : gb A k c c = false := by
  have h : gbl A k c c = 0 := by
    unfold gbl ldw
    split
    · split
      · simp
      · omega
    · simp
  simp [gb, h]
theorem c_P_isPossible (sc : am_S) (A : ST) (q : QS) (D : ST) (t : TS) (m : Nat) (b : bd A) (hm : m < 16384) : AM sc m_P_isPossible 4 [.ref 48, .int (nI m)] (hp A q D t) (some (.int (zI (psb A m)))) (hp A q D t) := by
  refine AM.of (by decide) (Nat.le_of_ble_eq_true rfl) ?_
  show AW sc m_P_isPossible 4 0 [some (.ref 48), some (.int (nI m))] [] _ _ _
  refine aw_aload_n 0 q_P_isPossible_0 rfl rfl ?_
  refine aw_get 0 q_P_isPossible_1 fl_P_15 rfl rfl ?_
  refine aw_iload_n 1 q_P_isPossible_4 rfl rfl ?_
  refine aw_V1 q_P_isPossible_5 st_P_36 rfl (by decide) (Nat.le_of_ble_eq_true rfl) (c_W_isPlan _ _ _ _ _ _ b hm) ?_
  refine aw_if_eq 26 q_P_isPossible_8 rfl (fun c8 => ?_) (fun c8 => ?_)
  · skip
    refine aw_iconst 0 q_P_isPossible_26 rfl ?_
    exact aw_iret .boolean q_P_isPossible_27 rfl rfl (aw_rz0 (by simp [psb, zI_0.mp c8])) rfl
  · skip
    refine aw_aload_n 0 q_P_isPossible_11 rfl rfl ?_
    refine aw_get 0 q_P_isPossible_12 fl_P_15 rfl rfl ?_
    refine aw_iload_n 1 q_P_isPossible_15 rfl rfl ?_
    refine aw_V1 q_P_isPossible_16 st_P_39 rfl (by decide) (Nat.le_of_ble_eq_true rfl) (c_W_isWithinAllBudgets _ _ _ _ _ _ b hm) ?_
    refine aw_if_eq 26 q_P_isPossible_19 rfl (fun c19 => ?_) (fun c19 => ?_)
    · skip
      refine aw_iconst 0 q_P_isPossible_26 rfl ?_
      exact aw_iret .boolean q_P_isPossible_27 rfl rfl (aw_rz0 (by simp [psb, zI_0.mp c19])) rfl
    · skip
      refine aw_iconst 1 q_P_isPossible_22 rfl ?_
      refine aw_goto 27 q_P_isPossible_23 rfl ?_
      exact aw_iret .boolean q_P_isPossible_27 rfl rfl (aw_rz1 (by simp [psb, zI_n0.mp c8, zI_n0.mp c19])) rfl
theorem c_P_leadByWorthByCost (sc : am_S) (A : ST) (q : QS) (D : ST) (t : TS) (u v : Nat) (b : bd A) (hu : u < 14) (hv : v < 14) : AM sc m_P_leadByWorthByCost 1 [.ref 48, .int (nI u), .int (nI v)] (hp A q D t) (some (.long (lZ (ldw A u v)))) (hp A q D t) := by
  refine AM.of (by decide) (Nat.le_of_ble_eq_true rfl) ?_
  show AW sc m_P_leadByWorthByCost 1 0 [some (.ref 48), some (.int (nI u)), some (.int (nI v)), none, none, none, none] [] _ _ _
  refine aw_aload_n 0 q_P_leadByWorthByCost_0 rfl rfl ?_
  refine aw_get 0 q_P_leadByWorthByCost_1 fl_P_15 rfl rfl ?_
  refine aw_get 8 q_P_leadByWorthByCost_4 fl_P_57 rfl rfl ?_
  refine aw_iload_n 1 q_P_leadByWorthByCost_7 rfl rfl ?_
  refine aw_laldN q_P_leadByWorthByCost_8 rfl (by omega) rfl ?_
  refine aw_lstore_n 3 q_P_leadByWorthByCost_9 rfl rfl rfl ?_
  refine aw_aload_n 0 q_P_leadByWorthByCost_10 rfl rfl ?_
  refine aw_get 0 q_P_leadByWorthByCost_11 fl_P_15 rfl rfl ?_
  refine aw_get 8 q_P_leadByWorthByCost_14 fl_P_57 rfl rfl ?_
  refine aw_iload_n 2 q_P_leadByWorthByCost_17 rfl rfl ?_
  refine aw_laldN q_P_leadByWorthByCost_18 rfl (by omega) rfl ?_
  refine aw_lstore q_P_leadByWorthByCost_19 rfl rfl ?_
  refine aw_lload_n 3 q_P_leadByWorthByCost_21 rfl rfl ?_
  refine aw_lconst (lZ 0) q_P_leadByWorthByCost_22 rfl ?_
  refine aw_lcmp_eq 34 q_P_leadByWorthByCost_23 q_P_leadByWorthByCost_24 rfl (fun c23 => ?_) (fun c23 => ?_)
  · skip
    refine aw_lload q_P_leadByWorthByCost_34 rfl ?_
    refine aw_lload_n 3 q_P_leadByWorthByCost_36 rfl rfl ?_
    refine aw_S2 q_P_leadByWorthByCost_37 st_P_60 (by decide) (Nat.le_of_ble_eq_true rfl) (c_JL_compare _ _ _ _) ?_
    refine aw_i2l q_P_leadByWorthByCost_40 ?_
    exact aw_lret q_P_leadByWorthByCost_41 rfl (by rw [ldw_1 b (Or.inl ((co_0 b).mp c23))]) rfl
  · skip
    refine aw_lload q_P_leadByWorthByCost_27 rfl ?_
    refine aw_lconst (lZ 0) q_P_leadByWorthByCost_29 rfl ?_
    refine aw_lcmp_ne 42 q_P_leadByWorthByCost_30 q_P_leadByWorthByCost_31 rfl (fun c30 => ?_) (fun c30 => ?_)
    · skip
      refine aw_aload_n 0 q_P_leadByWorthByCost_42 rfl rfl ?_
      refine aw_get 0 q_P_leadByWorthByCost_43 fl_P_15 rfl rfl ?_
      refine aw_get 9 q_P_leadByWorthByCost_46 fl_P_50 rfl rfl ?_
      refine aw_iload_n 1 q_P_leadByWorthByCost_49 rfl rfl ?_
      refine aw_laldN q_P_leadByWorthByCost_50 rfl (by omega) rfl ?_
      refine aw_lload q_P_leadByWorthByCost_51 rfl ?_
      refine aw_lmul q_P_leadByWorthByCost_53 ?_
      refine aw_aload_n 0 q_P_leadByWorthByCost_54 rfl rfl ?_
      refine aw_get 0 q_P_leadByWorthByCost_55 fl_P_15 rfl rfl ?_
      refine aw_get 9 q_P_leadByWorthByCost_58 fl_P_50 rfl rfl ?_
      refine aw_iload_n 2 q_P_leadByWorthByCost_61 rfl rfl ?_
      refine aw_laldN q_P_leadByWorthByCost_62 rfl (by omega) rfl ?_
      refine aw_lload_n 3 q_P_leadByWorthByCost_63 rfl rfl ?_
      refine aw_lmul q_P_leadByWorthByCost_64 ?_
      refine aw_lsub q_P_leadByWorthByCost_65 ?_
      exact aw_lret q_P_leadByWorthByCost_66 rfl (by rw [ldw_2 (by rintro (z | z); exact c23 ((co_0 b).mpr z); exact c30 ((co_0 b).mpr z))]) rfl
    · skip
      refine aw_lload q_P_leadByWorthByCost_34 rfl ?_
      refine aw_lload_n 3 q_P_leadByWorthByCost_36 rfl rfl ?_
      refine aw_S2 q_P_leadByWorthByCost_37 st_P_60 (by decide) (Nat.le_of_ble_eq_true rfl) (c_JL_compare _ _ _ _) ?_
      refine aw_i2l q_P_leadByWorthByCost_40 ?_
      exact aw_lret q_P_leadByWorthByCost_41 rfl (by rw [ldw_1 b (Or.inr ((co_0 b).mp c30))]) rfl
theorem l_P_goesBefore (sc : am_S) (A : ST) (q : QS) (D : ST) (t : TS) (k u v : Nat) (b : bd A) (hu : u < 14) (hv : v < 14) (z : Int) (hz : z = gbl A k u v) : AW sc m_P_goesBefore 2 83 [some (.ref 48), some (.int (nI k)), some (.int (nI u)), some (.int (nI v)), some (.long (lZ z)), none] [] (hp A q D t) (some (.int (zI (gb A k u v)))) (hp A q D t) := by
  have b1 := gbl_bd b k u v
  rw [← hz] at b1
  refine aw_lload q_P_goesBefore_83 rfl ?_
  refine aw_lconst (lZ 0) q_P_goesBefore_85 rfl ?_
  refine aw_lcmp_eq 105 q_P_goesBefore_86 q_P_goesBefore_87 rfl (fun c86 => ?_) (fun c86 => ?_)
  · skip
    have e1 : gbl A k u v = 0 := by rw [← hz]; exact (lZ_eq (by omega) (by omega)).mp c86
    refine aw_iload_n 2 q_P_goesBefore_105 rfl rfl ?_
    refine aw_iload_n 3 q_P_goesBefore_106 rfl rfl ?_
    refine aw_icmp_ge 114 q_P_goesBefore_107 rfl (fun c107 => ?_) (fun c107 => ?_)
    · skip
      refine aw_iconst 0 q_P_goesBefore_114 rfl ?_
      exact aw_iret .boolean q_P_goesBefore_115 rfl rfl (by have e2 := nge_ge c107 (by omega) (by omega); exact aw_rz0 (by simp [gb, e1]; omega)) rfl
    · skip
      refine aw_iconst 1 q_P_goesBefore_110 rfl ?_
      refine aw_goto 115 q_P_goesBefore_111 rfl ?_
      exact aw_iret .boolean q_P_goesBefore_115 rfl rfl (by have e2 := nge_lt c107 (by omega) (by omega); exact aw_rz1 (by simp [gb, e1]; omega)) rfl
  · skip
    have e1 : ¬ gbl A k u v = 0 := by rw [← hz]; exact mt (lZ_eq (by omega) (by omega)).mpr c86
    refine aw_lload q_P_goesBefore_90 rfl ?_
    refine aw_lconst (lZ 0) q_P_goesBefore_92 rfl ?_
    refine aw_lcmp_le 101 q_P_goesBefore_93 q_P_goesBefore_94 rfl (fun c93 => ?_) (fun c93 => ?_)
    · skip
      refine aw_iconst 0 q_P_goesBefore_101 rfl ?_
      refine aw_goto 115 q_P_goesBefore_102 rfl ?_
      exact aw_iret .boolean q_P_goesBefore_115 rfl rfl (by have e2 := (lZ_le (by omega) (by omega)).mp c93; exact aw_rz0 (by simp [gb, e1]; omega)) rfl
    · skip
      refine aw_iconst 1 q_P_goesBefore_97 rfl ?_
      refine aw_goto 115 q_P_goesBefore_98 rfl ?_
      exact aw_iret .boolean q_P_goesBefore_115 rfl rfl (by have e2 := mt (lZ_le (by omega) (by omega)).mpr c93; exact aw_rz1 (by simp [gb, e1]; omega)) rfl
theorem yr_diff {A : ST} (b : bd A) (u v : Nat) : (nI (x_yr A v) - nI (x_yr A u)).toInt64 = lZ ((x_yr A v : Int) - x_yr A u) := by
  have h4 := b.2.2.2.2.1 u
  have h5 := b.2.2.2.2.1 v
  generalize x_yr A u = a at *
  generalize x_yr A v = c at *
  have : ∀ a, a < 6 → ∀ c, c < 6 → (nI c - nI a).toInt64 = lZ ((c : Int) - a) := by decide +kernel
  exact this a h4 c h5
theorem c_P_goesBefore (sc : am_S) (A : ST) (q : QS) (D : ST) (t : TS) (k u v : Nat) (b : bd A) (hk : k < 3) (hu : u < 14) (hv : v < 14) : AM sc m_P_goesBefore 2 [.ref 48, .int (nI k), .int (nI u), .int (nI v)] (hp A q D t) (some (.int (zI (gb A k u v)))) (hp A q D t) := by
  refine AM.of (by decide) (Nat.le_of_ble_eq_true rfl) ?_
  show AW sc m_P_goesBefore 2 0 [some (.ref 48), some (.int (nI k)), some (.int (nI u)), some (.int (nI v)), none, none] [] _ _ _
  have b5 := b.2.2.2.2.1 u
  have b5' := b.2.2.2.2.1 v
  refine aw_iload_n 1 q_P_goesBefore_0 rfl rfl ?_
  refine aw_iconst 1 q_P_goesBefore_1 rfl ?_
  refine aw_icmp_ne 14 q_P_goesBefore_2 rfl (fun c2 => ?_) (fun c2 => ?_)
  · skip
    have k1 : ¬ k = 1 := nI_ne (b := 1) (by omega) (by omega) c2
    refine aw_aload_n 0 q_P_goesBefore_14 rfl rfl ?_
    refine aw_get 0 q_P_goesBefore_15 fl_P_15 rfl rfl ?_
    refine aw_get 9 q_P_goesBefore_18 fl_P_50 rfl rfl ?_
    refine aw_iload_n 2 q_P_goesBefore_21 rfl rfl ?_
    refine aw_laldN q_P_goesBefore_22 rfl (by omega) rfl ?_
    refine aw_aload_n 0 q_P_goesBefore_23 rfl rfl ?_
    refine aw_get 0 q_P_goesBefore_24 fl_P_15 rfl rfl ?_
    refine aw_get 9 q_P_goesBefore_27 fl_P_50 rfl rfl ?_
    refine aw_iload_n 3 q_P_goesBefore_30 rfl rfl ?_
    refine aw_laldN q_P_goesBefore_31 rfl (by omega) rfl ?_
    refine aw_lsub q_P_goesBefore_32 ?_
    refine aw_lstore q_P_goesBefore_33 rfl rfl ?_
    refine aw_iload_n 1 q_P_goesBefore_35 rfl rfl ?_
    refine aw_iconst 2 q_P_goesBefore_36 rfl ?_
    refine aw_icmp_ne 83 q_P_goesBefore_37 rfl (fun c37 => ?_) (fun c37 => ?_)
    · skip
      first
        | (have k2 : ¬ k = 2 := nI_ne (b := 2) (by omega) (by omega) c37; (try rw [lZ_sub]); exact l_P_goesBefore sc A q D t k u v b hu hv _ (by simp [gbl, k1, k2]))
        | (have k2 : k = 2 := nI_eq' (b := 2) (by omega) (by omega) c37; exact absurd (k1.symm.trans k2) (by omega))
        | (have k2 : k = 2 := nI_eq' (b := 2) (by omega) (by omega) c37; have k3 := nI_eq' (by omega) (by omega) c58; rw [lZ_sub]; exact l_P_goesBefore sc A q D t k u v b hu hv _ (by simp [gbl, k1, k2, k3]))
        | (have k2 : k = 2 := nI_eq' (b := 2) (by omega) (by omega) c37; have k3 := nI_ne (by omega) (by omega) c58; rw [yr_diff b]; exact l_P_goesBefore sc A q D t k u v b hu hv _ (by simp [gbl, k1, k2, k3]))
    · skip
      refine aw_aload_n 0 q_P_goesBefore_40 rfl rfl ?_
      refine aw_get 0 q_P_goesBefore_41 fl_P_15 rfl rfl ?_
      refine aw_get 7 q_P_goesBefore_44 fl_P_54 rfl rfl ?_
      refine aw_iload_n 2 q_P_goesBefore_47 rfl rfl ?_
      refine aw_ialdN q_P_goesBefore_48 rfl (by omega) rfl ?_
      refine aw_aload_n 0 q_P_goesBefore_49 rfl rfl ?_
      refine aw_get 0 q_P_goesBefore_50 fl_P_15 rfl rfl ?_
      refine aw_get 7 q_P_goesBefore_53 fl_P_54 rfl rfl ?_
      refine aw_iload_n 3 q_P_goesBefore_56 rfl rfl ?_
      refine aw_ialdN q_P_goesBefore_57 rfl (by omega) rfl ?_
      refine aw_icmp_eq 83 q_P_goesBefore_58 rfl (fun c58 => ?_) (fun c58 => ?_)
      · skip
        first
          | (have k2 : ¬ k = 2 := nI_ne (b := 2) (by omega) (by omega) c37; (try rw [lZ_sub]); exact l_P_goesBefore sc A q D t k u v b hu hv _ (by simp [gbl, k1, k2]))
          | (have k2 : k = 2 := nI_eq' (b := 2) (by omega) (by omega) c37; exact absurd (k1.symm.trans k2) (by omega))
          | (have k2 : k = 2 := nI_eq' (b := 2) (by omega) (by omega) c37; have k3 := nI_eq' (by omega) (by omega) c58; rw [lZ_sub]; exact l_P_goesBefore sc A q D t k u v b hu hv _ (by simp [gbl, k1, k2, k3]))
          | (have k2 : k = 2 := nI_eq' (b := 2) (by omega) (by omega) c37; have k3 := nI_ne (by omega) (by omega) c58; rw [yr_diff b]; exact l_P_goesBefore sc A q D t k u v b hu hv _ (by simp [gbl, k1, k2, k3]))
      · skip
        refine aw_aload_n 0 q_P_goesBefore_61 rfl rfl ?_
        refine aw_get 0 q_P_goesBefore_62 fl_P_15 rfl rfl ?_
        refine aw_get 7 q_P_goesBefore_65 fl_P_54 rfl rfl ?_
        refine aw_iload_n 3 q_P_goesBefore_68 rfl rfl ?_
        refine aw_ialdN q_P_goesBefore_69 rfl (by omega) rfl ?_
        refine aw_aload_n 0 q_P_goesBefore_70 rfl rfl ?_
        refine aw_get 0 q_P_goesBefore_71 fl_P_15 rfl rfl ?_
        refine aw_get 7 q_P_goesBefore_74 fl_P_54 rfl rfl ?_
        refine aw_iload_n 2 q_P_goesBefore_77 rfl rfl ?_
        refine aw_ialdN q_P_goesBefore_78 rfl (by omega) rfl ?_
        refine aw_isub q_P_goesBefore_79 ?_
        refine aw_i2l q_P_goesBefore_80 ?_
        refine aw_lstore q_P_goesBefore_81 rfl rfl ?_
        first
          | (have k2 : ¬ k = 2 := nI_ne (b := 2) (by omega) (by omega) c37; (try rw [lZ_sub]); exact l_P_goesBefore sc A q D t k u v b hu hv _ (by simp [gbl, k1, k2]))
          | (have k2 : k = 2 := nI_eq' (b := 2) (by omega) (by omega) c37; exact absurd (k1.symm.trans k2) (by omega))
          | (have k2 : k = 2 := nI_eq' (b := 2) (by omega) (by omega) c37; have k3 := nI_eq' (by omega) (by omega) c58; rw [lZ_sub]; exact l_P_goesBefore sc A q D t k u v b hu hv _ (by simp [gbl, k1, k2, k3]))
          | (have k2 : k = 2 := nI_eq' (b := 2) (by omega) (by omega) c37; have k3 := nI_ne (by omega) (by omega) c58; rw [yr_diff b]; exact l_P_goesBefore sc A q D t k u v b hu hv _ (by simp [gbl, k1, k2, k3]))
  · skip
    have k1 : k = 1 := nI_eq' (b := 1) (by omega) (by omega) c2
    refine aw_aload_n 0 q_P_goesBefore_5 rfl rfl ?_
    refine aw_iload_n 2 q_P_goesBefore_6 rfl rfl ?_
    refine aw_iload_n 3 q_P_goesBefore_7 rfl rfl ?_
    refine aw_V2 q_P_goesBefore_8 st_P_46 rfl (by decide) (Nat.le_of_ble_eq_true rfl) (c_P_leadByWorthByCost _ _ _ _ _ _ _ b hu hv) ?_
    refine aw_goto 33 q_P_goesBefore_11 rfl ?_
    refine aw_lstore q_P_goesBefore_33 rfl rfl ?_
    refine aw_iload_n 1 q_P_goesBefore_35 rfl rfl ?_
    refine aw_iconst 2 q_P_goesBefore_36 rfl ?_
    refine aw_icmp_ne 83 q_P_goesBefore_37 rfl (fun c37 => ?_) (fun c37 => ?_)
    · skip
      first
        | (have k2 : ¬ k = 2 := nI_ne (b := 2) (by omega) (by omega) c37; (try rw [lZ_sub]); exact l_P_goesBefore sc A q D t k u v b hu hv _ (by simp [gbl, k1, k2]))
        | (have k2 : k = 2 := nI_eq' (b := 2) (by omega) (by omega) c37; exact absurd (k1.symm.trans k2) (by omega))
        | (have k2 : k = 2 := nI_eq' (b := 2) (by omega) (by omega) c37; have k3 := nI_eq' (by omega) (by omega) c58; rw [lZ_sub]; exact l_P_goesBefore sc A q D t k u v b hu hv _ (by simp [gbl, k1, k2, k3]))
        | (have k2 : k = 2 := nI_eq' (b := 2) (by omega) (by omega) c37; have k3 := nI_ne (by omega) (by omega) c58; rw [yr_diff b]; exact l_P_goesBefore sc A q D t k u v b hu hv _ (by simp [gbl, k1, k2, k3]))
    · skip
      refine aw_aload_n 0 q_P_goesBefore_40 rfl rfl ?_
      refine aw_get 0 q_P_goesBefore_41 fl_P_15 rfl rfl ?_
      refine aw_get 7 q_P_goesBefore_44 fl_P_54 rfl rfl ?_
      refine aw_iload_n 2 q_P_goesBefore_47 rfl rfl ?_
      refine aw_ialdN q_P_goesBefore_48 rfl (by omega) rfl ?_
      refine aw_aload_n 0 q_P_goesBefore_49 rfl rfl ?_
      refine aw_get 0 q_P_goesBefore_50 fl_P_15 rfl rfl ?_
      refine aw_get 7 q_P_goesBefore_53 fl_P_54 rfl rfl ?_
      refine aw_iload_n 3 q_P_goesBefore_56 rfl rfl ?_
      refine aw_ialdN q_P_goesBefore_57 rfl (by omega) rfl ?_
      refine aw_icmp_eq 83 q_P_goesBefore_58 rfl (fun c58 => ?_) (fun c58 => ?_)
      · skip
        first
          | (have k2 : ¬ k = 2 := nI_ne (b := 2) (by omega) (by omega) c37; (try rw [lZ_sub]); exact l_P_goesBefore sc A q D t k u v b hu hv _ (by simp [gbl, k1, k2]))
          | (have k2 : k = 2 := nI_eq' (b := 2) (by omega) (by omega) c37; exact absurd (k1.symm.trans k2) (by omega))
          | (have k2 : k = 2 := nI_eq' (b := 2) (by omega) (by omega) c37; have k3 := nI_eq' (by omega) (by omega) c58; rw [lZ_sub]; exact l_P_goesBefore sc A q D t k u v b hu hv _ (by simp [gbl, k1, k2, k3]))
          | (have k2 : k = 2 := nI_eq' (b := 2) (by omega) (by omega) c37; have k3 := nI_ne (by omega) (by omega) c58; rw [yr_diff b]; exact l_P_goesBefore sc A q D t k u v b hu hv _ (by simp [gbl, k1, k2, k3]))
      · skip
        refine aw_aload_n 0 q_P_goesBefore_61 rfl rfl ?_
        refine aw_get 0 q_P_goesBefore_62 fl_P_15 rfl rfl ?_
        refine aw_get 7 q_P_goesBefore_65 fl_P_54 rfl rfl ?_
        refine aw_iload_n 3 q_P_goesBefore_68 rfl rfl ?_
        refine aw_ialdN q_P_goesBefore_69 rfl (by omega) rfl ?_
        refine aw_aload_n 0 q_P_goesBefore_70 rfl rfl ?_
        refine aw_get 0 q_P_goesBefore_71 fl_P_15 rfl rfl ?_
        refine aw_get 7 q_P_goesBefore_74 fl_P_54 rfl rfl ?_
        refine aw_iload_n 2 q_P_goesBefore_77 rfl rfl ?_
        refine aw_ialdN q_P_goesBefore_78 rfl (by omega) rfl ?_
        refine aw_isub q_P_goesBefore_79 ?_
        refine aw_i2l q_P_goesBefore_80 ?_
        refine aw_lstore q_P_goesBefore_81 rfl rfl ?_
        first
          | (have k2 : ¬ k = 2 := nI_ne (b := 2) (by omega) (by omega) c37; (try rw [lZ_sub]); exact l_P_goesBefore sc A q D t k u v b hu hv _ (by simp [gbl, k1, k2]))
          | (have k2 : k = 2 := nI_eq' (b := 2) (by omega) (by omega) c37; exact absurd (k1.symm.trans k2) (by omega))
          | (have k2 : k = 2 := nI_eq' (b := 2) (by omega) (by omega) c37; have k3 := nI_eq' (by omega) (by omega) c58; rw [lZ_sub]; exact l_P_goesBefore sc A q D t k u v b hu hv _ (by simp [gbl, k1, k2, k3]))
          | (have k2 : k = 2 := nI_eq' (b := 2) (by omega) (by omega) c37; have k3 := nI_ne (by omega) (by omega) c58; rw [yr_diff b]; exact l_P_goesBefore sc A q D t k u v b hu hv _ (by simp [gbl, k1, k2, k3]))
def cb (A : ST) (k c : Nat) : Nat → Nat
  | 0 => 0
  | j + 1 => if gb A k j c = true then cb A k c j + 1 else cb A k c j
theorem cb_le (A : ST) (k c : Nat) : ∀ j, cb A k c j ≤ j ∧ (c < j → cb A k c j < j)
  | 0 => by simp [cb]
  | j + 1 => by
    have h := cb_le A k c j
    unfold cb
    by_cases e : c = j
    · subst e
      rw [gb_self]
      simp
      omega
    · split
      · refine ⟨by omega, fun q => ?_⟩
        have := h.2 (by omega)
        omega
      · refine ⟨by omega, fun q => ?_⟩
        omega
def orf (A : ST) (k : Nat) (f : Nat → Nat) : Nat → Nat → Nat
  | 0 => f
  | i + 1 => va_up (orf A k f i) (cb A k i (x_nc A)) i
theorem orf_lt {A : ST} (b : bd A) {k : Nat} {f : Nat → Nat} (hf : ∀ i, f i < 14) : ∀ i, i ≤ x_nc A → ∀ j, orf A k f i j < 14
  | 0, _, j => hf j
  | i + 1, h, j => by
    have h0 := orf_lt (k := k) b hf i (by omega) j
    have := b.2.2.1
    unfold orf va_up
    split <;> omega
theorem l_P_putInOrder1 (sc : am_S) (A : ST) (q : QS) (D : ST) (t : TS) (k c : Nat) (f : Nat → Nat) (hx : List am_C) (b : bd A) (hk : k < 3) (hc : c < 14) (kk : AW sc m_P_putInOrder 3 50 [some (.ref 48), some (.int (nI k)), some (.int (nI c)), some (.int (nI (cb A k c (x_nc A)))), some (.int (nI (x_nc A)))] [] (hp A (q_s_or q f) D t) none hx) : ∀ (n i : Nat), x_nc A - i = n → i ≤ x_nc A →  AW sc m_P_putInOrder 3 18 [some (.ref 48), some (.int (nI k)), some (.int (nI c)), some (.int (nI (cb A k c i))), some (.int (nI i))] [] (hp A (q_s_or q f) D t) (none) hx := by
  intro n
  induction n using Nat.strongRecOn with
  | _ n ih =>
    intro i hn hi
    have b3 := b.2.2.1
    refine aw_iload q_P_putInOrder_18 rfl ?_
    refine aw_aload_n 0 q_P_putInOrder_20 rfl rfl ?_
    refine aw_get 0 q_P_putInOrder_21 fl_P_15 rfl rfl ?_
    refine aw_get 5 q_P_putInOrder_24 fl_P_33 rfl rfl ?_
    refine aw_icmp_ge 50 q_P_putInOrder_27 rfl (fun c27 => ?_) (fun c27 => ?_)
    · skip
      have he : i = x_nc A := Nat.le_antisymm hi (nge_ge c27 (by omega) (by omega))
      subst he
      exact kk
    · skip
      have hlt : i < x_nc A := nge_lt c27 (by omega) (by omega)
      refine aw_aload_n 0 q_P_putInOrder_30 rfl rfl ?_
      refine aw_iload_n 1 q_P_putInOrder_31 rfl rfl ?_
      refine aw_iload q_P_putInOrder_32 rfl ?_
      refine aw_iload_n 2 q_P_putInOrder_34 rfl rfl ?_
      refine aw_V3 q_P_putInOrder_35 st_P_42 rfl (by decide) (Nat.le_of_ble_eq_true rfl) (c_P_goesBefore _ _ _ _ _ _ _ _ b hk (by omega) hc) ?_
      refine aw_if_eq 44 q_P_putInOrder_38 rfl (fun c38 => ?_) (fun c38 => ?_)
      · skip
        first | refine aw_iinc _ q_P_putInOrder_44 rfl (am_inc _) rfl rfl ?_ | refine aw_iinc _ q_P_putInOrder_44 rfl rfl rfl rfl ?_
        refine aw_goto 18 q_P_putInOrder_47 rfl ?_
        first
          | (have h9 := zI_0.mp c38; have e9 : cb A k c (i + 1) = cb A k c i := by simp [cb, h9]
             rw [← e9]; exact ih _ (by omega) (i + 1) rfl (by omega))
          | (have h9 := zI_n0.mp c38; have e9 : cb A k c (i + 1) = cb A k c i + 1 := by simp [cb, h9]
             rw [← e9]; exact ih _ (by omega) (i + 1) rfl (by omega))
      · skip
        first | refine aw_iinc _ q_P_putInOrder_41 rfl (am_inc _) rfl rfl ?_ | refine aw_iinc _ q_P_putInOrder_41 rfl rfl rfl rfl ?_
        first | refine aw_iinc _ q_P_putInOrder_44 rfl (am_inc _) rfl rfl ?_ | refine aw_iinc _ q_P_putInOrder_44 rfl rfl rfl rfl ?_
        refine aw_goto 18 q_P_putInOrder_47 rfl ?_
        first
          | (have h9 := zI_0.mp c38; have e9 : cb A k c (i + 1) = cb A k c i := by simp [cb, h9]
             rw [← e9]; exact ih _ (by omega) (i + 1) rfl (by omega))
          | (have h9 := zI_n0.mp c38; have e9 : cb A k c (i + 1) = cb A k c i + 1 := by simp [cb, h9]
             rw [← e9]; exact ih _ (by omega) (i + 1) rfl (by omega))
theorem l_P_putInOrder (sc : am_S) (A : ST) (q : QS) (D : ST) (t : TS) (k : Nat) (b : bd A) (hk : k < 3) : ∀ (n i : Nat), x_nc A - i = n → i ≤ x_nc A →  AW sc m_P_putInOrder 3 2 [some (.ref 48), some (.int (nI k)), some (.int (nI i)), none, none] [] (hp A (q_s_or q (orf A k (q_or q) i)) D t) (none) (hp A (q_s_or q (orf A k (q_or q) (x_nc A))) D t) := by
  intro n
  induction n using Nat.strongRecOn with
  | _ n ih =>
    intro i hn hi
    have b3 := b.2.2.1
    refine aw_iload_n 2 q_P_putInOrder_2 rfl rfl ?_
    refine aw_aload_n 0 q_P_putInOrder_3 rfl rfl ?_
    refine aw_get 0 q_P_putInOrder_4 fl_P_15 rfl rfl ?_
    refine aw_get 5 q_P_putInOrder_7 fl_P_33 rfl rfl ?_
    refine aw_icmp_ge 63 q_P_putInOrder_10 rfl (fun c10 => ?_) (fun c10 => ?_)
    · skip
      exact aw_vret q_P_putInOrder_63 rfl rfl (by rw [show i = x_nc A from Nat.le_antisymm hi (nge_ge c10 (by omega) (by omega))])
    · skip
      have hlt : i < x_nc A := nge_lt c10 (by omega) (by omega)
      have hcb := (cb_le A k i (x_nc A)).2 hlt
      refine aw_iconst 0 q_P_putInOrder_13 rfl ?_
      refine aw_istore_n 3 q_P_putInOrder_14 rfl rfl rfl ?_
      refine aw_iconst 0 q_P_putInOrder_15 rfl ?_
      refine aw_istore q_P_putInOrder_16 rfl rfl ?_
      refine l_P_putInOrder1 sc A q D t k i _ _ b hk (by omega) ?_ _ 0 rfl (by omega)
      refine aw_aload_n 0 q_P_putInOrder_50 rfl rfl ?_
      refine aw_get 1 q_P_putInOrder_51 fl_P_9 rfl rfl ?_
      refine aw_iload_n 3 q_P_putInOrder_54 rfl rfl ?_
      refine aw_iload_n 2 q_P_putInOrder_55 rfl rfl ?_
      refine wa_48 _ q_P_putInOrder_56 (by omega) ?_
      first | refine aw_iinc _ q_P_putInOrder_57 rfl (am_inc _) rfl rfl ?_ | refine aw_iinc _ q_P_putInOrder_57 rfl rfl rfl rfl ?_
      refine aw_goto 2 q_P_putInOrder_60 rfl ?_
      refine aw_kill [3, 4] ?_
      exact ih _ (by omega) (i + 1) rfl (by omega)
theorem c_P_putInOrder (sc : am_S) (A : ST) (q : QS) (D : ST) (t : TS) (k : Nat) (b : bd A) (hk : k < 3) : AM sc m_P_putInOrder 3 [.ref 48, .int (nI k)] (hp A q D t) (none) (hp A (q_s_or q (orf A k (q_or q) (x_nc A))) D t) := by
  refine AM.of (by decide) (Nat.le_of_ble_eq_true rfl) ?_
  show AW sc m_P_putInOrder 3 0 [some (.ref 48), some (.int (nI k)), none, none, none] [] _ _ _
  refine aw_iconst 0 q_P_putInOrder_0 rfl ?_
  refine aw_istore_n 2 q_P_putInOrder_1 rfl rfl rfl ?_
  exact l_P_putInOrder sc A q D t k b hk _ 0 rfl (by omega)
def pbm (A : ST) (f : Nat → Nat) : Nat → Nat
  | 0 => x_mu A
  | i + 1 => if psb A (pbm A f i ||| 2 ^ f i) = true then pbm A f i ||| 2 ^ f i else pbm A f i
theorem or14 {a i : Nat} (ha : a < 16384) (hi : i < 14) : a ||| 2 ^ i < 16384 := or_lt (n := 14) ha (Nat.pow_lt_pow_right (by decide) hi)
theorem pbm_lt {A : ST} (b : bd A) {f : Nat → Nat} (hf : ∀ i, f i < 14) : ∀ i, pbm A f i < 16384
  | 0 => b.2.2.2.2.2.2.2.2.2.2.2.2.1
  | i + 1 => by
    have h := pbm_lt b hf i
    unfold pbm
    split
    · exact or14 h (hf i)
    · exact h
theorem c_P_planBy_bad (sc : am_S) (A : ST) (q : QS) (D : ST) (t : TS) (x : Int32) (hx : x < 0 ∨ 3 ≤ x) : AM sc m_P_planBy 5 [.ref 48, .int x] (hp A q D t) (some (.int (-1))) (hp A q D t) := by
  refine AM.of (by decide) (Nat.le_of_ble_eq_true rfl) ?_
  show AW sc m_P_planBy 5 0 [some (.ref 48), some (.int x), none, none, none] [] _ _ _
  refine aw_aload_n 0 q_P_planBy_0 rfl rfl ?_
  refine aw_get 0 q_P_planBy_1 fl_P_15 rfl rfl ?_
  refine aw_get 10 q_P_planBy_4 fl_P_19 rfl rfl ?_
  refine aw_istore_n 2 q_P_planBy_7 rfl rfl rfl ?_
  refine aw_iload_n 1 q_P_planBy_8 rfl rfl ?_
  refine aw_if_lt 25 q_P_planBy_9 rfl (fun c9 => ?_) (fun c9 => ?_)
  · skip
    refine aw_iconst (-1) q_P_planBy_25 rfl ?_
    exact aw_iret .int q_P_planBy_26 rfl rfl rfl rfl
  · skip
    refine aw_iload_n 1 q_P_planBy_12 rfl rfl ?_
    refine aw_iconst 3 q_P_planBy_13 rfl ?_
    refine aw_icmp_ge 25 q_P_planBy_14 rfl (fun c14 => ?_) (fun c14 => ?_)
    · skip
      refine aw_iconst (-1) q_P_planBy_25 rfl ?_
      exact aw_iret .int q_P_planBy_26 rfl rfl rfl rfl
    · skip
      exact absurd hx (by rintro (z | z); exact c9 z; exact c14 z)
theorem c_P_planBy_no (sc : am_S) (A : ST) (q : QS) (D : ST) (t : TS) (k : Nat) (b : bd A) (hk : k < 3) (hx : psb A (x_mu A) = false) : AM sc m_P_planBy 5 [.ref 48, .int (nI k)] (hp A q D t) (some (.int (-1))) (hp A q D t) := by
  refine AM.of (by decide) (Nat.le_of_ble_eq_true rfl) ?_
  show AW sc m_P_planBy 5 0 [some (.ref 48), some (.int (nI k)), none, none, none] [] _ _ _
  refine aw_aload_n 0 q_P_planBy_0 rfl rfl ?_
  refine aw_get 0 q_P_planBy_1 fl_P_15 rfl rfl ?_
  refine aw_get 10 q_P_planBy_4 fl_P_19 rfl rfl ?_
  refine aw_istore_n 2 q_P_planBy_7 rfl rfl rfl ?_
  refine aw_iload_n 1 q_P_planBy_8 rfl rfl ?_
  refine aw_if_lt 25 q_P_planBy_9 rfl (fun c9 => ?_) (fun c9 => ?_)
  · skip
    refine aw_iconst (-1) q_P_planBy_25 rfl ?_
    exact aw_iret .int q_P_planBy_26 rfl rfl rfl rfl
  · skip
    refine aw_iload_n 1 q_P_planBy_12 rfl rfl ?_
    refine aw_iconst 3 q_P_planBy_13 rfl ?_
    refine aw_icmp_ge 25 q_P_planBy_14 rfl (fun c14 => ?_) (fun c14 => ?_)
    · skip
      refine aw_iconst (-1) q_P_planBy_25 rfl ?_
      exact aw_iret .int q_P_planBy_26 rfl rfl rfl rfl
    · skip
      refine aw_aload_n 0 q_P_planBy_17 rfl rfl ?_
      refine aw_iload_n 2 q_P_planBy_18 rfl rfl ?_
      refine aw_V1 q_P_planBy_19 st_P_25 rfl (by decide) (Nat.le_of_ble_eq_true rfl) (c_P_isPossible _ _ _ _ _ _ b b.2.2.2.2.2.2.2.2.2.2.2.2.1) ?_
      refine aw_if_ne 27 q_P_planBy_22 rfl (fun c22 => ?_) (fun c22 => ?_)
      · skip
        exact absurd (zI_n0.mp c22) (by rw [hx]; decide)
      · skip
        refine aw_iconst (-1) q_P_planBy_25 rfl ?_
        exact aw_iret .int q_P_planBy_26 rfl rfl rfl rfl
theorem l_P_planBy (sc : am_S) (A : ST) (q : QS) (D : ST) (t : TS) (k : Nat) (b : bd A) (hf : ∀ i, q_or q i < 14) : ∀ (n i : Nat), x_nc A - i = n → i ≤ x_nc A →  AW sc m_P_planBy 5 34 [some (.ref 48), some (.int (nI k)), some (.int (nI (pbm A (q_or q) i))), some (.int (nI i)), none] [] (hp A q D t) (some (.int (nI (pbm A (q_or q) (x_nc A))))) (hp A q D t) := by
  intro n
  induction n using Nat.strongRecOn with
  | _ n ih =>
    intro i hn hi
    have b3 := b.2.2.1
    have hfi := hf i
    have hpl := pbm_lt b hf i
    have ho := or14 hpl hfi
    refine aw_iload_n 3 q_P_planBy_34 rfl rfl ?_
    refine aw_aload_n 0 q_P_planBy_35 rfl rfl ?_
    refine aw_get 0 q_P_planBy_36 fl_P_15 rfl rfl ?_
    refine aw_get 5 q_P_planBy_39 fl_P_33 rfl rfl ?_
    refine aw_icmp_ge 75 q_P_planBy_42 rfl (fun c42 => ?_) (fun c42 => ?_)
    · skip
      refine aw_iload_n 2 q_P_planBy_75 rfl rfl ?_
      exact aw_iret .int q_P_planBy_76 rfl rfl (by rw [show i = x_nc A from Nat.le_antisymm hi (nge_ge c42 (by omega) (by omega))]) rfl
    · skip
      have hlt : i < x_nc A := nge_lt c42 (by omega) (by omega)
      refine aw_iload_n 2 q_P_planBy_45 rfl rfl ?_
      refine aw_iconst 1 q_P_planBy_46 rfl ?_
      refine aw_aload_n 0 q_P_planBy_47 rfl rfl ?_
      refine aw_get 1 q_P_planBy_48 fl_P_9 rfl rfl ?_
      refine aw_iload_n 3 q_P_planBy_51 rfl rfl ?_
      refine aw_ialdN q_P_planBy_52 rfl (by omega) rfl ?_
      refine aw_ishl q_P_planBy_53 ?_
      refine aw_ior q_P_planBy_54 ?_
      rw [bt_one (by omega), nI_or]
      refine aw_istore q_P_planBy_55 rfl rfl ?_
      refine aw_aload_n 0 q_P_planBy_57 rfl rfl ?_
      refine aw_iload q_P_planBy_58 rfl ?_
      refine aw_V1 q_P_planBy_60 st_P_25 rfl (by decide) (Nat.le_of_ble_eq_true rfl) (c_P_isPossible _ _ _ _ _ _ b ho) ?_
      refine aw_if_eq 69 q_P_planBy_63 rfl (fun c63 => ?_) (fun c63 => ?_)
      · skip
        first | refine aw_iinc _ q_P_planBy_69 rfl (am_inc _) rfl rfl ?_ | refine aw_iinc _ q_P_planBy_69 rfl rfl rfl rfl ?_
        refine aw_goto 34 q_P_planBy_72 rfl ?_
        refine aw_kill [4] ?_
        first
          | (have h9 := zI_0.mp c63; have e9 : pbm A (q_or q) (i + 1) = pbm A (q_or q) i := by simp [pbm, h9]
             rw [← e9]; exact ih _ (by omega) (i + 1) rfl (by omega))
          | (have h9 := zI_n0.mp c63; have e9 : pbm A (q_or q) (i + 1) = pbm A (q_or q) i ||| 2 ^ q_or q i := by simp [pbm, h9]
             rw [← e9]; exact ih _ (by omega) (i + 1) rfl (by omega))
      · skip
        refine aw_iload q_P_planBy_66 rfl ?_
        refine aw_istore_n 2 q_P_planBy_68 rfl rfl rfl ?_
        first | refine aw_iinc _ q_P_planBy_69 rfl (am_inc _) rfl rfl ?_ | refine aw_iinc _ q_P_planBy_69 rfl rfl rfl rfl ?_
        refine aw_goto 34 q_P_planBy_72 rfl ?_
        refine aw_kill [4] ?_
        first
          | (have h9 := zI_0.mp c63; have e9 : pbm A (q_or q) (i + 1) = pbm A (q_or q) i := by simp [pbm, h9]
             rw [← e9]; exact ih _ (by omega) (i + 1) rfl (by omega))
          | (have h9 := zI_n0.mp c63; have e9 : pbm A (q_or q) (i + 1) = pbm A (q_or q) i ||| 2 ^ q_or q i := by simp [pbm, h9]
             rw [← e9]; exact ih _ (by omega) (i + 1) rfl (by omega))
theorem c_P_planBy (sc : am_S) (A : ST) (q : QS) (D : ST) (t : TS) (k : Nat) (b : bd A) (hk : k < 3) (hx : psb A (x_mu A) = true) (hf : ∀ i, q_or q i < 14) : AM sc m_P_planBy 5 [.ref 48, .int (nI k)] (hp A q D t) (some (.int (nI (pbm A (orf A k (q_or q) (x_nc A)) (x_nc A))))) (hp A (q_s_or q (orf A k (q_or q) (x_nc A))) D t) := by
  refine AM.of (by decide) (Nat.le_of_ble_eq_true rfl) ?_
  show AW sc m_P_planBy 5 0 [some (.ref 48), some (.int (nI k)), none, none, none] [] _ _ _
  refine aw_aload_n 0 q_P_planBy_0 rfl rfl ?_
  refine aw_get 0 q_P_planBy_1 fl_P_15 rfl rfl ?_
  refine aw_get 10 q_P_planBy_4 fl_P_19 rfl rfl ?_
  refine aw_istore_n 2 q_P_planBy_7 rfl rfl rfl ?_
  refine aw_iload_n 1 q_P_planBy_8 rfl rfl ?_
  refine aw_if_lt 25 q_P_planBy_9 rfl (fun c9 => ?_) (fun c9 => ?_)
  · skip
    first
      | exact absurd c9 (nI_pos (by omega))
      | exact absurd c14 (nI_ge (b := 3) (by omega) (by omega))
      | exact absurd (zI_0.mp c22) (by rw [hx]; decide)
  · skip
    refine aw_iload_n 1 q_P_planBy_12 rfl rfl ?_
    refine aw_iconst 3 q_P_planBy_13 rfl ?_
    refine aw_icmp_ge 25 q_P_planBy_14 rfl (fun c14 => ?_) (fun c14 => ?_)
    · skip
      first
        | exact absurd c9 (nI_pos (by omega))
        | exact absurd c14 (nI_ge (b := 3) (by omega) (by omega))
        | exact absurd (zI_0.mp c22) (by rw [hx]; decide)
    · skip
      refine aw_aload_n 0 q_P_planBy_17 rfl rfl ?_
      refine aw_iload_n 2 q_P_planBy_18 rfl rfl ?_
      refine aw_V1 q_P_planBy_19 st_P_25 rfl (by decide) (Nat.le_of_ble_eq_true rfl) (c_P_isPossible _ _ _ _ _ _ b b.2.2.2.2.2.2.2.2.2.2.2.2.1) ?_
      refine aw_if_ne 27 q_P_planBy_22 rfl (fun c22 => ?_) (fun c22 => ?_)
      · skip
        refine aw_aload_n 0 q_P_planBy_27 rfl rfl ?_
        refine aw_iload_n 1 q_P_planBy_28 rfl rfl ?_
        refine aw_V1v q_P_planBy_29 st_P_29 rfl (by decide) (Nat.le_of_ble_eq_true rfl) (c_P_putInOrder _ _ _ _ _ _ b hk) ?_
        refine aw_iconst 0 q_P_planBy_32 rfl ?_
        refine aw_istore_n 3 q_P_planBy_33 rfl rfl rfl ?_
        exact l_P_planBy sc A (q_s_or q (orf A k (q_or q) (x_nc A))) D t k b (orf_lt b hf _ (Nat.le_refl _)) _ 0 rfl (by omega)
      · skip
        first
          | exact absurd c9 (nI_pos (by omega))
          | exact absurd c14 (nI_ge (b := 3) (by omega) (by omega))
          | exact absurd (zI_0.mp c22) (by rw [hx]; decide)
end
section
/-! CONTRACTS 6: the search's tests -/
def pcr : Nat → Nat → Nat
  | 0, _ => 0
  | k + 1, m => m % 2 + pcr k (m / 2)
def bcN (m : Nat) : Nat :=
  let a := m - ((m / 2) &&& 1431655765)
  let b := (a &&& 858993459) + ((a / 4) &&& 858993459)
  let c := (b + b / 16) &&& 252645135
  let d := c + c / 256
  let e := d + d / 65536
  e &&& 63
theorem bcN_dec : ∀ a, a < 128 → ∀ b, b < 128 → bcN (128 * a + b) = pcr 14 (128 * a + b) := by decide +kernel
theorem bcN_pcr {m : Nat} (h : m < 16384) : bcN m = pcr 14 m := by
  have := bcN_dec (m / 128) (by omega) (m % 128) (by omega)
  rw [show 128 * (m / 128) + m % 128 = m by omega] at this
  exact this
theorem us_k {n : Nat} (hn : n < 2 ^ 32) (s : Int32) (k : Nat) (hs : ((s.toUInt32 &&& Int32.toUInt32 31).toBitVec % 32).toNat = k) : ((nI n).toUInt32 >>> (s.toUInt32 &&& Int32.toUInt32 31)).toInt32 = nI (n / 2 ^ k) := pk_ushrN hn s k hs
theorem bcI_N {m : Nat} (h : m < 16384) : bcI (nI m) = nI (bcN m) := by
  unfold bcI bcN
  simp only []
  have l1 : (m / 2) &&& 1431655765 ≤ m := Nat.le_trans Nat.and_le_left (Nat.div_le_self _ _)
  rw [us_k (by omega) 1 1 (by decide), show (1431655765 : Int32) = nI 1431655765 from rfl, nI_and, show 2 ^ 1 = 2 from rfl, pk_sub l1]
  generalize ha : m - ((m / 2) &&& 1431655765) = a
  have ha1 : a < 2 ^ 32 := by omega
  rw [us_k ha1 2 2 (by decide), show (858993459 : Int32) = nI 858993459 from rfl, nI_and, nI_and, nI_add, show 2 ^ 2 = 4 from rfl]
  generalize hb : (a &&& 858993459) + ((a / 4) &&& 858993459) = c
  have hb1 : c < 2 ^ 32 := by
    have q1 : a &&& 858993459 ≤ 858993459 := Nat.and_le_right
    have q2 : (a / 4) &&& 858993459 ≤ 858993459 := Nat.and_le_right
    omega
  rw [us_k hb1 4 4 (by decide), nI_add, show (252645135 : Int32) = nI 252645135 from rfl, nI_and, show 2 ^ 4 = 16 from rfl]
  generalize hc : (c + c / 16) &&& 252645135 = e
  have hc1 : e ≤ 252645135 := by rw [← hc]; exact Nat.and_le_right
  rw [us_k (by omega) 8 8 (by decide), nI_add, show 2 ^ 8 = 256 from rfl]
  generalize hd : e + e / 256 = f
  have hd1 : f < 2 ^ 32 := by omega
  rw [us_k hd1 16 16 (by decide), nI_add, show 2 ^ 16 = 65536 from rfl, show (63 : Int32) = nI 63 from rfl, nI_and]
theorem bc_pcr {m : Nat} (h : m < 16384) : bcI (nI m) = nI (pcr 14 m) := by rw [bcI_N h, bcN_pcr h]
theorem pcr_le : ∀ k m, pcr k m ≤ k
  | 0, _ => by simp [pcr]
  | k + 1, m => by
    have := pcr_le k (m / 2)
    simp only [pcr]
    omega
end
section
theorem c_S_countOfChanges (sc : am_S) (A : ST) (q : QS) (D : ST) (t : TS) (e : Nat) (hcm : q_cm q < 16384) : AM sc m_S_countOfChanges 1 [.ref 26, .int (nI e)] (hp A q D t) (some (.int (nI (pcr 14 (((q_pk q ^^^ q_od q) &&& q_cm q) &&& e))))) (hp A q D t) := by
  refine AM.of (by decide) (Nat.le_of_ble_eq_true rfl) ?_
  show AW sc m_S_countOfChanges 1 0 [some (.ref 26), some (.int (nI e))] [] _ _ _
  refine aw_aload_n 0 q_S_countOfChanges_0 rfl rfl ?_
  refine aw_get 10 q_S_countOfChanges_1 fl_S_76 rfl rfl ?_
  refine aw_aload_n 0 q_S_countOfChanges_4 rfl rfl ?_
  refine aw_get 3 q_S_countOfChanges_5 fl_S_52 rfl rfl ?_
  refine aw_ixor q_S_countOfChanges_8 ?_
  refine aw_aload_n 0 q_S_countOfChanges_9 rfl rfl ?_
  refine aw_get 4 q_S_countOfChanges_10 fl_S_59 rfl rfl ?_
  refine aw_iand q_S_countOfChanges_13 ?_
  refine aw_iload_n 1 q_S_countOfChanges_14 rfl rfl ?_
  refine aw_iand q_S_countOfChanges_15 ?_
  rw [nI_xor, nI_and, nI_and]
  refine aw_S1 q_S_countOfChanges_16 st_S_151 (by omega) (Nat.le_of_ble_eq_true rfl) (c_JI_bitCount _ _ _) ?_
  exact aw_iret .int q_S_countOfChanges_19 rfl rfl (by rw [bc_pcr (and_lt 16384 (Nat.lt_of_le_of_lt Nat.and_le_right hcm))]) rfl
/-- the changes of what is decided; is nothing better below -/
def chg (q : QS) (e : Nat) : Nat := pcr 14 (((q_pk q ^^^ q_od q) &&& q_cm q) &&& e)
def hpl (q : QS) (c : Nat) : Bool := (q_be q).isSome && (q_oe q || decide (q_bc q < chg q (2 ^ c - 1)) || (decide (chg q (2 ^ c - 1) = q_bc q) && decide (q_ga q + q_wf q c < q_bw q)))
def bq (q : QS) : Prop := q_cm q < 16384 ∧ (∀ m, q_be q = some m → m < 16384) ∧ q_bc q < 100 ∧ (-1000000000000 ≤ q_ga q ∧ q_ga q ≤ 1000000000000) ∧ (∀ c, -1000000000000 ≤ q_wf q c ∧ q_wf q c ≤ 1000000000000) ∧ (-1000000000000 ≤ q_bw q ∧ q_bw q ≤ 1000000000000) ∧ (q_sy q < 1000 ∧ q_bs q < 1000) ∧ (∀ y, -1000000000000 ≤ q_sp q y ∧ q_sp q y ≤ 1000000000000) ∧ (∀ a y, -1000000000000 ≤ q_sf q a y ∧ q_sf q a y ≤ 1000000000000) ∧ (∀ y, -1000000000000 ≤ q_li q y ∧ q_li q y ≤ 1000000000000) ∧ (∀ d, -1000000000000 ≤ q_gi q d ∧ q_gi q d ≤ 1000000000000) ∧ q_ud q < 16 ∧ q_pk q < 16384 ∧ q_tk q < 16384 ∧ q_mu q < 16384 ∧ (0 ≤ q_no q ∧ q_no q ≤ 1000000)
theorem pk_pow {c : Nat} (h : c < 31) : nI (2 ^ c) - 1 = nI (2 ^ c - 1) := by
  rw [show (1 : Int32) = nI 1 from rfl, pk_sub (Nat.two_pow_pos c)]
theorem c_S_isHopeless (sc : am_S) (A : ST) (q : QS) (D : ST) (t : TS) (c : Nat) (z : bq q) (hc : c < 15) : AM sc m_S_isHopeless 2 [.ref 26, .int (nI c)] (hp A q D t) (some (.int (zI (hpl q c)))) (hp A q D t) := by
  refine AM.of (by decide) (Nat.le_of_ble_eq_true rfl) ?_
  show AW sc m_S_isHopeless 2 0 [some (.ref 26), some (.int (nI c)), none, none] [] _ _ _
  have z0 := pI_eq (o := q_be q) (fun m h => by have := z.2.1 m h; omega)
  obtain ⟨ch, hch⟩ : ∃ ch, chg q (2 ^ c - 1) = ch := ⟨_, rfl⟩
  have z1 : ch ≤ 14 := by rw [← hch]; exact pcr_le _ _
  have z2 := z.2.2.1
  have z3 := z.2.2.2.1
  have z4 := z.2.2.2.2.1 c
  have z5 := z.2.2.2.2.2.1
  refine aw_aload_n 0 q_S_isHopeless_0 rfl rfl ?_
  refine aw_get 16 q_S_isHopeless_1 fl_S_47 rfl rfl ?_
  refine aw_iconst (-1) q_S_isHopeless_4 rfl ?_
  refine aw_icmp_ne 10 q_S_isHopeless_5 rfl (fun c5 => ?_) (fun c5 => ?_)
  · skip
    refine aw_iconst 1 q_S_isHopeless_10 rfl ?_
    refine aw_iload_n 1 q_S_isHopeless_11 rfl rfl ?_
    refine aw_ishl q_S_isHopeless_12 ?_
    refine aw_iconst 1 q_S_isHopeless_13 rfl ?_
    refine aw_isub q_S_isHopeless_14 ?_
    rw [bt_one (by omega), pk_pow (by omega)]
    refine aw_istore_n 2 q_S_isHopeless_15 rfl rfl rfl ?_
    have hs : (q_be q).isSome = true := by rw [← Option.not_isNone, Bool.not_eq_true', Option.isNone_eq_false_iff, Option.isSome_iff_ne_none]; exact mt z0.mpr c5
    refine aw_aload_n 0 q_S_isHopeless_16 rfl rfl ?_
    refine aw_iload_n 2 q_S_isHopeless_17 rfl rfl ?_
    refine aw_V1 q_S_isHopeless_18 st_S_142 rfl (by omega) (Nat.le_of_ble_eq_true rfl) (c_S_countOfChanges _ _ _ _ _ _ z.1) ?_
    rw [show pcr 14 (((q_pk q ^^^ q_od q) &&& q_cm q) &&& (2 ^ c - 1)) = ch from hch]
    refine aw_istore_n 3 q_S_isHopeless_21 rfl rfl rfl ?_
    refine aw_aload_n 0 q_S_isHopeless_22 rfl rfl ?_
    refine aw_get 5 q_S_isHopeless_23 fl_S_62 rfl rfl ?_
    refine aw_if_ne 64 q_S_isHopeless_26 rfl (fun c26 => ?_) (fun c26 => ?_)
    · skip
      refine aw_iconst 1 q_S_isHopeless_64 rfl ?_
      refine aw_goto 69 q_S_isHopeless_65 rfl ?_
      exact aw_iret .boolean q_S_isHopeless_69 rfl rfl (aw_rz1 (by simp [hpl, hs, zI_n0.mp c26])) rfl
    · skip
      refine aw_iload_n 3 q_S_isHopeless_29 rfl rfl ?_
      refine aw_aload_n 0 q_S_isHopeless_30 rfl rfl ?_
      refine aw_get 17 q_S_isHopeless_31 fl_S_145 rfl rfl ?_
      refine aw_icmp_gt 64 q_S_isHopeless_34 rfl (fun c34 => ?_) (fun c34 => ?_)
      · skip
        refine aw_iconst 1 q_S_isHopeless_64 rfl ?_
        refine aw_goto 69 q_S_isHopeless_65 rfl ?_
        exact aw_iret .boolean q_S_isHopeless_69 rfl rfl (aw_rz1 (by have e := (nI_ltI (by omega) (by omega)).mp c34; simp [hpl, hs, hch, e])) rfl
      · skip
        refine aw_iload_n 3 q_S_isHopeless_37 rfl rfl ?_
        refine aw_aload_n 0 q_S_isHopeless_38 rfl rfl ?_
        refine aw_get 17 q_S_isHopeless_39 fl_S_145 rfl rfl ?_
        refine aw_icmp_ne 68 q_S_isHopeless_42 rfl (fun c42 => ?_) (fun c42 => ?_)
        · skip
          refine aw_iconst 0 q_S_isHopeless_68 rfl ?_
          exact aw_iret .boolean q_S_isHopeless_69 rfl rfl (aw_rz0 (by have e0 := zI_0.mp c26; have e1 := mt (nI_ltI (by omega) (by omega)).mpr c34; have e2 := nI_ne (by omega) (by omega) c42; simp [hpl, hs, hch, e0, e2]; omega)) rfl
        · skip
          refine aw_aload_n 0 q_S_isHopeless_45 rfl rfl ?_
          refine aw_get 13 q_S_isHopeless_46 fl_S_85 rfl rfl ?_
          refine aw_aload_n 0 q_S_isHopeless_49 rfl rfl ?_
          refine aw_get 9 q_S_isHopeless_50 fl_S_20 rfl rfl ?_
          refine aw_iload_n 1 q_S_isHopeless_53 rfl rfl ?_
          refine aw_laldN q_S_isHopeless_54 rfl (by omega) rfl ?_
          refine aw_ladd q_S_isHopeless_55 ?_
          refine aw_aload_n 0 q_S_isHopeless_56 rfl rfl ?_
          refine aw_get 18 q_S_isHopeless_57 fl_S_148 rfl rfl ?_
          refine aw_lcmp_ge 68 q_S_isHopeless_60 q_S_isHopeless_61 rfl (fun c60 => ?_) (fun c60 => ?_)
          · skip
            refine aw_iconst 0 q_S_isHopeless_68 rfl ?_
            exact aw_iret .boolean q_S_isHopeless_69 rfl rfl (aw_rz0 (by have e0 := zI_0.mp c26; have e1 := mt (nI_ltI (by omega) (by omega)).mpr c34; rw [lZ_add] at c60; have e3 := (lZ_le (by omega) (by omega)).mp c60; simp [hpl, hs, hch, e0]; omega)) rfl
          · skip
            refine aw_iconst 1 q_S_isHopeless_64 rfl ?_
            refine aw_goto 69 q_S_isHopeless_65 rfl ?_
            exact aw_iret .boolean q_S_isHopeless_69 rfl rfl (aw_rz1 (by have e2 := nI_eq' (by omega) (by omega) c42; rw [lZ_add] at c60; have e3 := mt (lZ_le (by omega) (by omega)).mpr c60; simp [hpl, hs, hch, e2]; right; omega)) rfl
  · skip
    refine aw_iconst 0 q_S_isHopeless_8 rfl ?_
    exact aw_iret .boolean q_S_isHopeless_9 rfl rfl (aw_rz0 (by simp [hpl, z0.mp c5])) rfl
def isb (q : QS) (ch : Nat) : Bool := if ch = q_bc q then (if q_ga q = q_bw q then decide (q_sy q < q_bs q) else decide (q_bw q < q_ga q)) else decide (ch < q_bc q)
theorem c_S_isBetter (sc : am_S) (A : ST) (q : QS) (D : ST) (t : TS) (c : Nat) (z : bq q) (hc : c < 100) : AM sc m_S_isBetter 0 [.ref 26, .int (nI c)] (hp A q D t) (some (.int (zI (isb q c)))) (hp A q D t) := by
  refine AM.of (by decide) (Nat.le_of_ble_eq_true rfl) ?_
  show AW sc m_S_isBetter 0 0 [some (.ref 26), some (.int (nI c))] [] _ _ _
  have z2 := z.2.2.1
  have z3 := z.2.2.2.1
  have z5 := z.2.2.2.2.2.1
  have z6 := z.2.2.2.2.2.2.1
  refine aw_iload_n 1 q_S_isBetter_0 rfl rfl ?_
  refine aw_aload_n 0 q_S_isBetter_1 rfl rfl ?_
  refine aw_get 17 q_S_isBetter_2 fl_S_145 rfl rfl ?_
  refine aw_icmp_eq 22 q_S_isBetter_5 rfl (fun c5 => ?_) (fun c5 => ?_)
  · skip
    refine aw_aload_n 0 q_S_isBetter_22 rfl rfl ?_
    refine aw_get 13 q_S_isBetter_23 fl_S_85 rfl rfl ?_
    refine aw_aload_n 0 q_S_isBetter_26 rfl rfl ?_
    refine aw_get 18 q_S_isBetter_27 fl_S_148 rfl rfl ?_
    refine aw_lcmp_eq 54 q_S_isBetter_30 q_S_isBetter_31 rfl (fun c30 => ?_) (fun c30 => ?_)
    · skip
      refine aw_aload_n 0 q_S_isBetter_54 rfl rfl ?_
      refine aw_get 12 q_S_isBetter_55 fl_S_82 rfl rfl ?_
      refine aw_aload_n 0 q_S_isBetter_58 rfl rfl ?_
      refine aw_get 19 q_S_isBetter_59 fl_S_163 rfl rfl ?_
      refine aw_icmp_ge 69 q_S_isBetter_62 rfl (fun c62 => ?_) (fun c62 => ?_)
      · skip
        refine aw_iconst 0 q_S_isBetter_69 rfl ?_
        exact aw_iret .boolean q_S_isBetter_70 rfl rfl (aw_rz0 (by have e := nI_eq' (by omega) (by omega) c5; have e2 := (lZ_eq (by omega) (by omega)).mp c30; have e3 := nge_ge c62 (by omega) (by omega); simp [isb, e, e2]; omega)) rfl
      · skip
        refine aw_iconst 1 q_S_isBetter_65 rfl ?_
        refine aw_goto 70 q_S_isBetter_66 rfl ?_
        exact aw_iret .boolean q_S_isBetter_70 rfl rfl (aw_rz1 (by have e := nI_eq' (by omega) (by omega) c5; have e2 := (lZ_eq (by omega) (by omega)).mp c30; have e3 := nge_lt c62 (by omega) (by omega); simp [isb, e, e2]; omega)) rfl
    · skip
      refine aw_aload_n 0 q_S_isBetter_34 rfl rfl ?_
      refine aw_get 13 q_S_isBetter_35 fl_S_85 rfl rfl ?_
      refine aw_aload_n 0 q_S_isBetter_38 rfl rfl ?_
      refine aw_get 18 q_S_isBetter_39 fl_S_148 rfl rfl ?_
      refine aw_lcmp_le 50 q_S_isBetter_42 q_S_isBetter_43 rfl (fun c42 => ?_) (fun c42 => ?_)
      · skip
        refine aw_iconst 0 q_S_isBetter_50 rfl ?_
        refine aw_goto 70 q_S_isBetter_51 rfl ?_
        exact aw_iret .boolean q_S_isBetter_70 rfl rfl (aw_rz0 (by have e := nI_eq' (by omega) (by omega) c5; have e2 := mt (lZ_eq (by omega) (by omega)).mpr c30; have e3 := (lZ_le (by omega) (by omega)).mp c42; simp [isb, e, e2]; omega)) rfl
      · skip
        refine aw_iconst 1 q_S_isBetter_46 rfl ?_
        refine aw_goto 70 q_S_isBetter_47 rfl ?_
        exact aw_iret .boolean q_S_isBetter_70 rfl rfl (aw_rz1 (by have e := nI_eq' (by omega) (by omega) c5; have e2 := mt (lZ_eq (by omega) (by omega)).mpr c30; have e3 := mt (lZ_le (by omega) (by omega)).mpr c42; simp [isb, e, e2]; omega)) rfl
  · skip
    refine aw_iload_n 1 q_S_isBetter_8 rfl rfl ?_
    refine aw_aload_n 0 q_S_isBetter_9 rfl rfl ?_
    refine aw_get 17 q_S_isBetter_10 fl_S_145 rfl rfl ?_
    refine aw_icmp_ge 20 q_S_isBetter_13 rfl (fun c13 => ?_) (fun c13 => ?_)
    · skip
      refine aw_iconst 0 q_S_isBetter_20 rfl ?_
      exact aw_iret .boolean q_S_isBetter_21 rfl rfl (aw_rz0 (by have e := nI_ne (by omega) (by omega) c5; have e2 := nge_ge c13 (by omega) (by omega); simp [isb, e]; omega)) rfl
    · skip
      refine aw_iconst 1 q_S_isBetter_16 rfl ?_
      refine aw_goto 21 q_S_isBetter_17 rfl ?_
      exact aw_iret .boolean q_S_isBetter_21 rfl rfl (aw_rz1 (by have e := nI_ne (by omega) (by omega) c5; have e2 := nge_lt c13 (by omega) (by omega); simp [isb, e]; omega)) rfl
def ovs (A : ST) (q : QS) (c : Nat) : Bool := decide (q_li q (x_yr A c) < q_sp q (x_yr A c) - q_sf q (c + 1) (x_yr A c))
theorem c_S_isOverspent (sc : am_S) (A : ST) (q : QS) (D : ST) (t : TS) (c : Nat) (b : bd A) (z : bq q) (hc : c < 14) : AM sc m_S_isOverspent 0 [.ref 26, .int (nI c)] (hp A q D t) (some (.int (zI (ovs A q c)))) (hp A q D t) := by
  refine AM.of (by decide) (Nat.le_of_ble_eq_true rfl) ?_
  show AW sc m_S_isOverspent 0 0 [some (.ref 26), some (.int (nI c)), none] [] _ _ _
  have b5 := b.2.2.2.2.1 c
  have z7 := z.2.2.2.2.2.2.2.1 (x_yr A c)
  have z8 := z.2.2.2.2.2.2.2.2.1 (c + 1) (x_yr A c)
  have z9 := z.2.2.2.2.2.2.2.2.2.1 (x_yr A c)
  refine aw_aload_n 0 q_S_isOverspent_0 rfl rfl ?_
  refine aw_get 0 q_S_isOverspent_1 fl_S_29 rfl rfl ?_
  refine aw_get 7 q_S_isOverspent_4 fl_S_100 rfl rfl ?_
  refine aw_iload_n 1 q_S_isOverspent_7 rfl rfl ?_
  refine aw_ialdN q_S_isOverspent_8 rfl (by omega) rfl ?_
  refine aw_istore_n 2 q_S_isOverspent_9 rfl rfl rfl ?_
  refine aw_aload_n 0 q_S_isOverspent_10 rfl rfl ?_
  refine aw_get 14 q_S_isOverspent_11 fl_S_23 rfl rfl ?_
  refine aw_iload_n 2 q_S_isOverspent_14 rfl rfl ?_
  refine aw_laldN q_S_isOverspent_15 rfl (by omega) rfl ?_
  refine aw_aload_n 0 q_S_isOverspent_16 rfl rfl ?_
  refine aw_get 8 q_S_isOverspent_17 fl_S_17 rfl rfl ?_
  refine aw_iload_n 1 q_S_isOverspent_20 rfl rfl ?_
  refine aw_iconst 1 q_S_isOverspent_21 rfl ?_
  refine aw_iadd q_S_isOverspent_22 ?_
  rw [nI_1]
  refine aw_aaldN q_S_isOverspent_23 rfl (by omega) rfl ?_
  refine aw_iload_n 2 q_S_isOverspent_24 rfl rfl ?_
  refine aw_laldN q_S_isOverspent_25 (hp_sf _ _ _ _ _ (by omega)) (by omega) rfl ?_
  refine aw_lsub q_S_isOverspent_26 ?_
  refine aw_aload_n 0 q_S_isOverspent_27 rfl rfl ?_
  refine aw_get 7 q_S_isOverspent_28 fl_S_9 rfl rfl ?_
  refine aw_iload_n 2 q_S_isOverspent_31 rfl rfl ?_
  refine aw_laldN q_S_isOverspent_32 rfl (by omega) rfl ?_
  rw [lZ_sub]
  refine aw_lcmp_le 41 q_S_isOverspent_33 q_S_isOverspent_34 rfl (fun c33 => ?_) (fun c33 => ?_)
  · skip
    refine aw_iconst 0 q_S_isOverspent_41 rfl ?_
    exact aw_iret .boolean q_S_isOverspent_42 rfl rfl (aw_rz0 (by have e := (lZ_le (by omega) (by omega)).mp c33; simp [ovs]; omega)) rfl
  · skip
    refine aw_iconst 1 q_S_isOverspent_37 rfl ?_
    refine aw_goto 42 q_S_isOverspent_38 rfl ?_
    exact aw_iret .boolean q_S_isOverspent_42 rfl rfl (aw_rz1 (by have e := mt (lZ_le (by omega) (by omega)).mpr c33; simp [ovs]; omega)) rfl
def fri (fa : Int) (ud : Nat) (g : Nat → Int) (a : Nat) : Nat → Bool
  | 0 => true
  | j + 1 => fri fa ud g a j && !(ud.testBit a && ud.testBit j && decide (fa < g a - g j))
def fro (fa : Int) (ud : Nat) (g : Nat → Int) : Nat → Bool
  | 0 => true
  | i + 1 => fro fa ud g i && fri fa ud g i 4
def fai (fa : Int) (ud : Nat) (g : Nat → Int) : Bool := decide (fa = -1) || fro fa ud g 4
theorem fri_mono {fa : Int} {ud : Nat} {g : Nat → Int} {a i : Nat} : ∀ {n : Nat}, i ≤ n → fri fa ud g a i = false → fri fa ud g a n = false
  | 0, h, e => by rw [show i = 0 by omega] at e; exact e
  | n + 1, h, e => by
    by_cases q : i = n + 1
    · rw [← q]; exact e
    · unfold fri
      rw [fri_mono (n := n) (by omega) e]
      rfl
theorem fro_mono {fa : Int} {ud : Nat} {g : Nat → Int} {i : Nat} : ∀ {n : Nat}, i ≤ n → fro fa ud g i = false → fro fa ud g n = false
  | 0, h, e => by rw [show i = 0 by omega] at e; exact e
  | n + 1, h, e => by
    by_cases q : i = n + 1
    · rw [← q]; exact e
    · unfold fro
      rw [fro_mono (n := n) (by omega) e]
      rfl
theorem fai_no {fa : Int} {ud : Nat} {g : Nat → Int} {a j : Nat} (hfa : ¬ fa = -1) (ha : a < 4) (hj : j < 4) (h : fri fa ud g a (j + 1) = false) : fai fa ud g = false := by
  have h1 := fri_mono (n := 4) (by omega) h
  have h2 : fro fa ud g (a + 1) = false := by simp only [fro, h1, Bool.and_false]
  simp [fai, hfa, fro_mono (n := 4) (by omega) h2]
theorem l_S_isFair1 (sc : am_S) (A : ST) (q : QS) (D : ST) (t : TS) (a : Nat) (z : bq q) (hfa : -1 ≤ x_fa A ∧ x_fa A ≤ 10000000) (hn1 : ¬ x_fa A = -1) (ha : a < 4) (kk : fri (x_fa A) (q_ud q) (q_gi q) a 4 = true → AW sc m_S_isFair 1 84 [some (.ref 26), some (.int (nI a)), some (.int (nI 4))] [] (hp A q D t) (some (.int (zI (fai (x_fa A) (q_ud q) (q_gi q))))) (hp A q D t)) : ∀ (n i : Nat), 4 - i = n → i ≤ 4 → fri (x_fa A) (q_ud q) (q_gi q) a i = true → AW sc m_S_isFair 1 25 [some (.ref 26), some (.int (nI a)), some (.int (nI i))] [] (hp A q D t) (some (.int (zI (fai (x_fa A) (q_ud q) (q_gi q))))) (hp A q D t) := by
  intro n
  induction n using Nat.strongRecOn with
  | _ n ih =>
    intro i hn hi
    intro hw
    have z10 := z.2.2.2.2.2.2.2.2.2.2.1 a
    have z11 := z.2.2.2.2.2.2.2.2.2.2.1 i
    have z12 := z.2.2.2.2.2.2.2.2.2.2.2.1
    refine aw_iload_n 2 q_S_isFair_25 rfl rfl ?_
    refine aw_iconst 4 q_S_isFair_26 rfl ?_
    refine aw_icmp_ge 84 q_S_isFair_27 rfl (fun c27 => ?_) (fun c27 => ?_)
    · skip
      have he : i = 4 := Nat.le_antisymm hi (nge_ge (b := 4) c27 (by omega) (by omega))
      subst he
      exact kk hw
    · skip
      have hlt : i < 4 := nge_lt (b := 4) c27 (by omega) (by omega)
      refine aw_aload_n 0 q_S_isFair_30 rfl rfl ?_
      refine aw_get 6 q_S_isFair_31 fl_S_74 rfl rfl ?_
      refine aw_iload_n 1 q_S_isFair_34 rfl rfl ?_
      refine aw_S2 q_S_isFair_35 st_S_124 (by omega) (Nat.le_of_ble_eq_true rfl) (c_B_isIn _ _ _ _ (by omega) (by omega)) ?_
      refine aw_if_eq 78 q_S_isFair_38 rfl (fun c38 => ?_) (fun c38 => ?_)
      · skip
        first | refine aw_iinc _ q_S_isFair_78 rfl (am_inc _) rfl rfl ?_ | refine aw_iinc _ q_S_isFair_78 rfl rfl rfl rfl ?_
        refine aw_goto 25 q_S_isFair_81 rfl ?_
        first
          | (have h9 := zI_0.mp c38; exact ih _ (by omega) (i + 1) rfl (by omega) (by simp [fri, hw, h9]))
          | (have h9 := zI_0.mp c49; exact ih _ (by omega) (i + 1) rfl (by omega) (by simp [fri, hw, h9]))
          | (have h9 := (lZ_le (by omega) (by omega)).mp c72; exact ih _ (by omega) (i + 1) rfl (by omega) (by simp [fri, hw]; intros; omega))
      · skip
        refine aw_aload_n 0 q_S_isFair_41 rfl rfl ?_
        refine aw_get 6 q_S_isFair_42 fl_S_74 rfl rfl ?_
        refine aw_iload_n 2 q_S_isFair_45 rfl rfl ?_
        refine aw_S2 q_S_isFair_46 st_S_124 (by omega) (Nat.le_of_ble_eq_true rfl) (c_B_isIn _ _ _ _ (by omega) (by omega)) ?_
        refine aw_if_eq 78 q_S_isFair_49 rfl (fun c49 => ?_) (fun c49 => ?_)
        · skip
          first | refine aw_iinc _ q_S_isFair_78 rfl (am_inc _) rfl rfl ?_ | refine aw_iinc _ q_S_isFair_78 rfl rfl rfl rfl ?_
          refine aw_goto 25 q_S_isFair_81 rfl ?_
          first
            | (have h9 := zI_0.mp c38; exact ih _ (by omega) (i + 1) rfl (by omega) (by simp [fri, hw, h9]))
            | (have h9 := zI_0.mp c49; exact ih _ (by omega) (i + 1) rfl (by omega) (by simp [fri, hw, h9]))
            | (have h9 := (lZ_le (by omega) (by omega)).mp c72; exact ih _ (by omega) (i + 1) rfl (by omega) (by simp [fri, hw]; intros; omega))
        · skip
          refine aw_aload_n 0 q_S_isFair_52 rfl rfl ?_
          refine aw_get 15 q_S_isFair_53 fl_S_26 rfl rfl ?_
          refine aw_iload_n 1 q_S_isFair_56 rfl rfl ?_
          refine aw_laldN q_S_isFair_57 rfl (by omega) rfl ?_
          refine aw_aload_n 0 q_S_isFair_58 rfl rfl ?_
          refine aw_get 15 q_S_isFair_59 fl_S_26 rfl rfl ?_
          refine aw_iload_n 2 q_S_isFair_62 rfl rfl ?_
          refine aw_laldN q_S_isFair_63 rfl (by omega) rfl ?_
          refine aw_lsub q_S_isFair_64 ?_
          rw [lZ_sub]
          refine aw_aload_n 0 q_S_isFair_65 rfl rfl ?_
          refine aw_get 0 q_S_isFair_66 fl_S_29 rfl rfl ?_
          refine aw_get 14 q_S_isFair_69 fl_S_166 rfl rfl ?_
          refine aw_lcmp_le 78 q_S_isFair_72 q_S_isFair_73 rfl (fun c72 => ?_) (fun c72 => ?_)
          · skip
            first | refine aw_iinc _ q_S_isFair_78 rfl (am_inc _) rfl rfl ?_ | refine aw_iinc _ q_S_isFair_78 rfl rfl rfl rfl ?_
            refine aw_goto 25 q_S_isFair_81 rfl ?_
            first
              | (have h9 := zI_0.mp c38; exact ih _ (by omega) (i + 1) rfl (by omega) (by simp [fri, hw, h9]))
              | (have h9 := zI_0.mp c49; exact ih _ (by omega) (i + 1) rfl (by omega) (by simp [fri, hw, h9]))
              | (have h9 := (lZ_le (by omega) (by omega)).mp c72; exact ih _ (by omega) (i + 1) rfl (by omega) (by simp [fri, hw]; intros; omega))
          · skip
            refine aw_iconst 0 q_S_isFair_76 rfl ?_
            exact aw_iret .boolean q_S_isFair_77 rfl rfl (aw_rz0 (fai_no hn1 ha hlt (by have e := mt (lZ_le (by omega) (by omega)).mpr c72; simp [fri, hw, zI_n0.mp c38, zI_n0.mp c49]; omega))) rfl
theorem l_S_isFair (sc : am_S) (A : ST) (q : QS) (D : ST) (t : TS)  (z : bq q) (hfa : -1 ≤ x_fa A ∧ x_fa A ≤ 10000000) (hn1 : ¬ x_fa A = -1) : ∀ (n i : Nat), 4 - i = n → i ≤ 4 → fro (x_fa A) (q_ud q) (q_gi q) i = true → AW sc m_S_isFair 1 18 [some (.ref 26), some (.int (nI i)), none] [] (hp A q D t) (some (.int (zI (fai (x_fa A) (q_ud q) (q_gi q))))) (hp A q D t) := by
  intro n
  induction n using Nat.strongRecOn with
  | _ n ih =>
    intro i hn hi
    intro hw
    refine aw_iload_n 1 q_S_isFair_18 rfl rfl ?_
    refine aw_iconst 4 q_S_isFair_19 rfl ?_
    refine aw_icmp_ge 90 q_S_isFair_20 rfl (fun c20 => ?_) (fun c20 => ?_)
    · skip
      refine aw_iconst 1 q_S_isFair_90 rfl ?_
      exact aw_iret .boolean q_S_isFair_91 rfl rfl (aw_rz1 (by rw [show i = 4 from Nat.le_antisymm hi (nge_ge (b := 4) c20 (by omega) (by omega))] at hw; simp [fai, hw])) rfl
    · skip
      have hlt : i < 4 := nge_lt (b := 4) c20 (by omega) (by omega)
      refine aw_iconst 0 q_S_isFair_23 rfl ?_
      refine aw_istore_n 2 q_S_isFair_24 rfl rfl rfl ?_
      refine l_S_isFair1 sc A q D t i z hfa hn1 hlt (fun hk => ?_) _ 0 rfl (by omega) rfl
      first | refine aw_iinc _ q_S_isFair_84 rfl (am_inc _) rfl rfl ?_ | refine aw_iinc _ q_S_isFair_84 rfl rfl rfl rfl ?_
      refine aw_goto 18 q_S_isFair_87 rfl ?_
      refine aw_kill [2] ?_
      exact ih _ (by omega) (i + 1) rfl (by omega) (by simp only [fro, hw, hk]; rfl)
theorem c_S_isFair (sc : am_S) (A : ST) (q : QS) (D : ST) (t : TS)  (z : bq q) (hfa : -1 ≤ x_fa A ∧ x_fa A ≤ 10000000) : AM sc m_S_isFair 1 [.ref 26] (hp A q D t) (some (.int (zI (fai (x_fa A) (q_ud q) (q_gi q))))) (hp A q D t) := by
  refine AM.of (by decide) (Nat.le_of_ble_eq_true rfl) ?_
  show AW sc m_S_isFair 1 0 [some (.ref 26), none, none] [] _ _ _
  refine aw_aload_n 0 q_S_isFair_0 rfl rfl ?_
  refine aw_get 0 q_S_isFair_1 fl_S_29 rfl rfl ?_
  refine aw_get 14 q_S_isFair_4 fl_S_166 rfl rfl ?_
  refine aw_ldc2 (lZ (-1)) q_S_isFair_7 (am_in2 (i := 122) rfl rfl) ?_
  refine aw_lcmp_ne 16 q_S_isFair_10 q_S_isFair_11 rfl (fun c10 => ?_) (fun c10 => ?_)
  · skip
    have hn1 : ¬ x_fa A = -1 := fun e => c10 (by rw [e])
    refine aw_iconst 0 q_S_isFair_16 rfl ?_
    refine aw_istore_n 1 q_S_isFair_17 rfl rfl rfl ?_
    exact l_S_isFair sc A q D t z hfa hn1 _ 0 rfl (by omega) rfl
  · skip
    refine aw_iconst 1 q_S_isFair_14 rfl ?_
    exact aw_iret .boolean q_S_isFair_15 rfl rfl (aw_rz1 (by have e := (lZ_eq (by omega) (by omega)).mp c10; simp [fai, e])) rfl
def wgh (A : ST) (q : QS) : QS := if (fai (x_fa A) (q_ud q) (q_gi q) && ((q_be q).isNone || isb q (chg q (q_cm q)))) = true then q_s_bs (q_s_bw (q_s_bc (q_s_be q (some (q_pk q))) (chg q (q_cm q))) (q_ga q)) (q_sy q) else q
theorem c_S_weigh (sc : am_S) (A : ST) (q : QS) (D : ST) (t : TS)  (z : bq q) (hfa : -1 ≤ x_fa A ∧ x_fa A ≤ 10000000) : AM sc m_S_weigh 2 [.ref 26] (hp A q D t) (none) (hp A (wgh A q) D t) := by
  refine AM.of (by decide) (Nat.le_of_ble_eq_true rfl) ?_
  show AW sc m_S_weigh 2 0 [some (.ref 26), none] [] _ _ _
  have z0 := pI_eq (o := q_be q) (fun m h => by have := z.2.1 m h; omega)
  have z1 := pcr_le 14 (((q_pk q ^^^ q_od q) &&& q_cm q) &&& q_cm q)
  refine aw_aload_n 0 q_S_weigh_0 rfl rfl ?_
  refine aw_aload_n 0 q_S_weigh_1 rfl rfl ?_
  refine aw_get 4 q_S_weigh_2 fl_S_59 rfl rfl ?_
  refine aw_V1 q_S_weigh_5 st_S_142 rfl (by omega) (Nat.le_of_ble_eq_true rfl) (c_S_countOfChanges _ _ _ _ _ _ z.1) ?_
  refine aw_istore_n 1 q_S_weigh_8 rfl rfl rfl ?_
  refine aw_aload_n 0 q_S_weigh_9 rfl rfl ?_
  refine aw_V0 q_S_weigh_10 st_S_156 rfl (by omega) (Nat.le_of_ble_eq_true rfl) (c_S_isFair _ _ _ _ _ z hfa) ?_
  refine aw_if_eq 61 q_S_weigh_13 rfl (fun c13 => ?_) (fun c13 => ?_)
  · skip
    exact aw_vret q_S_weigh_61 rfl rfl (by simp [wgh, zI_0.mp c13])
  · skip
    refine aw_aload_n 0 q_S_weigh_16 rfl rfl ?_
    refine aw_get 16 q_S_weigh_17 fl_S_47 rfl rfl ?_
    refine aw_iconst (-1) q_S_weigh_20 rfl ?_
    refine aw_icmp_eq 32 q_S_weigh_21 rfl (fun c21 => ?_) (fun c21 => ?_)
    · skip
      refine aw_aload_n 0 q_S_weigh_32 rfl rfl ?_
      refine aw_aload_n 0 q_S_weigh_33 rfl rfl ?_
      refine aw_get 10 q_S_weigh_34 fl_S_76 rfl rfl ?_
      refine wp_S_16 (some (q_pk q)) q_S_weigh_37 fl_S_47 ?_
      refine aw_aload_n 0 q_S_weigh_40 rfl rfl ?_
      refine aw_iload_n 1 q_S_weigh_41 rfl rfl ?_
      refine wp_S_17 _ q_S_weigh_42 fl_S_145 ?_
      refine aw_aload_n 0 q_S_weigh_45 rfl rfl ?_
      refine aw_aload_n 0 q_S_weigh_46 rfl rfl ?_
      refine aw_get 13 q_S_weigh_47 fl_S_85 rfl rfl ?_
      refine wp_S_18 _ q_S_weigh_50 fl_S_148 ?_
      refine aw_aload_n 0 q_S_weigh_53 rfl rfl ?_
      refine aw_aload_n 0 q_S_weigh_54 rfl rfl ?_
      refine aw_get 12 q_S_weigh_55 fl_S_82 rfl rfl ?_
      refine wp_S_19 _ q_S_weigh_58 fl_S_163 ?_
      exact aw_vret q_S_weigh_61 rfl rfl (by simp [wgh, zI_n0.mp c13, z0.mp c21]; rfl)
    · skip
      refine aw_aload_n 0 q_S_weigh_24 rfl rfl ?_
      refine aw_iload_n 1 q_S_weigh_25 rfl rfl ?_
      refine aw_V1 q_S_weigh_26 st_S_160 rfl (by omega) (Nat.le_of_ble_eq_true rfl) (c_S_isBetter _ _ _ _ _ _ z (by omega)) ?_
      refine aw_if_eq 61 q_S_weigh_29 rfl (fun c29 => ?_) (fun c29 => ?_)
      · skip
        exact aw_vret q_S_weigh_61 rfl rfl (by have e := mt z0.mpr c21; have e2 := zI_0.mp c29; simp [wgh, e, chg, e2])
      · skip
        refine aw_aload_n 0 q_S_weigh_32 rfl rfl ?_
        refine aw_aload_n 0 q_S_weigh_33 rfl rfl ?_
        refine aw_get 10 q_S_weigh_34 fl_S_76 rfl rfl ?_
        refine wp_S_16 (some (q_pk q)) q_S_weigh_37 fl_S_47 ?_
        refine aw_aload_n 0 q_S_weigh_40 rfl rfl ?_
        refine aw_iload_n 1 q_S_weigh_41 rfl rfl ?_
        refine wp_S_17 _ q_S_weigh_42 fl_S_145 ?_
        refine aw_aload_n 0 q_S_weigh_45 rfl rfl ?_
        refine aw_aload_n 0 q_S_weigh_46 rfl rfl ?_
        refine aw_get 13 q_S_weigh_47 fl_S_85 rfl rfl ?_
        refine wp_S_18 _ q_S_weigh_50 fl_S_148 ?_
        refine aw_aload_n 0 q_S_weigh_53 rfl rfl ?_
        refine aw_aload_n 0 q_S_weigh_54 rfl rfl ?_
        refine aw_get 12 q_S_weigh_55 fl_S_82 rfl rfl ?_
        refine wp_S_19 _ q_S_weigh_58 fl_S_163 ?_
        exact aw_vret q_S_weigh_61 rfl rfl (by have e2 := zI_n0.mp c29; simp [wgh, zI_n0.mp c13, chg, e2]; rfl)
end
section
/-! CONTRACTS 7: the search's steps: the path as a set -/
def nsm (n : Nat) (f : Nat → Nat) : Nat := match n with
  | 0 => 0
  | n + 1 => nsm n f + f n
def ysum (A : ST) (m : Nat) : Nat := nsm (x_nc A) (fun c => if m.testBit c = true then x_yr A c else 0)
/-- the search's rows on the way, by the set that is picked -/
def pst (A : ST) (q : QS) (P : Nat) : QS := (q_bk q, q_ba q, q_ck q, q_cl q, q_no q, q_mu q, q_od q, q_cm q, q_oe q, q_ud q, q_li q, q_sf q, q_wf q, P, tkm A P (x_nc A), ysum A P, wsum A P, (fun y => sps A P y), (fun d => dsum A P d), q_be q, q_bc q, q_bw q, q_bs q, q_or q)
abbrev Z4 : Type := Option Nat × Nat × Int × Nat
def zq (q : QS) (z : Z4) : QS := (q_bk q, q_ba q, q_ck q, q_cl q, q_no q, q_mu q, q_od q, q_cm q, q_oe q, q_ud q, q_li q, q_sf q, q_wf q, q_pk q, q_tk q, q_sy q, q_ga q, q_sp q, q_gi q, z.1, z.2.1, z.2.2.1, z.2.2.2, q_or q)
theorem sm_one {n c : Nat} {f g : Nat → Int} {x : Int} (hc : c < n) (h : ∀ o, o ≠ c → g o = f o) (hx : g c = f c + x) : sm n g = sm n f + x := by
  induction n with
  | zero => omega
  | succ n ih =>
    simp only [sm]
    by_cases e : c = n
    · subst e
      rw [hx, sm_congr (f := g) (g := f) (fun i hi => h i (by omega))]
      omega
    · rw [ih (by omega), h n (fun q => e q.symm)]
      omega
theorem nsm_congr {n : Nat} {f g : Nat → Nat} (h : ∀ i, i < n → f i = g i) : nsm n f = nsm n g := by
  induction n with
  | zero => rfl
  | succ n ih => simp only [nsm]; rw [ih (fun i hi => h i (by omega)), h n (by omega)]
theorem nsm_one {n c : Nat} {f g : Nat → Nat} {x : Nat} (hc : c < n) (h : ∀ o, o ≠ c → g o = f o) (hx : g c = f c + x) : nsm n g = nsm n f + x := by
  induction n with
  | zero => omega
  | succ n ih =>
    simp only [nsm]
    by_cases e : c = n
    · subst e
      rw [hx, nsm_congr (f := g) (g := f) (fun i hi => h i (by omega))]
      omega
    · rw [ih (by omega), h n (fun q => e q.symm)]
      omega
theorem nsm_le {n b : Nat} {f : Nat → Nat} (h : ∀ i, i < n → f i ≤ b) : nsm n f ≤ b * n := by
  induction n with
  | zero => simp [nsm]
  | succ n ih =>
    have h1 := ih (fun i hi => h i (by omega))
    have h2 := h n (by omega)
    simp only [nsm]
    rw [Nat.mul_succ]
    omega
theorem tb_or (P c o : Nat) : (P ||| 2 ^ c).testBit o = (P.testBit o || decide (c = o)) := by rw [Nat.testBit_or, Nat.testBit_two_pow]
theorem tb_ge {P c o : Nat} (h : P < 2 ^ c) (ho : c ≤ o) : P.testBit o = false := Nat.testBit_lt_two_pow (Nat.lt_of_lt_of_le h (Nat.pow_le_pow_right (by decide) ho))
theorem wsum_or {A : ST} {P c : Nat} (hP : P < 2 ^ c) (hc : c < x_nc A) : wsum A (P ||| 2 ^ c) = wsum A P + x_wo A c := by
  refine sm_one hc (fun o ho => ?_) ?_
  · simp only [tb_or, decide_eq_false (Ne.symm ho), Bool.or_false]
  · simp [tb_or, tb_ge hP (Nat.le_refl c)]
theorem ysum_or {A : ST} {P c : Nat} (hP : P < 2 ^ c) (hc : c < x_nc A) : ysum A (P ||| 2 ^ c) = ysum A P + x_yr A c := by
  refine nsm_one hc (fun o ho => ?_) ?_
  · simp only [tb_or, decide_eq_false (Ne.symm ho), Bool.or_false]
  · simp [tb_or, tb_ge hP (Nat.le_refl c)]
theorem dsum_or {A : ST} {P c : Nat} (hP : P < 2 ^ c) (hc : c < x_nc A) (d : Nat) : dsum A (P ||| 2 ^ c) d = dsum A P d + (if x_di A (x_th A c) = d then x_wo A c else 0) := by
  refine sm_one hc (fun o ho => ?_) ?_
  · simp only [tb_or, decide_eq_false (Ne.symm ho), Bool.or_false]
  · simp [tb_or, tb_ge hP (Nat.le_refl c)]
theorem tkm_or {A : ST} {P c : Nat} (hP : P < 2 ^ c) : ∀ i, tkm A (P ||| 2 ^ c) i = if c < i then tkm A P i ||| 2 ^ x_th A c else tkm A P i
  | 0 => by simp [tkm]
  | i + 1 => by
    simp only [tkm, tkm_or hP i, tb_or]
    rcases Nat.lt_trichotomy c i with h | h | h
    · simp only [decide_eq_false (show ¬ c = i by omega), Bool.or_false, if_pos h, if_pos (show c < i + 1 by omega), tb_ge hP (show c ≤ i by omega)]
      simp
    · subst h
      simp [tb_ge hP (Nat.le_refl c)]
    · simp only [decide_eq_false (show ¬ c = i by omega), Bool.or_false, if_neg (show ¬ c < i by omega), if_neg (show ¬ c < i + 1 by omega)]
theorem cmk_bit (A : ST) (m y : Nat) : ∀ i o, (cmk A m y i).testBit o = (decide (o < i) && m.testBit o && decide (x_yr A o = y))
  | 0, o => by simp [cmk]
  | i + 1, o => by
    unfold cmk
    split
    · next h =>
      rw [tb_or, cmk_bit A m y i o]
      by_cases e : i = o
      · subst e; simp [h.1, h.2]
      · by_cases e2 : o < i
        · simp [e, e2, show o < i + 1 by omega]
        · simp [e, e2, show ¬ o < i + 1 by omega]
    · next h =>
      rw [cmk_bit A m y i o]
      by_cases e : i = o
      · subst e
        simp only [Nat.lt_irrefl, decide_false, Bool.false_and, Nat.lt_succ_self, decide_true, Bool.true_and]
        cases hb : m.testBit i with
        | false => rfl
        | true =>
          have : ¬ x_yr A i = y := fun q => h ⟨hb, q⟩
          simp [this]
      · by_cases e2 : o < i
        · simp [e2, show o < i + 1 by omega]
        · simp [e2, show ¬ o < i + 1 by omega]
theorem cmk_or {A : ST} {P c y i : Nat} (hi : i ≤ c) : cmk A (P ||| 2 ^ c) y i = cmk A P y i := by
  apply Nat.eq_of_testBit_eq
  intro o
  rw [cmk_bit, cmk_bit, tb_or]
  by_cases h : o < i
  · simp [show ¬ c = o by omega]
  · simp [h]
/-- joins are of one year, and none with itself -/
def jy (A : ST) : Prop := ∀ c o, (x_jt A c).testBit o = true → x_yr A o = x_yr A c ∧ o ≠ c
theorem sw_ext {A : ST} {c s s' : Nat} (h : ∀ o, (x_jt A c).testBit o = true → s.testBit o = s'.testBit o) : sw A c s = sw A c s' := by
  refine sm_congr (fun o _ => ?_)
  simp only [swf, Nat.testBit_and]
  cases hb : (x_jt A c).testBit o with
  | false => simp
  | true => rw [h o hb]
theorem sw_cmk {A : ST} (j : jy A) {P c y : Nat} (hP : P < 2 ^ c) (hy : x_yr A c = y) : sw A c (cmk A P y c) = sw A c P := by
  refine sw_ext (fun o ho => ?_)
  rw [cmk_bit, (j c o ho).1, hy]
  by_cases h : o < c
  · simp [h]
  · simp [h, tb_ge hP (show c ≤ o by omega)]
theorem sw_self {A : ST} (j : jy A) (P c : Nat) : sw A c (P ||| 2 ^ c) = sw A c P := by
  refine sw_ext (fun o ho => ?_)
  rw [tb_or, decide_eq_false (fun q => (j c o ho).2 q.symm), Bool.or_false]
theorem sps_or {A : ST} (j : jy A) {P c : Nat} (hP : P < 2 ^ c) (hc : c < x_nc A) (y : Nat) : sps A (P ||| 2 ^ c) y = sps A P y + (if x_yr A c = y then x_co A c - sw A c P else 0) := by
  refine sm_one hc (fun o ho => ?_) ?_
  · simp only [spf, tb_or, decide_eq_false (Ne.symm ho), Bool.or_false]
    rcases Nat.lt_or_ge c o with h | h
    · simp [tb_ge hP (Nat.le_of_lt h)]
    · rw [cmk_or h]
  · simp only [spf, tb_or, decide_true, Bool.or_true, tb_ge hP (Nat.le_refl c), true_and, cmk_or (Nat.le_refl c)]
    simp only [Bool.false_eq_true, false_and, if_false, Int.zero_add]
    by_cases h : x_yr A c = y
    · rw [if_pos h, if_pos h, sw_cmk j hP h]
    · rw [if_neg h, if_neg h]
theorem xor_or {P c : Nat} (hP : P < 2 ^ c) : P ^^^ 2 ^ c = P ||| 2 ^ c := by
  apply Nat.eq_of_testBit_eq
  intro o
  rw [Nat.testBit_xor, Nat.testBit_two_pow, tb_or]
  by_cases h : c = o
  · subst h; simp [tb_ge hP (Nat.le_refl c)]
  · simp [h]
theorem xor_or' {P c : Nat} (hP : P.testBit c = false) : P ^^^ 2 ^ c = P ||| 2 ^ c := by
  apply Nat.eq_of_testBit_eq
  intro o
  rw [Nat.testBit_xor, Nat.testBit_two_pow, tb_or]
  by_cases h : c = o
  · subst h; simp [hP]
  · simp [h]
theorem or_xor {P c : Nat} (hP : P.testBit c = false) : (P ||| 2 ^ c) ^^^ 2 ^ c = P := by
  apply Nat.eq_of_testBit_eq
  intro o
  rw [Nat.testBit_xor, Nat.testBit_two_pow, tb_or]
  by_cases h : c = o
  · subst h; simp [hP]
  · simp [h]
/-- the rows behind a choice taken in (g 1) or out (g -1) -/
def pkq (A : ST) (q : QS) (c : Nat) (g : Int) (sy : Nat) : QS := q_s_tk (q_s_pk (q_s_sy (q_s_ga (q_s_gi (q_s_sp q (va_up (q_sp q) (x_yr A c) (q_sp q (x_yr A c) + g * (x_co A c - sw A c (q_pk q))))) (va_up (q_gi q) (x_di A (x_th A c)) (q_gi q (x_di A (x_th A c)) + g * x_wo A c))) (q_ga q + g * x_wo A c)) sy) (q_pk q ^^^ 2 ^ c)) (q_tk q ^^^ 2 ^ x_th A c)
theorem pkq_t (A : ST) (q : QS) (c : Nat) (g : Int) (sy : Nat) : pkq A q c g sy = (q_bk q, q_ba q, q_ck q, q_cl q, q_no q, q_mu q, q_od q, q_cm q, q_oe q, q_ud q, q_li q, q_sf q, q_wf q, q_pk q ^^^ 2 ^ c, q_tk q ^^^ 2 ^ x_th A c, sy, q_ga q + g * x_wo A c, va_up (q_sp q) (x_yr A c) (q_sp q (x_yr A c) + g * (x_co A c - sw A c (q_pk q))), va_up (q_gi q) (x_di A (x_th A c)) (q_gi q (x_di A (x_th A c)) + g * x_wo A c), q_be q, q_bc q, q_bw q, q_bs q, q_or q) := by
  simp only [pkq, q_s_tk, q_s_pk, q_s_sy, q_s_ga, q_s_gi, q_s_sp, q_bk, q_ba, q_ck, q_cl, q_no, q_mu, q_od, q_cm, q_oe, q_ud, q_li, q_sf, q_wf, q_pk, q_tk, q_sy, q_ga, q_sp, q_gi, q_be, q_bc, q_bw, q_bs, q_or]
theorem pkq_in {A : ST} (j : jy A) {q : QS} {P c : Nat} (hP : P < 2 ^ c) (hc : c < x_nc A) (hk : (tkm A P (x_nc A)).testBit (x_th A c) = false) : pkq A (pst A q P) c 1 (ysum A P + x_yr A c) = pst A q (P ||| 2 ^ c) := by
  have e1 := xor_or hP
  have e2 : tkm A (P ||| 2 ^ c) (x_nc A) = tkm A P (x_nc A) ^^^ 2 ^ x_th A c := by rw [tkm_or hP, if_pos hc, xor_or' hk]
  have e3 := ysum_or hP hc
  have e4 : wsum A (P ||| 2 ^ c) = wsum A P + 1 * x_wo A c := by rw [wsum_or hP hc]; omega
  have e5 : (fun y => sps A (P ||| 2 ^ c) y) = va_up (fun y => sps A P y) (x_yr A c) (sps A P (x_yr A c) + 1 * (x_co A c - sw A c P)) := by
    funext y
    rw [sps_or j hP hc]
    unfold va_up
    by_cases h : y = x_yr A c
    · rw [if_pos h, if_pos h.symm, h]; omega
    · rw [if_neg h, if_neg (fun z => h z.symm)]; exact Int.add_zero _
  have e6 : (fun d => dsum A (P ||| 2 ^ c) d) = va_up (fun d => dsum A P d) (x_di A (x_th A c)) (dsum A P (x_di A (x_th A c)) + 1 * x_wo A c) := by
    funext d
    rw [dsum_or hP hc]
    unfold va_up
    by_cases h : d = x_di A (x_th A c)
    · rw [if_pos h, if_pos h.symm, h]; omega
    · rw [if_neg h, if_neg (fun z => h z.symm)]; exact Int.add_zero _
  rw [pkq_t]
  show (q_bk q, q_ba q, q_ck q, q_cl q, q_no q, q_mu q, q_od q, q_cm q, q_oe q, q_ud q, q_li q, q_sf q, q_wf q, P ^^^ 2 ^ c, tkm A P (x_nc A) ^^^ 2 ^ x_th A c, ysum A P + x_yr A c, wsum A P + 1 * x_wo A c, va_up (fun y => sps A P y) (x_yr A c) (sps A P (x_yr A c) + 1 * (x_co A c - sw A c P)), va_up (fun d => dsum A P d) (x_di A (x_th A c)) (dsum A P (x_di A (x_th A c)) + 1 * x_wo A c), q_be q, q_bc q, q_bw q, q_bs q, q_or q) = pst A q (P ||| 2 ^ c)
  unfold pst
  rw [e2, e3, e4, e5, e6, e1]
theorem pkq_out {A : ST} (j : jy A) {q : QS} {P c : Nat} (hP : P < 2 ^ c) (hc : c < x_nc A) (hk : (tkm A P (x_nc A)).testBit (x_th A c) = false) : pkq A (pst A q (P ||| 2 ^ c)) c (-1) (ysum A P) = pst A q P := by
  have e1 := or_xor (tb_ge hP (Nat.le_refl c))
  have e2 : tkm A (P ||| 2 ^ c) (x_nc A) ^^^ 2 ^ x_th A c = tkm A P (x_nc A) := by rw [tkm_or hP, if_pos hc, or_xor hk]
  have e4 : wsum A (P ||| 2 ^ c) + -1 * x_wo A c = wsum A P := by rw [wsum_or hP hc]; omega
  have e5 : va_up (fun y => sps A (P ||| 2 ^ c) y) (x_yr A c) (sps A (P ||| 2 ^ c) (x_yr A c) + -1 * (x_co A c - sw A c (P ||| 2 ^ c))) = (fun y => sps A P y) := by
    funext y
    unfold va_up
    by_cases h : y = x_yr A c
    · rw [if_pos h, sps_or j hP hc, if_pos rfl, sw_self j, h]; omega
    · rw [if_neg h]; show sps A (P ||| 2 ^ c) y = _; rw [sps_or j hP hc, if_neg (fun z => h z.symm)]; omega
  have e6 : va_up (fun d => dsum A (P ||| 2 ^ c) d) (x_di A (x_th A c)) (dsum A (P ||| 2 ^ c) (x_di A (x_th A c)) + -1 * x_wo A c) = (fun d => dsum A P d) := by
    funext d
    unfold va_up
    by_cases h : d = x_di A (x_th A c)
    · rw [if_pos h, dsum_or hP hc, if_pos rfl, h]; omega
    · rw [if_neg h]; show dsum A (P ||| 2 ^ c) d = _; rw [dsum_or hP hc, if_neg (fun z => h z.symm)]; omega
  rw [pkq_t]
  show (q_bk q, q_ba q, q_ck q, q_cl q, q_no q, q_mu q, q_od q, q_cm q, q_oe q, q_ud q, q_li q, q_sf q, q_wf q, (P ||| 2 ^ c) ^^^ 2 ^ c, tkm A (P ||| 2 ^ c) (x_nc A) ^^^ 2 ^ x_th A c, ysum A P, wsum A (P ||| 2 ^ c) + -1 * x_wo A c, va_up (fun y => sps A (P ||| 2 ^ c) y) (x_yr A c) (sps A (P ||| 2 ^ c) (x_yr A c) + -1 * (x_co A c - sw A c (P ||| 2 ^ c))), va_up (fun d => dsum A (P ||| 2 ^ c) d) (x_di A (x_th A c)) (dsum A (P ||| 2 ^ c) (x_di A (x_th A c)) + -1 * x_wo A c), q_be q, q_bc q, q_bw q, q_bs q, q_or q) = pst A q P
  rw [e1, e2, e4, e5, e6]
  rfl
theorem sub_y {a y : Nat} (h : y ≤ a) : nI a + (-1) * nI y = nI (a - y) := by
  rw [← pk_sub h]
  apply Int32.toBitVec_inj.mp
  simp only [Int32.toBitVec_add, Int32.toBitVec_mul, Int32.toBitVec_sub, Int32.toBitVec_neg]
  rw [show ((1 : Int32).toBitVec) = 1#32 from rfl]
  rw [BitVec.neg_mul, BitVec.one_mul, ← BitVec.sub_eq_add_neg]
theorem c_S_pick1 (sc : am_S) (A : ST) (q : QS) (D : ST) (t : TS) (c : Nat) (b : bd A) (hc : c < 14) (hpk : q_pk q < 16384) : AM sc m_S_pick 1 [.ref 26, .int (nI c), .int 1] (hp A q D t) (none) (hp A (pkq A q c 1 (q_sy q + x_yr A c)) D t) := by
  refine AM.of (by decide) (Nat.le_of_ble_eq_true rfl) ?_
  show AW sc m_S_pick 1 0 [some (.ref 26), some (.int (nI c)), some (.int 1), none, none, none] [] _ _ _
  have b4 := b.2.2.2.1 c
  have b5 := b.2.2.2.2.1 c
  have b6 := b.2.2.2.2.2.1 (x_th A c)
  refine aw_aload_n 0 q_S_pick_0 rfl rfl ?_
  refine aw_get 0 q_S_pick_1 fl_S_29 rfl rfl ?_
  refine aw_get 7 q_S_pick_4 fl_S_100 rfl rfl ?_
  refine aw_iload_n 1 q_S_pick_7 rfl rfl ?_
  refine aw_ialdN q_S_pick_8 rfl (by omega) rfl ?_
  refine aw_istore_n 3 q_S_pick_9 rfl rfl rfl ?_
  refine aw_aload_n 0 q_S_pick_10 rfl rfl ?_
  refine aw_get 0 q_S_pick_11 fl_S_29 rfl rfl ?_
  refine aw_get 9 q_S_pick_14 fl_S_97 rfl rfl ?_
  refine aw_iload_n 1 q_S_pick_17 rfl rfl ?_
  refine aw_laldN q_S_pick_18 rfl (by omega) rfl ?_
  refine aw_lstore q_S_pick_19 rfl rfl ?_
  refine aw_aload_n 0 q_S_pick_21 rfl rfl ?_
  refine aw_get 14 q_S_pick_22 fl_S_23 rfl rfl ?_
  refine aw_iload_n 3 q_S_pick_25 rfl rfl ?_
  refine aw_dup2_11 q_S_pick_26 rfl rfl ?_
  refine aw_laldN q_S_pick_27 rfl (by omega) rfl ?_
  refine aw_iload_n 2 q_S_pick_28 rfl rfl ?_
  refine aw_i2l q_S_pick_29 ?_
  refine aw_aload_n 0 q_S_pick_30 rfl rfl ?_
  refine aw_get 0 q_S_pick_31 fl_S_29 rfl rfl ?_
  refine aw_get 8 q_S_pick_34 fl_S_135 rfl rfl ?_
  refine aw_iload_n 1 q_S_pick_37 rfl rfl ?_
  refine aw_laldN q_S_pick_38 rfl (by omega) rfl ?_
  refine aw_aload_n 0 q_S_pick_39 rfl rfl ?_
  refine aw_get 0 q_S_pick_40 fl_S_29 rfl rfl ?_
  refine aw_iload_n 1 q_S_pick_43 rfl rfl ?_
  refine aw_aload_n 0 q_S_pick_44 rfl rfl ?_
  refine aw_get 10 q_S_pick_45 fl_S_76 rfl rfl ?_
  refine aw_V2 q_S_pick_48 st_S_104 rfl (by omega) (Nat.le_of_ble_eq_true rfl) (c_W_savesWith _ _ _ _ _ _ _ b hc) ?_
  refine aw_lsub q_S_pick_51 ?_
  refine aw_lmul q_S_pick_52 ?_
  refine aw_ladd q_S_pick_53 ?_
  rw [lZ_sub, show (1 : Int32).toInt64 = lZ 1 from by decide, lZ_mul, lZ_add]
  refine wa_44 _ q_S_pick_54 (by omega) ?_
  refine aw_aload_n 0 q_S_pick_55 rfl rfl ?_
  refine aw_get 15 q_S_pick_56 fl_S_26 rfl rfl ?_
  refine aw_aload_n 0 q_S_pick_59 rfl rfl ?_
  refine aw_get 0 q_S_pick_60 fl_S_29 rfl rfl ?_
  refine aw_iload_n 1 q_S_pick_63 rfl rfl ?_
  refine aw_V1 q_S_pick_64 st_S_138 rfl (by omega) (Nat.le_of_ble_eq_true rfl) (c_W_districtOfChoice _ _ _ _ _ _ hc b4) ?_
  refine aw_dup2_11 q_S_pick_67 rfl rfl ?_
  refine aw_laldN q_S_pick_68 rfl (by omega) rfl ?_
  refine aw_iload_n 2 q_S_pick_69 rfl rfl ?_
  refine aw_i2l q_S_pick_70 ?_
  refine aw_lload q_S_pick_71 rfl ?_
  refine aw_lmul q_S_pick_73 ?_
  refine aw_ladd q_S_pick_74 ?_
  rw [show (1 : Int32).toInt64 = lZ 1 from by decide, lZ_mul, lZ_add]
  refine wa_45 _ q_S_pick_75 (by omega) ?_
  refine aw_aload_n 0 q_S_pick_76 rfl rfl ?_
  refine aw_dup q_S_pick_77 rfl ?_
  refine aw_get 13 q_S_pick_78 fl_S_85 rfl rfl ?_
  refine aw_iload_n 2 q_S_pick_81 rfl rfl ?_
  refine aw_i2l q_S_pick_82 ?_
  refine aw_lload q_S_pick_83 rfl ?_
  refine aw_lmul q_S_pick_85 ?_
  refine aw_ladd q_S_pick_86 ?_
  rw [show (1 : Int32).toInt64 = lZ 1 from by decide, lZ_mul, lZ_add]
  refine wp_S_13 _ q_S_pick_87 fl_S_85 ?_
  refine aw_aload_n 0 q_S_pick_90 rfl rfl ?_
  refine aw_dup q_S_pick_91 rfl ?_
  refine aw_get 12 q_S_pick_92 fl_S_82 rfl rfl ?_
  refine aw_iload_n 2 q_S_pick_95 rfl rfl ?_
  refine aw_iload_n 3 q_S_pick_96 rfl rfl ?_
  refine aw_imul q_S_pick_97 ?_
  refine aw_iadd q_S_pick_98 ?_
  rw [show (1 : Int32) = nI 1 from rfl, pk_mul, nI_add, Nat.one_mul]
  refine wp_S_12 _ q_S_pick_99 fl_S_82 ?_
  refine aw_aload_n 0 q_S_pick_102 rfl rfl ?_
  refine aw_dup q_S_pick_103 rfl ?_
  refine aw_get 10 q_S_pick_104 fl_S_76 rfl rfl ?_
  refine aw_iconst 1 q_S_pick_107 rfl ?_
  refine aw_iload_n 1 q_S_pick_108 rfl rfl ?_
  refine aw_ishl q_S_pick_109 ?_
  refine aw_ixor q_S_pick_110 ?_
  rw [bt_one (by omega), nI_xor]
  refine wp_S_10 _ q_S_pick_111 fl_S_76 ?_
  refine aw_aload_n 0 q_S_pick_114 rfl rfl ?_
  refine aw_dup q_S_pick_115 rfl ?_
  refine aw_get 11 q_S_pick_116 fl_S_79 rfl rfl ?_
  refine aw_iconst 1 q_S_pick_119 rfl ?_
  refine aw_aload_n 0 q_S_pick_120 rfl rfl ?_
  refine aw_get 0 q_S_pick_121 fl_S_29 rfl rfl ?_
  refine aw_get 6 q_S_pick_124 fl_S_121 rfl rfl ?_
  refine aw_iload_n 1 q_S_pick_127 rfl rfl ?_
  refine aw_ialdN q_S_pick_128 rfl (by omega) rfl ?_
  refine aw_ishl q_S_pick_129 ?_
  refine aw_ixor q_S_pick_130 ?_
  rw [bt_one (by omega), nI_xor]
  refine wp_S_11 _ q_S_pick_131 fl_S_79 ?_
  exact aw_vret q_S_pick_134 rfl rfl rfl
theorem c_S_pickm (sc : am_S) (A : ST) (q : QS) (D : ST) (t : TS) (c : Nat) (b : bd A) (hc : c < 14) (hpk : q_pk q < 16384) (hy : x_yr A c ≤ q_sy q) : AM sc m_S_pick 1 [.ref 26, .int (nI c), .int (-1)] (hp A q D t) (none) (hp A (pkq A q c (-1) (q_sy q - x_yr A c)) D t) := by
  refine AM.of (by decide) (Nat.le_of_ble_eq_true rfl) ?_
  show AW sc m_S_pick 1 0 [some (.ref 26), some (.int (nI c)), some (.int (-1)), none, none, none] [] _ _ _
  have b4 := b.2.2.2.1 c
  have b5 := b.2.2.2.2.1 c
  have b6 := b.2.2.2.2.2.1 (x_th A c)
  refine aw_aload_n 0 q_S_pick_0 rfl rfl ?_
  refine aw_get 0 q_S_pick_1 fl_S_29 rfl rfl ?_
  refine aw_get 7 q_S_pick_4 fl_S_100 rfl rfl ?_
  refine aw_iload_n 1 q_S_pick_7 rfl rfl ?_
  refine aw_ialdN q_S_pick_8 rfl (by omega) rfl ?_
  refine aw_istore_n 3 q_S_pick_9 rfl rfl rfl ?_
  refine aw_aload_n 0 q_S_pick_10 rfl rfl ?_
  refine aw_get 0 q_S_pick_11 fl_S_29 rfl rfl ?_
  refine aw_get 9 q_S_pick_14 fl_S_97 rfl rfl ?_
  refine aw_iload_n 1 q_S_pick_17 rfl rfl ?_
  refine aw_laldN q_S_pick_18 rfl (by omega) rfl ?_
  refine aw_lstore q_S_pick_19 rfl rfl ?_
  refine aw_aload_n 0 q_S_pick_21 rfl rfl ?_
  refine aw_get 14 q_S_pick_22 fl_S_23 rfl rfl ?_
  refine aw_iload_n 3 q_S_pick_25 rfl rfl ?_
  refine aw_dup2_11 q_S_pick_26 rfl rfl ?_
  refine aw_laldN q_S_pick_27 rfl (by omega) rfl ?_
  refine aw_iload_n 2 q_S_pick_28 rfl rfl ?_
  refine aw_i2l q_S_pick_29 ?_
  refine aw_aload_n 0 q_S_pick_30 rfl rfl ?_
  refine aw_get 0 q_S_pick_31 fl_S_29 rfl rfl ?_
  refine aw_get 8 q_S_pick_34 fl_S_135 rfl rfl ?_
  refine aw_iload_n 1 q_S_pick_37 rfl rfl ?_
  refine aw_laldN q_S_pick_38 rfl (by omega) rfl ?_
  refine aw_aload_n 0 q_S_pick_39 rfl rfl ?_
  refine aw_get 0 q_S_pick_40 fl_S_29 rfl rfl ?_
  refine aw_iload_n 1 q_S_pick_43 rfl rfl ?_
  refine aw_aload_n 0 q_S_pick_44 rfl rfl ?_
  refine aw_get 10 q_S_pick_45 fl_S_76 rfl rfl ?_
  refine aw_V2 q_S_pick_48 st_S_104 rfl (by omega) (Nat.le_of_ble_eq_true rfl) (c_W_savesWith _ _ _ _ _ _ _ b hc) ?_
  refine aw_lsub q_S_pick_51 ?_
  refine aw_lmul q_S_pick_52 ?_
  refine aw_ladd q_S_pick_53 ?_
  rw [lZ_sub, show ((-1) : Int32).toInt64 = lZ (-1) from by decide, lZ_mul, lZ_add]
  refine wa_44 _ q_S_pick_54 (by omega) ?_
  refine aw_aload_n 0 q_S_pick_55 rfl rfl ?_
  refine aw_get 15 q_S_pick_56 fl_S_26 rfl rfl ?_
  refine aw_aload_n 0 q_S_pick_59 rfl rfl ?_
  refine aw_get 0 q_S_pick_60 fl_S_29 rfl rfl ?_
  refine aw_iload_n 1 q_S_pick_63 rfl rfl ?_
  refine aw_V1 q_S_pick_64 st_S_138 rfl (by omega) (Nat.le_of_ble_eq_true rfl) (c_W_districtOfChoice _ _ _ _ _ _ hc b4) ?_
  refine aw_dup2_11 q_S_pick_67 rfl rfl ?_
  refine aw_laldN q_S_pick_68 rfl (by omega) rfl ?_
  refine aw_iload_n 2 q_S_pick_69 rfl rfl ?_
  refine aw_i2l q_S_pick_70 ?_
  refine aw_lload q_S_pick_71 rfl ?_
  refine aw_lmul q_S_pick_73 ?_
  refine aw_ladd q_S_pick_74 ?_
  rw [show ((-1) : Int32).toInt64 = lZ (-1) from by decide, lZ_mul, lZ_add]
  refine wa_45 _ q_S_pick_75 (by omega) ?_
  refine aw_aload_n 0 q_S_pick_76 rfl rfl ?_
  refine aw_dup q_S_pick_77 rfl ?_
  refine aw_get 13 q_S_pick_78 fl_S_85 rfl rfl ?_
  refine aw_iload_n 2 q_S_pick_81 rfl rfl ?_
  refine aw_i2l q_S_pick_82 ?_
  refine aw_lload q_S_pick_83 rfl ?_
  refine aw_lmul q_S_pick_85 ?_
  refine aw_ladd q_S_pick_86 ?_
  rw [show ((-1) : Int32).toInt64 = lZ (-1) from by decide, lZ_mul, lZ_add]
  refine wp_S_13 _ q_S_pick_87 fl_S_85 ?_
  refine aw_aload_n 0 q_S_pick_90 rfl rfl ?_
  refine aw_dup q_S_pick_91 rfl ?_
  refine aw_get 12 q_S_pick_92 fl_S_82 rfl rfl ?_
  refine aw_iload_n 2 q_S_pick_95 rfl rfl ?_
  refine aw_iload_n 3 q_S_pick_96 rfl rfl ?_
  refine aw_imul q_S_pick_97 ?_
  refine aw_iadd q_S_pick_98 ?_
  rw [sub_y (by exact hy)]
  refine wp_S_12 _ q_S_pick_99 fl_S_82 ?_
  refine aw_aload_n 0 q_S_pick_102 rfl rfl ?_
  refine aw_dup q_S_pick_103 rfl ?_
  refine aw_get 10 q_S_pick_104 fl_S_76 rfl rfl ?_
  refine aw_iconst 1 q_S_pick_107 rfl ?_
  refine aw_iload_n 1 q_S_pick_108 rfl rfl ?_
  refine aw_ishl q_S_pick_109 ?_
  refine aw_ixor q_S_pick_110 ?_
  rw [bt_one (by omega), nI_xor]
  refine wp_S_10 _ q_S_pick_111 fl_S_76 ?_
  refine aw_aload_n 0 q_S_pick_114 rfl rfl ?_
  refine aw_dup q_S_pick_115 rfl ?_
  refine aw_get 11 q_S_pick_116 fl_S_79 rfl rfl ?_
  refine aw_iconst 1 q_S_pick_119 rfl ?_
  refine aw_aload_n 0 q_S_pick_120 rfl rfl ?_
  refine aw_get 0 q_S_pick_121 fl_S_29 rfl rfl ?_
  refine aw_get 6 q_S_pick_124 fl_S_121 rfl rfl ?_
  refine aw_iload_n 1 q_S_pick_127 rfl rfl ?_
  refine aw_ialdN q_S_pick_128 rfl (by omega) rfl ?_
  refine aw_ishl q_S_pick_129 ?_
  refine aw_ixor q_S_pick_130 ?_
  rw [bt_one (by omega), nI_xor]
  refine wp_S_11 _ q_S_pick_131 fl_S_79 ?_
  exact aw_vret q_S_pick_134 rfl rfl rfl
end
section
/-! CONTRACTS 8: the search itself -/
theorem ps_bk (A : ST) (q : QS) (P : Nat) : q_bk (pst A q P) = q_bk q := by simp only [pst, q_bk]
theorem zq_bk (q : QS) (z : Z4) : q_bk (zq q z) = q_bk q := by simp only [zq, q_bk]
theorem ps_ba (A : ST) (q : QS) (P : Nat) : q_ba (pst A q P) = q_ba q := by simp only [pst, q_ba]
theorem zq_ba (q : QS) (z : Z4) : q_ba (zq q z) = q_ba q := by simp only [zq, q_ba]
theorem ps_ck (A : ST) (q : QS) (P : Nat) : q_ck (pst A q P) = q_ck q := by simp only [pst, q_ck]
theorem zq_ck (q : QS) (z : Z4) : q_ck (zq q z) = q_ck q := by simp only [zq, q_ck]
theorem ps_cl (A : ST) (q : QS) (P : Nat) : q_cl (pst A q P) = q_cl q := by simp only [pst, q_cl]
theorem zq_cl (q : QS) (z : Z4) : q_cl (zq q z) = q_cl q := by simp only [zq, q_cl]
theorem ps_no (A : ST) (q : QS) (P : Nat) : q_no (pst A q P) = q_no q := by simp only [pst, q_no]
theorem zq_no (q : QS) (z : Z4) : q_no (zq q z) = q_no q := by simp only [zq, q_no]
theorem ps_mu (A : ST) (q : QS) (P : Nat) : q_mu (pst A q P) = q_mu q := by simp only [pst, q_mu]
theorem zq_mu (q : QS) (z : Z4) : q_mu (zq q z) = q_mu q := by simp only [zq, q_mu]
theorem ps_od (A : ST) (q : QS) (P : Nat) : q_od (pst A q P) = q_od q := by simp only [pst, q_od]
theorem zq_od (q : QS) (z : Z4) : q_od (zq q z) = q_od q := by simp only [zq, q_od]
theorem ps_cm (A : ST) (q : QS) (P : Nat) : q_cm (pst A q P) = q_cm q := by simp only [pst, q_cm]
theorem zq_cm (q : QS) (z : Z4) : q_cm (zq q z) = q_cm q := by simp only [zq, q_cm]
theorem ps_oe (A : ST) (q : QS) (P : Nat) : q_oe (pst A q P) = q_oe q := by simp only [pst, q_oe]
theorem zq_oe (q : QS) (z : Z4) : q_oe (zq q z) = q_oe q := by simp only [zq, q_oe]
theorem ps_ud (A : ST) (q : QS) (P : Nat) : q_ud (pst A q P) = q_ud q := by simp only [pst, q_ud]
theorem zq_ud (q : QS) (z : Z4) : q_ud (zq q z) = q_ud q := by simp only [zq, q_ud]
theorem ps_li (A : ST) (q : QS) (P : Nat) : q_li (pst A q P) = q_li q := by simp only [pst, q_li]
theorem zq_li (q : QS) (z : Z4) : q_li (zq q z) = q_li q := by simp only [zq, q_li]
theorem ps_sf (A : ST) (q : QS) (P : Nat) : q_sf (pst A q P) = q_sf q := by simp only [pst, q_sf]
theorem zq_sf (q : QS) (z : Z4) : q_sf (zq q z) = q_sf q := by simp only [zq, q_sf]
theorem ps_wf (A : ST) (q : QS) (P : Nat) : q_wf (pst A q P) = q_wf q := by simp only [pst, q_wf]
theorem zq_wf (q : QS) (z : Z4) : q_wf (zq q z) = q_wf q := by simp only [zq, q_wf]
theorem ps_pk (A : ST) (q : QS) (P : Nat) : q_pk (pst A q P) = P := by simp only [pst, q_pk]
theorem zq_pk (q : QS) (z : Z4) : q_pk (zq q z) = q_pk q := by simp only [zq, q_pk]
theorem ps_tk (A : ST) (q : QS) (P : Nat) : q_tk (pst A q P) = tkm A P (x_nc A) := by simp only [pst, q_tk]
theorem zq_tk (q : QS) (z : Z4) : q_tk (zq q z) = q_tk q := by simp only [zq, q_tk]
theorem ps_sy (A : ST) (q : QS) (P : Nat) : q_sy (pst A q P) = ysum A P := by simp only [pst, q_sy]
theorem zq_sy (q : QS) (z : Z4) : q_sy (zq q z) = q_sy q := by simp only [zq, q_sy]
theorem ps_ga (A : ST) (q : QS) (P : Nat) : q_ga (pst A q P) = wsum A P := by simp only [pst, q_ga]
theorem zq_ga (q : QS) (z : Z4) : q_ga (zq q z) = q_ga q := by simp only [zq, q_ga]
theorem ps_sp (A : ST) (q : QS) (P : Nat) : q_sp (pst A q P) = (fun y => sps A P y) := by simp only [pst, q_sp]
theorem zq_sp (q : QS) (z : Z4) : q_sp (zq q z) = q_sp q := by simp only [zq, q_sp]
theorem ps_gi (A : ST) (q : QS) (P : Nat) : q_gi (pst A q P) = (fun d => dsum A P d) := by simp only [pst, q_gi]
theorem zq_gi (q : QS) (z : Z4) : q_gi (zq q z) = q_gi q := by simp only [zq, q_gi]
theorem ps_be (A : ST) (q : QS) (P : Nat) : q_be (pst A q P) = q_be q := by simp only [pst, q_be]
theorem zq_be (q : QS) (z : Z4) : q_be (zq q z) = z.1 := by simp only [zq, q_be]
theorem ps_bc (A : ST) (q : QS) (P : Nat) : q_bc (pst A q P) = q_bc q := by simp only [pst, q_bc]
theorem zq_bc (q : QS) (z : Z4) : q_bc (zq q z) = z.2.1 := by simp only [zq, q_bc]
theorem ps_bw (A : ST) (q : QS) (P : Nat) : q_bw (pst A q P) = q_bw q := by simp only [pst, q_bw]
theorem zq_bw (q : QS) (z : Z4) : q_bw (zq q z) = z.2.2.1 := by simp only [zq, q_bw]
theorem ps_bs (A : ST) (q : QS) (P : Nat) : q_bs (pst A q P) = q_bs q := by simp only [pst, q_bs]
theorem zq_bs (q : QS) (z : Z4) : q_bs (zq q z) = z.2.2.2 := by simp only [zq, q_bs]
theorem ps_or (A : ST) (q : QS) (P : Nat) : q_or (pst A q P) = q_or q := by simp only [pst, q_or]
theorem zq_or (q : QS) (z : Z4) : q_or (zq q z) = q_or q := by simp only [zq, q_or]
theorem ovs_zq (A : ST) (q : QS) (z : Z4) (P c : Nat) : ovs A (pst A (zq q z) P) c = ovs A (pst A q P) c := by simp only [ovs, ps_li, ps_sp, ps_sf, zq_li, zq_sf]
def bqf (q : QS) : Prop := q_cm q < 16384 ∧ (∀ c, -1000000000000 ≤ q_wf q c ∧ q_wf q c ≤ 1000000000000) ∧ (∀ a y, -1000000000000 ≤ q_sf q a y ∧ q_sf q a y ≤ 1000000000000) ∧ (∀ y, -1000000000000 ≤ q_li q y ∧ q_li q y ≤ 1000000000000) ∧ q_ud q < 16 ∧ q_mu q < 16384 ∧ (0 ≤ q_no q ∧ q_no q ≤ 1000000)
def jz (z : Z4) : Prop := (∀ m, z.1 = some m → m < 16384) ∧ z.2.1 < 100 ∧ (-1000000000000 ≤ z.2.2.1 ∧ z.2.2.1 ≤ 1000000000000) ∧ z.2.2.2 < 1000
theorem ysum_lt {A : ST} (b : bd A) (m : Nat) : ysum A m < 100 := by
  have h := nsm_le (n := x_nc A) (b := 5) (f := fun c => if m.testBit c = true then x_yr A c else 0) (fun i _ => by
    have := b.2.2.2.2.1 i
    split <;> omega)
  have := b.2.2.1
  unfold ysum
  omega
theorem bq_pst {A : ST} (b : bd A) {q : QS} (f : bqf q) {z : Z4} (hz : jz z) {P : Nat} (hP : P < 16384) : bq (pst A (zq q z) P) := by
  have w := wsum_bd b P
  have s := fun y => sps_bd b P y
  have g := fun d => dsum_bd b P d
  have y := ysum_lt b P
  have k := tkm_lt b P (x_nc A)
  refine ⟨f.1, hz.1, hz.2.1, ⟨?_, ?_⟩, f.2.1, hz.2.2.1, ⟨?_, hz.2.2.2⟩, fun y => ⟨?_, ?_⟩, f.2.2.1, f.2.2.2.1, fun d => ⟨?_, ?_⟩, f.2.2.2.2.1, hP, ?_, f.2.2.2.2.2.1, f.2.2.2.2.2.2⟩
  · show -1000000000000 ≤ wsum A P; omega
  · show wsum A P ≤ 1000000000000; omega
  · show ysum A P < 1000; omega
  · show -1000000000000 ≤ sps A P y; have := s y; omega
  · show sps A P y ≤ 1000000000000; have := s y; omega
  · show -1000000000000 ≤ dsum A P d; have := g d; omega
  · show dsum A P d ≤ 1000000000000; have := g d; omega
  · show tkm A P (x_nc A) < 16384; omega
/-- the best so far behind a set that was looked at -/
def stp (A : ST) (q : QS) (z : Z4) (P : Nat) : Z4 := if (fai (x_fa A) (q_ud q) (fun d => dsum A P d) && (z.1.isNone || isb (pst A (zq q z) P) (chg (pst A (zq q z) P) (q_cm q)))) = true then (some P, chg (pst A (zq q z) P) (q_cm q), wsum A P, ysum A P) else z
theorem chg_le (q : QS) (e : Nat) : chg q e ≤ 14 := pcr_le _ _
theorem stp_jz {A : ST} (b : bd A) {q : QS} {z : Z4} (hz : jz z) {P : Nat} (hP : P < 16384) : jz (stp A q z P) := by
  unfold stp
  split
  · have w := wsum_bd b P
    have y := ysum_lt b P
    have c := chg_le (pst A (zq q z) P) (q_cm q)
    refine ⟨fun m h => ?_, ?_, ⟨?_, ?_⟩, ?_⟩
    · cases h; exact hP
    · show chg _ _ < 100; omega
    · show -1000000000000 ≤ wsum A P; omega
    · show wsum A P ≤ 1000000000000; omega
    · show ysum A P < 1000; omega
  · exact hz
theorem wgh_t (q : QS) (a : Option Nat) (e : Nat) (f : Int) (g : Nat) : q_s_bs (q_s_bw (q_s_bc (q_s_be q a) e) f) g = zq q (a, e, f, g) := by
  simp only [q_s_bs, q_s_bw, q_s_bc, q_s_be, zq, q_bk, q_ba, q_ck, q_cl, q_no, q_mu, q_od, q_cm, q_oe, q_ud, q_li, q_sf, q_wf, q_pk, q_tk, q_sy, q_ga, q_sp, q_gi, q_be, q_bc, q_bw, q_bs, q_or]
theorem wgh_pst (A : ST) (q : QS) (z : Z4) (P : Nat) : wgh A (pst A (zq q z) P) = pst A (zq q (stp A q z P)) P := by
  unfold wgh stp
  by_cases h : (fai (x_fa A) (q_ud q) (fun d => dsum A P d) && (z.1.isNone || isb (pst A (zq q z) P) (chg (pst A (zq q z) P) (q_cm q)))) = true
  · rw [if_pos h]
    refine (if_pos h).trans ?_
    rw [wgh_t]
    rfl
  · rw [if_neg h]
    exact if_neg h
def hopf (A : ST) (q : QS) (k P : Nat) (z : Z4) : Bool := hpl (pst A (zq q z) P) (x_nc A - k)
def bdW (A : ST) (q : QS) (k P : Nat) : Bool := (tkm A P (x_nc A)).testBit (x_th A (x_nc A - k)) || ovs A (pst A q (P ||| 2 ^ (x_nc A - k))) (x_nc A - k)
def bdO (A : ST) (q : QS) (k P : Nat) : Bool := (q_mu q).testBit (x_nc A - k) || ovs A (pst A q P) (x_nc A - k)
/-- what the search leaves as the best -/
def SR (A : ST) (q : QS) (N k b P : Nat) (z : Z4) : Z4 := sr (x_nc A) N (hopf A q) (bdW A q) (bdO A q) (stp A q) k b P z
theorem SR_cut {A : ST} {q : QS} {N k b P : Nat} {z : Z4} (h : N ≤ b ∨ hopf A q k P z = true) : SR A q N k b P z = z := by
  cases k with
  | zero => exact if_pos h
  | succ k => exact if_pos h
theorem SR_leaf {A : ST} {q : QS} {N b P : Nat} {z : Z4} (h1 : ¬ N ≤ b) (h2 : hopf A q 0 P z = false) : SR A q N 0 b P z = stp A q z P := if_neg (by rintro (x | x); exact h1 x; rw [h2] at x; cases x)
def SW (A : ST) (q : QS) (N k b P : Nat) (z : Z4) : Z4 := if bdW A q (k + 1) P = true then z else SR A q N k b (P ||| 2 ^ (x_nc A - (k + 1))) z
def SO (A : ST) (q : QS) (N k b P : Nat) (z : Z4) : Z4 := if bdO A q (k + 1) P = true then z else SR A q N k b P z
theorem SR_go {A : ST} {q : QS} {N k b P : Nat} {z : Z4} (h1 : ¬ N ≤ b) (h2 : hopf A q (k + 1) P z = false) : SR A q N (k + 1) b P z = SO A q N k (b + 2 ^ k) P (SW A q N k b P z) := if_neg (by rintro (x | x); exact h1 x; rw [h2] at x; cases x)
theorem or_lt' {P c : Nat} (h : P < 2 ^ c) : P ||| 2 ^ c < 2 ^ (c + 1) := or_lt (Nat.lt_trans h (Nat.pow_lt_pow_right (by decide) (by omega))) (Nat.pow_lt_pow_right (by decide) (by omega))
theorem SR_jz {A : ST} (b : bd A) {q : QS} {N : Nat} : ∀ (k c bb P : Nat) (z : Z4), c + k = x_nc A → P < 2 ^ c → jz z → jz (SR A q N k bb P z)
  | 0, c, bb, P, z, hc, hP, hz => by
    have h14 := p14 (i := c) (by have := b.2.2.1; omega)
    by_cases h : N ≤ bb ∨ hopf A q 0 P z = true
    · rw [SR_cut h]; exact hz
    · rw [SR_leaf (fun x => h (Or.inl x)) (by simpa using fun x => h (Or.inr x))]
      exact stp_jz b hz (by omega)
  | k + 1, c, bb, P, z, hc, hP, hz => by
    by_cases h : N ≤ bb ∨ hopf A q (k + 1) P z = true
    · rw [SR_cut h]; exact hz
    · rw [SR_go (fun x => h (Or.inl x)) (by simpa using fun x => h (Or.inr x))]
      have e : x_nc A - (k + 1) = c := by omega
      have hw : jz (SW A q N k bb P z) := by
        unfold SW
        split
        · exact hz
        · rw [e]
          exact SR_jz b k (c + 1) bb _ z (by omega) (or_lt' hP) hz
      unfold SO
      split
      · exact hw
      · exact SR_jz b k (c + 1) _ P _ (by omega) (Nat.lt_trans hP (Nat.pow_lt_pow_right (by decide) (by omega))) hw
theorem ls_dec : ∀ e, e < 14 → (lZ 1) <<< ((nI e).toInt64 &&& 63) = lZ ((2 ^ e : Nat) : Int) := by decide +kernel
end
section
theorem c_S_lookWithout (sc : am_S) (A : ST) (q : QS) (D : ST) (t : TS) (N k c : Nat) (b : bd A) (j : jy A) (f : bqf q) (hfa : -1 ≤ x_fa A ∧ x_fa A ≤ 10000000) (hN : q_no q = (N : Int)) (hc : c + (k + 1) = x_nc A) (IH : ∀ (P bb : Nat) (z : Z4), P < 2 ^ (c + 1) → jz z → bb + 2 ^ k ≤ 100000 → AM sc m_S_lookFrom (2 * k + 4) [.ref 26, .int (nI (c + 1)), .long (lZ (bb : Int))] (hp A (pst A (zq q z) P) D t) none (hp A (pst A (zq q (SR A q N k bb P z)) P) D t)) (P bb : Nat) (z : Z4) (hP : P < 2 ^ c) (hz : jz z) (hbb : bb + 2 ^ k ≤ 100000) : AM sc m_S_lookWithout (2 * k + 5) [.ref 26, .int (nI c), .long (lZ (bb : Int))] (hp A (pst A (zq q z) P) D t) (none) (hp A (pst A (zq q (SO A q N k bb P z)) P) D t) := by
  refine AM.of (by decide) (Nat.le_of_ble_eq_true rfl) ?_
  show AW sc m_S_lookWithout (2 * k + 5) 0 [some (.ref 26), some (.int (nI c)), some (.long (lZ (bb : Int))), none] [] _ _ _
  have b3 := b.2.2.1
  have hmu := f.2.2.2.2.2.1
  have h14 := p14 (i := c) (by omega)
  have ec : x_nc A - (k + 1) = c := by omega
  have hP2 : P < 2 ^ (c + 1) := Nat.lt_trans hP (Nat.pow_lt_pow_right (by decide) (by omega))
  refine aw_aload_n 0 q_S_lookWithout_0 rfl rfl ?_
  refine aw_get 2 q_S_lookWithout_1 fl_S_70 rfl rfl ?_
  simp only [ps_bk, ps_ba, ps_ck, ps_cl, ps_no, ps_mu, ps_od, ps_cm, ps_oe, ps_ud, ps_li, ps_sf, ps_wf, ps_pk, ps_tk, ps_sy, ps_ga, ps_sp, ps_gi, ps_be, ps_bc, ps_bw, ps_bs, ps_or, zq_bk, zq_ba, zq_ck, zq_cl, zq_no, zq_mu, zq_od, zq_cm, zq_oe, zq_ud, zq_li, zq_sf, zq_wf, zq_pk, zq_tk, zq_sy, zq_ga, zq_sp, zq_gi, zq_be, zq_bc, zq_bw, zq_bs, zq_or]
  refine aw_iload_n 1 q_S_lookWithout_4 rfl rfl ?_
  refine aw_S2 q_S_lookWithout_5 st_S_124 (by omega) (Nat.le_of_ble_eq_true rfl) (c_B_isIn _ _ _ _ (by omega) (by omega)) ?_
  refine aw_if_ne 27 q_S_lookWithout_8 rfl (fun c8 => ?_) (fun c8 => ?_)
  · skip
    exact aw_vret q_S_lookWithout_27 rfl rfl (by rw [show SO A q N k bb P z = z from if_pos (by have h9 : (q_mu q).testBit c = true := zI_n0.mp c8; simp [bdO, ec, h9])])
  · skip
    refine aw_aload_n 0 q_S_lookWithout_11 rfl rfl ?_
    refine aw_iload_n 1 q_S_lookWithout_12 rfl rfl ?_
    refine aw_V1 q_S_lookWithout_13 st_S_132 rfl (by omega) (Nat.le_of_ble_eq_true rfl) (c_S_isOverspent _ _ _ _ _ _ b (bq_pst b f hz (by omega)) (by omega)) ?_
    rw [ovs_zq]
    refine aw_if_ne 27 q_S_lookWithout_16 rfl (fun c16 => ?_) (fun c16 => ?_)
    · skip
      exact aw_vret q_S_lookWithout_27 rfl rfl (by rw [show SO A q N k bb P z = z from if_pos (by have h9 : ovs A (pst A q P) c = true := zI_n0.mp c16; simp [bdO, ec, h9])])
    · skip
      refine aw_aload_n 0 q_S_lookWithout_19 rfl rfl ?_
      refine aw_iload_n 1 q_S_lookWithout_20 rfl rfl ?_
      refine aw_iconst 1 q_S_lookWithout_21 rfl ?_
      refine aw_iadd q_S_lookWithout_22 ?_
      rw [nI_1]
      refine aw_lload_n 2 q_S_lookWithout_23 rfl rfl ?_
      refine aw_V2v q_S_lookWithout_24 st_S_43 rfl (by omega) (Nat.le_of_ble_eq_true rfl) (IH _ _ _ hP2 hz hbb) ?_
      exact aw_vret q_S_lookWithout_27 rfl rfl (by rw [show SO A q N k bb P z = SR A q N k bb P z from if_neg (by have h9 : ovs A (pst A q P) c = false := zI_0.mp c16; have h8 : (q_mu q).testBit c = false := zI_0.mp c8; simp [bdO, ec, h9, h8])])
end
