theorem iw_W : ∀ w ∈ u_ws "WorksBudget$Works" F_W 15, w ∈ am_T := List.forall_mem_cons.mpr ⟨(am_in1 (i := 76) rfl rfl), List.forall_mem_cons.mpr ⟨(am_in1 (i := 78) rfl rfl), List.forall_mem_cons.mpr ⟨(am_in1 (i := 80) rfl rfl), List.forall_mem_cons.mpr ⟨(am_in1 (i := 82) rfl rfl), List.forall_mem_cons.mpr ⟨(am_in1 (i := 84) rfl rfl), List.forall_mem_cons.mpr ⟨(am_in1 (i := 86) rfl rfl), List.forall_mem_cons.mpr ⟨(am_in1 (i := 88) rfl rfl), List.forall_mem_cons.mpr ⟨(am_in1 (i := 90) rfl rfl), List.forall_mem_cons.mpr ⟨(am_in1 (i := 92) rfl rfl), List.forall_mem_cons.mpr ⟨(am_in1 (i := 94) rfl rfl), List.forall_mem_cons.mpr ⟨(am_in1 (i := 96) rfl rfl), List.forall_mem_cons.mpr ⟨(am_in1 (i := 98) rfl rfl), List.forall_mem_cons.mpr ⟨(am_in1 (i := 100) rfl rfl), List.forall_mem_cons.mpr ⟨(am_in1 (i := 102) rfl rfl), List.forall_mem_cons.mpr ⟨(am_in1 (i := 104) rfl rfl), fun _ h => absurd h List.not_mem_nil⟩⟩⟩⟩⟩⟩⟩⟩⟩⟩⟩⟩⟩⟩⟩
theorem tb_W : am_tb 0 t_W := ⟨_, F_W, 15, rfl, iw_W, by decide +kernel, by decide +kernel⟩
theorem iw_S : ∀ w ∈ u_ws "WorksBudget$Search" F_S 20, w ∈ am_T := List.forall_mem_cons.mpr ⟨(am_in1 (i := 136) rfl rfl), List.forall_mem_cons.mpr ⟨(am_in1 (i := 138) rfl rfl), List.forall_mem_cons.mpr ⟨(am_in1 (i := 140) rfl rfl), List.forall_mem_cons.mpr ⟨(am_in1 (i := 142) rfl rfl), List.forall_mem_cons.mpr ⟨(am_in1 (i := 144) rfl rfl), List.forall_mem_cons.mpr ⟨(am_in1 (i := 146) rfl rfl), List.forall_mem_cons.mpr ⟨(am_in1 (i := 148) rfl rfl), List.forall_mem_cons.mpr ⟨(am_in1 (i := 150) rfl rfl), List.forall_mem_cons.mpr ⟨(am_in1 (i := 152) rfl rfl), List.forall_mem_cons.mpr ⟨(am_in1 (i := 154) rfl rfl), List.forall_mem_cons.mpr ⟨(am_in1 (i := 156) rfl rfl), List.forall_mem_cons.mpr ⟨(am_in1 (i := 158) rfl rfl), List.forall_mem_cons.mpr ⟨(am_in1 (i := 160) rfl rfl), List.forall_mem_cons.mpr ⟨(am_in1 (i := 162) rfl rfl), List.forall_mem_cons.mpr ⟨(am_in1 (i := 164) rfl rfl), List.forall_mem_cons.mpr ⟨(am_in1 (i := 166) rfl rfl), List.forall_mem_cons.mpr ⟨(am_in1 (i := 168) rfl rfl), List.forall_mem_cons.mpr ⟨(am_in1 (i := 170) rfl rfl), List.forall_mem_cons.mpr ⟨(am_in1 (i := 172) rfl rfl), List.forall_mem_cons.mpr ⟨(am_in1 (i := 174) rfl rfl), fun _ h => absurd h List.not_mem_nil⟩⟩⟩⟩⟩⟩⟩⟩⟩⟩⟩⟩⟩⟩⟩⟩⟩⟩⟩⟩
theorem tb_S : am_tb 1 t_S := ⟨_, F_S, 20, rfl, iw_S, by decide +kernel, by decide +kernel⟩
theorem iw_N : ∀ w ∈ u_ws "WorksBudget$Bounds" F_N 1, w ∈ am_T := List.forall_mem_cons.mpr ⟨(am_in1 (i := 184) rfl rfl), fun _ h => absurd h List.not_mem_nil⟩
theorem tb_N : am_tb 2 t_N := ⟨_, F_N, 1, rfl, iw_N, by decide +kernel, by decide +kernel⟩
theorem iw_P : ∀ w ∈ u_ws "WorksBudget$Policies" F_P 2, w ∈ am_T := List.forall_mem_cons.mpr ⟨(am_in1 (i := 195) rfl rfl), List.forall_mem_cons.mpr ⟨(am_in1 (i := 197) rfl rfl), fun _ h => absurd h List.not_mem_nil⟩⟩
theorem tb_P : am_tb 3 t_P := ⟨_, F_P, 2, rfl, iw_P, by decide +kernel, by decide +kernel⟩
theorem iw_B : ∀ w ∈ u_ws "WorksBudget" F_B 11, w ∈ am_T := List.forall_mem_cons.mpr ⟨(am_in1 (i := 211) rfl rfl), List.forall_mem_cons.mpr ⟨(am_in1 (i := 213) rfl rfl), List.forall_mem_cons.mpr ⟨(am_in1 (i := 215) rfl rfl), List.forall_mem_cons.mpr ⟨(am_in1 (i := 217) rfl rfl), List.forall_mem_cons.mpr ⟨(am_in1 (i := 219) rfl rfl), List.forall_mem_cons.mpr ⟨(am_in1 (i := 221) rfl rfl), List.forall_mem_cons.mpr ⟨(am_in1 (i := 223) rfl rfl), List.forall_mem_cons.mpr ⟨(am_in1 (i := 225) rfl rfl), List.forall_mem_cons.mpr ⟨(am_in1 (i := 227) rfl rfl), List.forall_mem_cons.mpr ⟨(am_in1 (i := 229) rfl rfl), List.forall_mem_cons.mpr ⟨(am_in1 (i := 231) rfl rfl), fun _ h => absurd h List.not_mem_nil⟩⟩⟩⟩⟩⟩⟩⟩⟩⟩⟩
theorem tb_B : am_tb 4 t_B := ⟨_, F_B, 11, rfl, iw_B, by decide +kernel, by decide +kernel⟩
theorem iw_M : ∀ w ∈ u_ws "WorksBudgetModel" F_M 23, w ∈ am_T := List.forall_mem_cons.mpr ⟨(am_in3 (i := 151) rfl rfl), List.forall_mem_cons.mpr ⟨(am_in3 (i := 153) rfl rfl), List.forall_mem_cons.mpr ⟨(am_in3 (i := 155) rfl rfl), List.forall_mem_cons.mpr ⟨(am_in3 (i := 157) rfl rfl), List.forall_mem_cons.mpr ⟨(am_in3 (i := 159) rfl rfl), List.forall_mem_cons.mpr ⟨(am_in3 (i := 161) rfl rfl), List.forall_mem_cons.mpr ⟨(am_in3 (i := 163) rfl rfl), List.forall_mem_cons.mpr ⟨(am_in3 (i := 165) rfl rfl), List.forall_mem_cons.mpr ⟨(am_in3 (i := 167) rfl rfl), List.forall_mem_cons.mpr ⟨(am_in3 (i := 169) rfl rfl), List.forall_mem_cons.mpr ⟨(am_in3 (i := 171) rfl rfl), List.forall_mem_cons.mpr ⟨(am_in3 (i := 173) rfl rfl), List.forall_mem_cons.mpr ⟨(am_in3 (i := 175) rfl rfl), List.forall_mem_cons.mpr ⟨(am_in3 (i := 177) rfl rfl), List.forall_mem_cons.mpr ⟨(am_in3 (i := 179) rfl rfl), List.forall_mem_cons.mpr ⟨(am_in3 (i := 181) rfl rfl), List.forall_mem_cons.mpr ⟨(am_in3 (i := 183) rfl rfl), List.forall_mem_cons.mpr ⟨(am_in3 (i := 185) rfl rfl), List.forall_mem_cons.mpr ⟨(am_in3 (i := 187) rfl rfl), List.forall_mem_cons.mpr ⟨(am_in3 (i := 189) rfl rfl), List.forall_mem_cons.mpr ⟨(am_in3 (i := 191) rfl rfl), List.forall_mem_cons.mpr ⟨(am_in3 (i := 193) rfl rfl), List.forall_mem_cons.mpr ⟨(am_in3 (i := 195) rfl rfl), fun _ h => absurd h List.not_mem_nil⟩⟩⟩⟩⟩⟩⟩⟩⟩⟩⟩⟩⟩⟩⟩⟩⟩⟩⟩⟩⟩⟩⟩
theorem tb_M : am_tb 5 t_M := ⟨_, F_M, 23, rfl, iw_M, by decide +kernel, by decide +kernel⟩
def m_B_init : am_M := (⟨"WorksBudget", "<init>", "(I)V"⟩, prog_1_method_1_code, 2, none)
def m_JM_min_III : am_M := (⟨"java/lang/Math", "min", "(II)I"⟩, prog_10_method_69_code, 2, some .int)
def m_JM_max_III : am_M := (⟨"java/lang/Math", "max", "(II)I"⟩, prog_10_method_65_code, 2, some .int)
def m_W_init : am_M := (⟨"WorksBudget$Works", "<init>", "(I)V"⟩, prog_5_method_1_code, 2, none)
def m_S_init : am_M := (⟨"WorksBudget$Search", "<init>", "(LWorksBudget$Works;)V"⟩, prog_4_method_1_code, 2, none)
def m_N_init : am_M := (⟨"WorksBudget$Bounds", "<init>", "(LWorksBudget$Works;)V"⟩, prog_2_method_1_code, 2, none)
def m_P_init : am_M := (⟨"WorksBudget$Policies", "<init>", "(LWorksBudget$Works;)V"⟩, prog_3_method_1_code, 2, none)
def m_B_thing : am_M := (⟨"WorksBudget", "thing", "(I)I"⟩, prog_1_method_2_code, 2, some .int)
def m_B_forget : am_M := (⟨"WorksBudget", "forget", "()V"⟩, prog_1_method_27_code, 1, none)
def m_W_addThing : am_M := (⟨"WorksBudget$Works", "addThing", "(I)I"⟩, prog_5_method_6_code, 2, some .int)
def m_B_choice : am_M := (⟨"WorksBudget", "choice", "(IIJJ)I"⟩, prog_1_method_3_code, 7, some .int)
def m_W_isThing : am_M := (⟨"WorksBudget$Works", "isThing", "(I)Z"⟩, prog_5_method_3_code, 2, some .boolean)
def m_W_isYear : am_M := (⟨"WorksBudget$Works", "isYear", "(I)Z"⟩, prog_5_method_2_code, 2, some .boolean)
def m_B_isWithin : am_M := (⟨"WorksBudget", "isWithin", "(JJ)Z"⟩, prog_1_method_32_code, 4, some .boolean)
def m_W_addChoice : am_M := (⟨"WorksBudget$Works", "addChoice", "(IIJJ)I"⟩, prog_5_method_7_code, 7, some .int)
def m_B_must : am_M := (⟨"WorksBudget", "must", "(I)Z"⟩, prog_1_method_4_code, 2, some .boolean)
def m_W_isChoice : am_M := (⟨"WorksBudget$Works", "isChoice", "(I)Z"⟩, prog_5_method_4_code, 2, some .boolean)
def m_B_isIn : am_M := (⟨"WorksBudget", "isIn", "(II)Z"⟩, prog_1_method_35_code, 2, some .boolean)
def m_B_budget : am_M := (⟨"WorksBudget", "budget", "(IJ)Z"⟩, prog_1_method_5_code, 4, some .boolean)
def m_B_join : am_M := (⟨"WorksBudget", "join", "(IIJ)Z"⟩, prog_1_method_6_code, 5, some .boolean)
def m_W_canJoin : am_M := (⟨"WorksBudget$Works", "canJoin", "(II)Z"⟩, prog_5_method_8_code, 3, some .boolean)
def m_W_addJoin : am_M := (⟨"WorksBudget$Works", "addJoin", "(IIJ)V"⟩, prog_5_method_9_code, 5, none)
def m_B_district : am_M := (⟨"WorksBudget", "district", "(II)Z"⟩, prog_1_method_7_code, 3, some .boolean)
def m_B_isDistrict : am_M := (⟨"WorksBudget", "isDistrict", "(I)Z"⟩, prog_1_method_33_code, 1, some .boolean)
def m_B_fair : am_M := (⟨"WorksBudget", "fair", "(J)Z"⟩, prog_1_method_8_code, 3, some .boolean)
def m_B_run : am_M := (⟨"WorksBudget", "run", "(J)I"⟩, prog_1_method_9_code, 4, some .int)
def m_B_isNodes : am_M := (⟨"WorksBudget", "isNodes", "(J)Z"⟩, prog_1_method_34_code, 2, some .boolean)
def m_S_bestPlan : am_M := (⟨"WorksBudget$Search", "bestPlan", "(J)I"⟩, prog_4_method_2_code, 3, some .int)
def m_S_prepare : am_M := (⟨"WorksBudget$Search", "prepare", "(JI)V"⟩, prog_4_method_6_code, 5, none)
def m_W_usedDistricts : am_M := (⟨"WorksBudget$Works", "usedDistricts", "()I"⟩, prog_5_method_19_code, 3, some .int)
def m_S_prepareRests : am_M := (⟨"WorksBudget$Search", "prepareRests", "()V"⟩, prog_4_method_7_code, 4, none)
def m_W_savesWith : am_M := (⟨"WorksBudget$Works", "savesWith", "(II)J"⟩, prog_5_method_10_code, 7, some .long)
def m_S_lookFrom : am_M := (⟨"WorksBudget$Search", "lookFrom", "(IJ)V"⟩, prog_4_method_8_code, 4, none)
def m_S_isHopeless : am_M := (⟨"WorksBudget$Search", "isHopeless", "(I)Z"⟩, prog_4_method_13_code, 4, some .boolean)
def m_S_countOfChanges : am_M := (⟨"WorksBudget$Search", "countOfChanges", "(I)I"⟩, prog_4_method_14_code, 2, some .int)
def m_JI_bitCount : am_M := (⟨"java/lang/Integer", "bitCount", "(I)I"⟩, prog_8_method_49_code, 1, some .int)
def m_S_weigh : am_M := (⟨"WorksBudget$Search", "weigh", "()V"⟩, prog_4_method_15_code, 2, none)
def m_S_isFair : am_M := (⟨"WorksBudget$Search", "isFair", "()Z"⟩, prog_4_method_17_code, 3, some .boolean)
def m_S_isBetter : am_M := (⟨"WorksBudget$Search", "isBetter", "(I)Z"⟩, prog_4_method_16_code, 2, some .boolean)
def m_S_lookWith : am_M := (⟨"WorksBudget$Search", "lookWith", "(IJ)V"⟩, prog_4_method_9_code, 4, none)
def m_S_pick : am_M := (⟨"WorksBudget$Search", "pick", "(II)V"⟩, prog_4_method_11_code, 6, none)
def m_W_districtOfChoice : am_M := (⟨"WorksBudget$Works", "districtOfChoice", "(I)I"⟩, prog_5_method_17_code, 2, some .int)
def m_S_isOverspent : am_M := (⟨"WorksBudget$Search", "isOverspent", "(I)Z"⟩, prog_4_method_12_code, 3, some .boolean)
def m_S_lookWithout : am_M := (⟨"WorksBudget$Search", "lookWithout", "(IJ)V"⟩, prog_4_method_10_code, 4, none)
def m_W_countOfSets : am_M := (⟨"WorksBudget$Works", "countOfSets", "()I"⟩, prog_5_method_5_code, 1, some .int)
def m_B_chosen : am_M := (⟨"WorksBudget", "chosen", "(I)Z"⟩, prog_1_method_10_code, 2, some .boolean)
def m_B_planOrNothing : am_M := (⟨"WorksBudget", "planOrNothing", "()I"⟩, prog_1_method_28_code, 1, some .int)
def m_B_worth : am_M := (⟨"WorksBudget", "worth", "()J"⟩, prog_1_method_11_code, 1, some .long)
def m_W_worthOfPlan : am_M := (⟨"WorksBudget$Works", "worthOfPlan", "(I)J"⟩, prog_5_method_16_code, 5, some .long)
def m_B_bound : am_M := (⟨"WorksBudget", "bound", "(I)J"⟩, prog_1_method_12_code, 2, some .long)
def m_N_byThings : am_M := (⟨"WorksBudget$Bounds", "byThings", "()J"⟩, prog_2_method_2_code, 4, some .long)
def m_W_mostWorth : am_M := (⟨"WorksBudget$Works", "mostWorth", "(I)J"⟩, prog_5_method_23_code, 2, some .long)
def m_W_mostWorthBy : am_M := (⟨"WorksBudget$Works", "mostWorthBy", "(II)J"⟩, prog_5_method_22_code, 6, some .long)
def m_JM_max_JJJ : am_M := (⟨"java/lang/Math", "max", "(JJ)J"⟩, prog_10_method_66_code, 4, some .long)
def m_N_byPrices : am_M := (⟨"WorksBudget$Bounds", "byPrices", "(J)J"⟩, prog_2_method_3_code, 10, some .long)
def m_N_byPrice : am_M := (⟨"WorksBudget$Bounds", "byPrice", "(JJJ)J"⟩, prog_2_method_4_code, 10, some .long)
def m_N_mostPartsOf : am_M := (⟨"WorksBudget$Bounds", "mostPartsOf", "(IJJ)J"⟩, prog_2_method_5_code, 11, some .long)
def m_W_savesOfAllJoins : am_M := (⟨"WorksBudget$Works", "savesOfAllJoins", "(I)J"⟩, prog_5_method_11_code, 2, some .long)
def m_JM_min_JJJ : am_M := (⟨"java/lang/Math", "min", "(JJ)J"⟩, prog_10_method_70_code, 4, some .long)
def m_B_clash : am_M := (⟨"WorksBudget", "clash", "(I)I"⟩, prog_1_method_13_code, 2, some .int)
def m_S_someHolds : am_M := (⟨"WorksBudget$Search", "someHolds", "(I)Z"⟩, prog_4_method_5_code, 2, some .boolean)
def m_B_clashingMusts : am_M := (⟨"WorksBudget", "clashingMusts", "()I"⟩, prog_1_method_30_code, 4, some .int)
def m_B_memberOf : am_M := (⟨"WorksBudget", "memberOf", "(II)I"⟩, prog_1_method_36_code, 4, some .int)
def m_B_proved : am_M := (⟨"WorksBudget", "proved", "()Z"⟩, prog_1_method_14_code, 1, some .boolean)
def m_B_price : am_M := (⟨"WorksBudget", "price", "(II)J"⟩, prog_1_method_15_code, 3, some .long)
def m_B_gainOfBest : am_M := (⟨"WorksBudget", "gainOfBest", "(I)J"⟩, prog_1_method_29_code, 3, some .long)
def m_S_bestPlanWithMore : am_M := (⟨"WorksBudget$Search", "bestPlanWithMore", "(IJ)I"⟩, prog_4_method_3_code, 4, some .int)
def m_B_old : am_M := (⟨"WorksBudget", "old", "(IZ)Z"⟩, prog_1_method_16_code, 3, some .boolean)
def m_B_changes : am_M := (⟨"WorksBudget", "changes", "(J)I"⟩, prog_1_method_17_code, 3, some .int)
def m_S_nearestPlan : am_M := (⟨"WorksBudget$Search", "nearestPlan", "(JI)I"⟩, prog_4_method_4_code, 4, some .int)
def m_B_changed : am_M := (⟨"WorksBudget", "changed", "(I)I"⟩, prog_1_method_18_code, 2, some .int)
def m_B_backlog : am_M := (⟨"WorksBudget", "backlog", "(I)J"⟩, prog_1_method_19_code, 5, some .long)
def m_W_isDoneBy : am_M := (⟨"WorksBudget$Works", "isDoneBy", "(III)Z"⟩, prog_5_method_21_code, 5, some .boolean)
def m_B_rank : am_M := (⟨"WorksBudget", "rank", "(I)I"⟩, prog_1_method_20_code, 3, some .int)
def m_B_countOfThingsBefore : am_M := (⟨"WorksBudget", "countOfThingsBefore", "(I)I"⟩, prog_1_method_31_code, 4, some .int)
def m_W_ranksBefore : am_M := (⟨"WorksBudget$Works", "ranksBefore", "(II)Z"⟩, prog_5_method_24_code, 7, some .boolean)
def m_B_share : am_M := (⟨"WorksBudget", "share", "(II)J"⟩, prog_1_method_21_code, 9, some .long)
def m_W_worthOfDistrict : am_M := (⟨"WorksBudget$Works", "worthOfDistrict", "(II)J"⟩, prog_5_method_18_code, 6, some .long)
def m_B_greatestDivisor : am_M := (⟨"WorksBudget", "greatestDivisor", "(JJ)J"⟩, prog_1_method_37_code, 11, some .long)
def m_B_policy : am_M := (⟨"WorksBudget", "policy", "(I)I"⟩, prog_1_method_22_code, 2, some .int)
def m_P_planBy : am_M := (⟨"WorksBudget$Policies", "planBy", "(I)I"⟩, prog_3_method_2_code, 5, some .int)
def m_P_isPossible : am_M := (⟨"WorksBudget$Policies", "isPossible", "(I)Z"⟩, prog_3_method_3_code, 2, some .boolean)
def m_W_isPlan : am_M := (⟨"WorksBudget$Works", "isPlan", "(I)Z"⟩, prog_5_method_15_code, 4, some .boolean)
def m_W_isWithinAllBudgets : am_M := (⟨"WorksBudget$Works", "isWithinAllBudgets", "(I)Z"⟩, prog_5_method_14_code, 3, some .boolean)
def m_W_isWithinBudget : am_M := (⟨"WorksBudget$Works", "isWithinBudget", "(II)Z"⟩, prog_5_method_13_code, 3, some .boolean)
def m_W_spentIn : am_M := (⟨"WorksBudget$Works", "spentIn", "(II)J"⟩, prog_5_method_12_code, 7, some .long)
def m_P_putInOrder : am_M := (⟨"WorksBudget$Policies", "putInOrder", "(I)V"⟩, prog_3_method_4_code, 5, none)
def m_P_goesBefore : am_M := (⟨"WorksBudget$Policies", "goesBefore", "(III)Z"⟩, prog_3_method_5_code, 6, some .boolean)
def m_P_leadByWorthByCost : am_M := (⟨"WorksBudget$Policies", "leadByWorthByCost", "(II)J"⟩, prog_3_method_6_code, 7, some .long)
def m_JL_compare : am_M := (⟨"java/lang/Long", "compare", "(JJ)I"⟩, prog_9_method_42_code, 4, some .int)
def m_B_compare : am_M := (⟨"WorksBudget", "compare", "(II)J"⟩, prog_1_method_23_code, 5, some .long)
def m_B_list : am_M := (⟨"WorksBudget", "list", "(II)I"⟩, prog_1_method_24_code, 7, some .int)
def m_W_partOf : am_M := (⟨"WorksBudget$Works", "partOf", "(III)I"⟩, prog_5_method_20_code, 6, some .int)
def m_B_earlier : am_M := (⟨"WorksBudget", "earlier", "(I)I"⟩, prog_1_method_25_code, 4, some .int)
def m_B_holds : am_M := (⟨"WorksBudget", "holds", "(I)Z"⟩, prog_1_method_26_code, 2, some .boolean)
def m_L_cell : am_M := (⟨"WorksBudgetLaw", "cell", "([II)I"⟩, method_2_code, 2, some .int)
def m_M_init : am_M := (⟨"WorksBudgetModel", "<init>", "(I)V"⟩, prog_7_method_1_code, 2, none)
def m_M_thing : am_M := (⟨"WorksBudgetModel", "thing", "(I)I"⟩, prog_7_method_5_code, 2, some .int)
def m_M_in : am_M := (⟨"WorksBudgetModel", "in", "(JJJ)Z"⟩, prog_7_method_3_code, 6, some .boolean)
def m_M_tell : am_M := (⟨"WorksBudgetModel", "tell", "()V"⟩, prog_7_method_2_code, 1, none)
def m_M_choice : am_M := (⟨"WorksBudgetModel", "choice", "(IIJJ)I"⟩, prog_7_method_6_code, 8, some .int)
def m_M_must : am_M := (⟨"WorksBudgetModel", "must", "(I)Z"⟩, prog_7_method_9_code, 2, some .boolean)
def m_M_isChoice : am_M := (⟨"WorksBudgetModel", "isChoice", "(I)Z"⟩, prog_7_method_7_code, 2, some .boolean)
def m_M_has : am_M := (⟨"WorksBudgetModel", "has", "(II)Z"⟩, prog_7_method_4_code, 2, some .boolean)
def m_M_budget : am_M := (⟨"WorksBudgetModel", "budget", "(IJ)Z"⟩, prog_7_method_10_code, 4, some .boolean)
def m_M_isYear : am_M := (⟨"WorksBudgetModel", "isYear", "(I)Z"⟩, prog_7_method_8_code, 2, some .boolean)
def m_M_join : am_M := (⟨"WorksBudgetModel", "join", "(IIJ)Z"⟩, prog_7_method_11_code, 6, some .boolean)
def m_M_district : am_M := (⟨"WorksBudgetModel", "district", "(II)Z"⟩, prog_7_method_12_code, 3, some .boolean)
def m_M_fair : am_M := (⟨"WorksBudgetModel", "fair", "(J)Z"⟩, prog_7_method_13_code, 3, some .boolean)
def m_M_run : am_M := (⟨"WorksBudgetModel", "run", "(J)I"⟩, prog_7_method_24_code, 4, some .int)
def m_M_best : am_M := (⟨"WorksBudgetModel", "best", "(J)I"⟩, prog_7_method_23_code, 6, some .int)
def m_M_setAt : am_M := (⟨"WorksBudgetModel", "setAt", "(I)I"⟩, prog_7_method_14_code, 4, some .int)
def m_M_holdsWith : am_M := (⟨"WorksBudgetModel", "holdsWith", "(II)Z"⟩, prog_7_method_19_code, 3, some .boolean)
def m_M_isPlan : am_M := (⟨"WorksBudgetModel", "isPlan", "(I)Z"⟩, prog_7_method_15_code, 5, some .boolean)
def m_M_isFair : am_M := (⟨"WorksBudgetModel", "isFair", "(I)Z"⟩, prog_7_method_18_code, 8, some .boolean)
def m_M_fits : am_M := (⟨"WorksBudgetModel", "fits", "(I)Z"⟩, prog_7_method_17_code, 4, some .boolean)
def m_M_spentIn : am_M := (⟨"WorksBudgetModel", "spentIn", "(II)J"⟩, prog_7_method_16_code, 6, some .long)
def m_M_isBetter : am_M := (⟨"WorksBudgetModel", "isBetter", "(II)Z"⟩, prog_7_method_22_code, 7, some .boolean)
def m_M_worthOf : am_M := (⟨"WorksBudgetModel", "worthOf", "(I)J"⟩, prog_7_method_20_code, 5, some .long)
def m_M_yearsOf : am_M := (⟨"WorksBudgetModel", "yearsOf", "(I)I"⟩, prog_7_method_21_code, 4, some .int)
def m_M_chosen : am_M := (⟨"WorksBudgetModel", "chosen", "(I)Z"⟩, prog_7_method_25_code, 2, some .boolean)
def m_M_worth : am_M := (⟨"WorksBudgetModel", "worth", "()J"⟩, prog_7_method_26_code, 1, some .long)
def m_M_bound : am_M := (⟨"WorksBudgetModel", "bound", "(I)J"⟩, prog_7_method_30_code, 7, some .long)
def m_M_mostWorth : am_M := (⟨"WorksBudgetModel", "mostWorth", "(II)J"⟩, prog_7_method_27_code, 6, some .long)
def m_M_byPrice : am_M := (⟨"WorksBudgetModel", "byPrice", "(JJ)J"⟩, prog_7_method_29_code, 13, some .long)
def m_M_savedBy : am_M := (⟨"WorksBudgetModel", "savedBy", "(I)J"⟩, prog_7_method_28_code, 5, some .long)
def m_M_clash : am_M := (⟨"WorksBudgetModel", "clash", "(I)I"⟩, prog_7_method_32_code, 5, some .int)
def m_M_someHolds : am_M := (⟨"WorksBudgetModel", "someHolds", "(I)Z"⟩, prog_7_method_31_code, 4, some .boolean)
def m_M_proved : am_M := (⟨"WorksBudgetModel", "proved", "()Z"⟩, prog_7_method_33_code, 1, some .boolean)
def m_M_price : am_M := (⟨"WorksBudgetModel", "price", "(II)J"⟩, prog_7_method_34_code, 7, some .long)
def m_M_old : am_M := (⟨"WorksBudgetModel", "old", "(IZ)Z"⟩, prog_7_method_35_code, 3, some .boolean)
def m_M_changes : am_M := (⟨"WorksBudgetModel", "changes", "(J)I"⟩, prog_7_method_37_code, 7, some .int)
def m_M_differ : am_M := (⟨"WorksBudgetModel", "differ", "(I)I"⟩, prog_7_method_36_code, 4, some .int)
def m_M_changed : am_M := (⟨"WorksBudgetModel", "changed", "(I)I"⟩, prog_7_method_38_code, 4, some .int)
def m_M_backlog : am_M := (⟨"WorksBudgetModel", "backlog", "(I)J"⟩, prog_7_method_39_code, 7, some .long)
def m_M_rank : am_M := (⟨"WorksBudgetModel", "rank", "(I)I"⟩, prog_7_method_40_code, 9, some .int)
def m_M_share : am_M := (⟨"WorksBudgetModel", "share", "(II)J"⟩, prog_7_method_41_code, 13, some .long)
def m_M_policy : am_M := (⟨"WorksBudgetModel", "policy", "(I)I"⟩, prog_7_method_44_code, 2, some .int)
def m_M_planBy : am_M := (⟨"WorksBudgetModel", "planBy", "(I)I"⟩, prog_7_method_43_code, 5, some .int)
def m_M_comesBefore : am_M := (⟨"WorksBudgetModel", "comesBefore", "(III)Z"⟩, prog_7_method_42_code, 8, some .boolean)
def m_M_compare : am_M := (⟨"WorksBudgetModel", "compare", "(II)J"⟩, prog_7_method_45_code, 5, some .long)
def m_M_list : am_M := (⟨"WorksBudgetModel", "list", "(II)I"⟩, prog_7_method_46_code, 6, some .int)
def m_M_earlier : am_M := (⟨"WorksBudgetModel", "earlier", "(I)I"⟩, prog_7_method_47_code, 4, some .int)
def m_M_holds : am_M := (⟨"WorksBudgetModel", "holds", "(I)Z"⟩, prog_7_method_48_code, 2, some .boolean)
def m_L_law : am_M := (⟨"WorksBudgetLaw", "law", "([I)Z"⟩, code, 4, some .boolean)
theorem fl_W_48 : am_fl "WorksBudget$Works" 48 0 0 := ⟨_, F_W, 15, rfl, by decide, iw_W, (am_in1 (i := 33) rfl rfl), rfl⟩
theorem fl_N_23 : am_fl "WorksBudget$Bounds" 23 0 0 := ⟨_, F_W, 15, rfl, by decide, iw_W, (am_in1 (i := 34) rfl rfl), rfl⟩
theorem fl_B_209 : am_fl "WorksBudget" 209 0 0 := ⟨_, F_W, 15, rfl, by decide, iw_W, (am_in1 (i := 35) rfl rfl), rfl⟩
theorem fl_W_9 : am_fl "WorksBudget$Works" 9 0 1 := ⟨_, F_W, 15, rfl, by decide, iw_W, (am_in1 (i := 36) rfl rfl), rfl⟩
theorem fl_N_26 : am_fl "WorksBudget$Bounds" 26 0 1 := ⟨_, F_W, 15, rfl, by decide, iw_W, (am_in1 (i := 37) rfl rfl), rfl⟩
theorem fl_B_96 : am_fl "WorksBudget" 96 0 1 := ⟨_, F_W, 15, rfl, by decide, iw_W, (am_in1 (i := 38) rfl rfl), rfl⟩
theorem fl_S_88 : am_fl "WorksBudget$Search" 88 0 1 := ⟨_, F_W, 15, rfl, by decide, iw_W, (am_in1 (i := 39) rfl rfl), rfl⟩
theorem fl_N_13 : am_fl "WorksBudget$Bounds" 13 0 2 := ⟨_, F_W, 15, rfl, by decide, iw_W, (am_in1 (i := 40) rfl rfl), rfl⟩
theorem fl_B_54 : am_fl "WorksBudget" 54 0 2 := ⟨_, F_W, 15, rfl, by decide, iw_W, (am_in1 (i := 41) rfl rfl), rfl⟩
theorem fl_W_52 : am_fl "WorksBudget$Works" 52 0 2 := ⟨_, F_W, 15, rfl, by decide, iw_W, (am_in1 (i := 42) rfl rfl), rfl⟩
theorem fl_W_15 : am_fl "WorksBudget$Works" 15 0 3 := ⟨_, F_W, 15, rfl, by decide, iw_W, (am_in1 (i := 43) rfl rfl), rfl⟩
theorem fl_W_19 : am_fl "WorksBudget$Works" 19 0 4 := ⟨_, F_W, 15, rfl, by decide, iw_W, (am_in1 (i := 44) rfl rfl), rfl⟩
theorem fl_B_113 : am_fl "WorksBudget" 113 0 4 := ⟨_, F_W, 15, rfl, by decide, iw_W, (am_in1 (i := 45) rfl rfl), rfl⟩
theorem fl_P_33 : am_fl "WorksBudget$Policies" 33 0 5 := ⟨_, F_W, 15, rfl, by decide, iw_W, (am_in1 (i := 46) rfl rfl), rfl⟩
theorem fl_B_71 : am_fl "WorksBudget" 71 0 5 := ⟨_, F_W, 15, rfl, by decide, iw_W, (am_in1 (i := 47) rfl rfl), rfl⟩
theorem fl_N_34 : am_fl "WorksBudget$Bounds" 34 0 5 := ⟨_, F_W, 15, rfl, by decide, iw_W, (am_in1 (i := 48) rfl rfl), rfl⟩
theorem fl_W_55 : am_fl "WorksBudget$Works" 55 0 5 := ⟨_, F_W, 15, rfl, by decide, iw_W, (am_in1 (i := 49) rfl rfl), rfl⟩
theorem fl_S_94 : am_fl "WorksBudget$Search" 94 0 5 := ⟨_, F_W, 15, rfl, by decide, iw_W, (am_in1 (i := 50) rfl rfl), rfl⟩
theorem fl_W_22 : am_fl "WorksBudget$Works" 22 0 6 := ⟨_, F_W, 15, rfl, by decide, iw_W, (am_in1 (i := 51) rfl rfl), rfl⟩
theorem fl_N_53 : am_fl "WorksBudget$Bounds" 53 0 6 := ⟨_, F_W, 15, rfl, by decide, iw_W, (am_in1 (i := 52) rfl rfl), rfl⟩
theorem fl_S_121 : am_fl "WorksBudget$Search" 121 0 6 := ⟨_, F_W, 15, rfl, by decide, iw_W, (am_in1 (i := 53) rfl rfl), rfl⟩
theorem fl_W_25 : am_fl "WorksBudget$Works" 25 0 7 := ⟨_, F_W, 15, rfl, by decide, iw_W, (am_in1 (i := 54) rfl rfl), rfl⟩
theorem fl_P_54 : am_fl "WorksBudget$Policies" 54 0 7 := ⟨_, F_W, 15, rfl, by decide, iw_W, (am_in1 (i := 55) rfl rfl), rfl⟩
theorem fl_S_100 : am_fl "WorksBudget$Search" 100 0 7 := ⟨_, F_W, 15, rfl, by decide, iw_W, (am_in1 (i := 56) rfl rfl), rfl⟩
theorem fl_B_216 : am_fl "WorksBudget" 216 0 7 := ⟨_, F_W, 15, rfl, by decide, iw_W, (am_in1 (i := 57) rfl rfl), rfl⟩
theorem fl_W_28 : am_fl "WorksBudget$Works" 28 0 8 := ⟨_, F_W, 15, rfl, by decide, iw_W, (am_in1 (i := 58) rfl rfl), rfl⟩
theorem fl_N_37 : am_fl "WorksBudget$Bounds" 37 0 8 := ⟨_, F_W, 15, rfl, by decide, iw_W, (am_in1 (i := 59) rfl rfl), rfl⟩
theorem fl_P_57 : am_fl "WorksBudget$Policies" 57 0 8 := ⟨_, F_W, 15, rfl, by decide, iw_W, (am_in1 (i := 60) rfl rfl), rfl⟩
theorem fl_S_135 : am_fl "WorksBudget$Search" 135 0 8 := ⟨_, F_W, 15, rfl, by decide, iw_W, (am_in1 (i := 61) rfl rfl), rfl⟩
theorem fl_W_31 : am_fl "WorksBudget$Works" 31 0 9 := ⟨_, F_W, 15, rfl, by decide, iw_W, (am_in1 (i := 62) rfl rfl), rfl⟩
theorem fl_N_40 : am_fl "WorksBudget$Bounds" 40 0 9 := ⟨_, F_W, 15, rfl, by decide, iw_W, (am_in1 (i := 63) rfl rfl), rfl⟩
theorem fl_P_50 : am_fl "WorksBudget$Policies" 50 0 9 := ⟨_, F_W, 15, rfl, by decide, iw_W, (am_in1 (i := 64) rfl rfl), rfl⟩
theorem fl_S_97 : am_fl "WorksBudget$Search" 97 0 9 := ⟨_, F_W, 15, rfl, by decide, iw_W, (am_in1 (i := 65) rfl rfl), rfl⟩
theorem fl_P_19 : am_fl "WorksBudget$Policies" 19 0 10 := ⟨_, F_W, 15, rfl, by decide, iw_W, (am_in1 (i := 66) rfl rfl), rfl⟩
theorem fl_S_33 : am_fl "WorksBudget$Search" 33 0 10 := ⟨_, F_W, 15, rfl, by decide, iw_W, (am_in1 (i := 67) rfl rfl), rfl⟩
theorem fl_B_87 : am_fl "WorksBudget" 87 0 10 := ⟨_, F_W, 15, rfl, by decide, iw_W, (am_in1 (i := 68) rfl rfl), rfl⟩
theorem fl_B_103 : am_fl "WorksBudget" 103 0 11 := ⟨_, F_W, 15, rfl, by decide, iw_W, (am_in1 (i := 69) rfl rfl), rfl⟩
theorem fl_W_62 : am_fl "WorksBudget$Works" 62 0 11 := ⟨_, F_W, 15, rfl, by decide, iw_W, (am_in1 (i := 70) rfl rfl), rfl⟩
theorem fl_W_34 : am_fl "WorksBudget$Works" 34 0 12 := ⟨_, F_W, 15, rfl, by decide, iw_W, (am_in1 (i := 71) rfl rfl), rfl⟩
theorem fl_W_39 : am_fl "WorksBudget$Works" 39 0 13 := ⟨_, F_W, 15, rfl, by decide, iw_W, (am_in1 (i := 72) rfl rfl), rfl⟩
theorem fl_W_44 : am_fl "WorksBudget$Works" 44 0 14 := ⟨_, F_W, 15, rfl, by decide, iw_W, (am_in1 (i := 73) rfl rfl), rfl⟩
theorem fl_B_121 : am_fl "WorksBudget" 121 0 14 := ⟨_, F_W, 15, rfl, by decide, iw_W, (am_in1 (i := 74) rfl rfl), rfl⟩
theorem fl_S_166 : am_fl "WorksBudget$Search" 166 0 14 := ⟨_, F_W, 15, rfl, by decide, iw_W, (am_in1 (i := 75) rfl rfl), rfl⟩
theorem fl_S_29 : am_fl "WorksBudget$Search" 29 1 0 := ⟨_, F_S, 20, rfl, by decide, iw_S, (am_in1 (i := 116) rfl rfl), rfl⟩
theorem fl_S_66 : am_fl "WorksBudget$Search" 66 1 1 := ⟨_, F_S, 20, rfl, by decide, iw_S, (am_in1 (i := 117) rfl rfl), rfl⟩
theorem fl_S_70 : am_fl "WorksBudget$Search" 70 1 2 := ⟨_, F_S, 20, rfl, by decide, iw_S, (am_in1 (i := 118) rfl rfl), rfl⟩
theorem fl_S_52 : am_fl "WorksBudget$Search" 52 1 3 := ⟨_, F_S, 20, rfl, by decide, iw_S, (am_in1 (i := 119) rfl rfl), rfl⟩
theorem fl_S_59 : am_fl "WorksBudget$Search" 59 1 4 := ⟨_, F_S, 20, rfl, by decide, iw_S, (am_in1 (i := 120) rfl rfl), rfl⟩
theorem fl_S_62 : am_fl "WorksBudget$Search" 62 1 5 := ⟨_, F_S, 20, rfl, by decide, iw_S, (am_in1 (i := 121) rfl rfl), rfl⟩
theorem fl_S_74 : am_fl "WorksBudget$Search" 74 1 6 := ⟨_, F_S, 20, rfl, by decide, iw_S, (am_in1 (i := 122) rfl rfl), rfl⟩
theorem fl_S_9 : am_fl "WorksBudget$Search" 9 1 7 := ⟨_, F_S, 20, rfl, by decide, iw_S, (am_in1 (i := 123) rfl rfl), rfl⟩
theorem fl_S_17 : am_fl "WorksBudget$Search" 17 1 8 := ⟨_, F_S, 20, rfl, by decide, iw_S, (am_in1 (i := 124) rfl rfl), rfl⟩
theorem fl_S_20 : am_fl "WorksBudget$Search" 20 1 9 := ⟨_, F_S, 20, rfl, by decide, iw_S, (am_in1 (i := 125) rfl rfl), rfl⟩
theorem fl_S_76 : am_fl "WorksBudget$Search" 76 1 10 := ⟨_, F_S, 20, rfl, by decide, iw_S, (am_in1 (i := 126) rfl rfl), rfl⟩
theorem fl_S_79 : am_fl "WorksBudget$Search" 79 1 11 := ⟨_, F_S, 20, rfl, by decide, iw_S, (am_in1 (i := 127) rfl rfl), rfl⟩
theorem fl_S_82 : am_fl "WorksBudget$Search" 82 1 12 := ⟨_, F_S, 20, rfl, by decide, iw_S, (am_in1 (i := 128) rfl rfl), rfl⟩
theorem fl_S_85 : am_fl "WorksBudget$Search" 85 1 13 := ⟨_, F_S, 20, rfl, by decide, iw_S, (am_in1 (i := 129) rfl rfl), rfl⟩
theorem fl_S_23 : am_fl "WorksBudget$Search" 23 1 14 := ⟨_, F_S, 20, rfl, by decide, iw_S, (am_in1 (i := 130) rfl rfl), rfl⟩
theorem fl_S_26 : am_fl "WorksBudget$Search" 26 1 15 := ⟨_, F_S, 20, rfl, by decide, iw_S, (am_in1 (i := 131) rfl rfl), rfl⟩
theorem fl_S_47 : am_fl "WorksBudget$Search" 47 1 16 := ⟨_, F_S, 20, rfl, by decide, iw_S, (am_in1 (i := 132) rfl rfl), rfl⟩
theorem fl_S_145 : am_fl "WorksBudget$Search" 145 1 17 := ⟨_, F_S, 20, rfl, by decide, iw_S, (am_in1 (i := 133) rfl rfl), rfl⟩
theorem fl_S_148 : am_fl "WorksBudget$Search" 148 1 18 := ⟨_, F_S, 20, rfl, by decide, iw_S, (am_in1 (i := 134) rfl rfl), rfl⟩
theorem fl_S_163 : am_fl "WorksBudget$Search" 163 1 19 := ⟨_, F_S, 20, rfl, by decide, iw_S, (am_in1 (i := 135) rfl rfl), rfl⟩
theorem fl_N_7 : am_fl "WorksBudget$Bounds" 7 2 0 := ⟨_, F_N, 1, rfl, by decide, iw_N, (am_in1 (i := 183) rfl rfl), rfl⟩
theorem fl_P_15 : am_fl "WorksBudget$Policies" 15 3 0 := ⟨_, F_P, 2, rfl, by decide, iw_P, (am_in1 (i := 193) rfl rfl), rfl⟩
theorem fl_P_9 : am_fl "WorksBudget$Policies" 9 3 1 := ⟨_, F_P, 2, rfl, by decide, iw_P, (am_in1 (i := 194) rfl rfl), rfl⟩
theorem fl_B_23 : am_fl "WorksBudget" 23 4 0 := ⟨_, F_B, 11, rfl, by decide, iw_B, (am_in1 (i := 200) rfl rfl), rfl⟩
theorem fl_B_32 : am_fl "WorksBudget" 32 4 1 := ⟨_, F_B, 11, rfl, by decide, iw_B, (am_in1 (i := 201) rfl rfl), rfl⟩
theorem fl_B_39 : am_fl "WorksBudget" 39 4 2 := ⟨_, F_B, 11, rfl, by decide, iw_B, (am_in1 (i := 202) rfl rfl), rfl⟩
theorem fl_B_46 : am_fl "WorksBudget" 46 4 3 := ⟨_, F_B, 11, rfl, by decide, iw_B, (am_in1 (i := 203) rfl rfl), rfl⟩
theorem fl_B_50 : am_fl "WorksBudget" 50 4 4 := ⟨_, F_B, 11, rfl, by decide, iw_B, (am_in1 (i := 204) rfl rfl), rfl⟩
theorem fl_B_176 : am_fl "WorksBudget" 176 4 5 := ⟨_, F_B, 11, rfl, by decide, iw_B, (am_in1 (i := 205) rfl rfl), rfl⟩
theorem fl_B_137 : am_fl "WorksBudget" 137 4 6 := ⟨_, F_B, 11, rfl, by decide, iw_B, (am_in1 (i := 206) rfl rfl), rfl⟩
theorem fl_B_222 : am_fl "WorksBudget" 222 4 7 := ⟨_, F_B, 11, rfl, by decide, iw_B, (am_in1 (i := 207) rfl rfl), rfl⟩
theorem fl_B_227 : am_fl "WorksBudget" 227 4 8 := ⟨_, F_B, 11, rfl, by decide, iw_B, (am_in1 (i := 208) rfl rfl), rfl⟩
theorem fl_B_156 : am_fl "WorksBudget" 156 4 9 := ⟨_, F_B, 11, rfl, by decide, iw_B, (am_in1 (i := 209) rfl rfl), rfl⟩
theorem fl_B_165 : am_fl "WorksBudget" 165 4 10 := ⟨_, F_B, 11, rfl, by decide, iw_B, (am_in1 (i := 210) rfl rfl), rfl⟩
theorem fl_M_63 : am_fl "WorksBudgetModel" 63 5 0 := ⟨_, F_M, 23, rfl, by decide, iw_M, (am_in3 (i := 128) rfl rfl), rfl⟩
theorem fl_M_76 : am_fl "WorksBudgetModel" 76 5 1 := ⟨_, F_M, 23, rfl, by decide, iw_M, (am_in3 (i := 129) rfl rfl), rfl⟩
theorem fl_M_7 : am_fl "WorksBudgetModel" 7 5 2 := ⟨_, F_M, 23, rfl, by decide, iw_M, (am_in3 (i := 130) rfl rfl), rfl⟩
theorem fl_M_13 : am_fl "WorksBudgetModel" 13 5 3 := ⟨_, F_M, 23, rfl, by decide, iw_M, (am_in3 (i := 131) rfl rfl), rfl⟩
theorem fl_M_84 : am_fl "WorksBudgetModel" 84 5 4 := ⟨_, F_M, 23, rfl, by decide, iw_M, (am_in3 (i := 132) rfl rfl), rfl⟩
theorem fl_M_16 : am_fl "WorksBudgetModel" 16 5 5 := ⟨_, F_M, 23, rfl, by decide, iw_M, (am_in3 (i := 133) rfl rfl), rfl⟩
theorem fl_M_19 : am_fl "WorksBudgetModel" 19 5 6 := ⟨_, F_M, 23, rfl, by decide, iw_M, (am_in3 (i := 134) rfl rfl), rfl⟩
theorem fl_M_22 : am_fl "WorksBudgetModel" 22 5 7 := ⟨_, F_M, 23, rfl, by decide, iw_M, (am_in3 (i := 135) rfl rfl), rfl⟩
theorem fl_M_26 : am_fl "WorksBudgetModel" 26 5 8 := ⟨_, F_M, 23, rfl, by decide, iw_M, (am_in3 (i := 136) rfl rfl), rfl⟩
theorem fl_M_91 : am_fl "WorksBudgetModel" 91 5 9 := ⟨_, F_M, 23, rfl, by decide, iw_M, (am_in3 (i := 137) rfl rfl), rfl⟩
theorem fl_M_29 : am_fl "WorksBudgetModel" 29 5 10 := ⟨_, F_M, 23, rfl, by decide, iw_M, (am_in3 (i := 138) rfl rfl), rfl⟩
theorem fl_M_103 : am_fl "WorksBudgetModel" 103 5 11 := ⟨_, F_M, 23, rfl, by decide, iw_M, (am_in3 (i := 139) rfl rfl), rfl⟩
theorem fl_M_32 : am_fl "WorksBudgetModel" 32 5 12 := ⟨_, F_M, 23, rfl, by decide, iw_M, (am_in3 (i := 140) rfl rfl), rfl⟩
theorem fl_M_35 : am_fl "WorksBudgetModel" 35 5 13 := ⟨_, F_M, 23, rfl, by decide, iw_M, (am_in3 (i := 141) rfl rfl), rfl⟩
theorem fl_M_38 : am_fl "WorksBudgetModel" 38 5 14 := ⟨_, F_M, 23, rfl, by decide, iw_M, (am_in3 (i := 142) rfl rfl), rfl⟩
theorem fl_M_43 : am_fl "WorksBudgetModel" 43 5 15 := ⟨_, F_M, 23, rfl, by decide, iw_M, (am_in3 (i := 143) rfl rfl), rfl⟩
theorem fl_M_47 : am_fl "WorksBudgetModel" 47 5 16 := ⟨_, F_M, 23, rfl, by decide, iw_M, (am_in3 (i := 144) rfl rfl), rfl⟩
theorem fl_M_164 : am_fl "WorksBudgetModel" 164 5 17 := ⟨_, F_M, 23, rfl, by decide, iw_M, (am_in3 (i := 145) rfl rfl), rfl⟩
theorem fl_M_66 : am_fl "WorksBudgetModel" 66 5 18 := ⟨_, F_M, 23, rfl, by decide, iw_M, (am_in3 (i := 146) rfl rfl), rfl⟩
theorem fl_M_51 : am_fl "WorksBudgetModel" 51 5 19 := ⟨_, F_M, 23, rfl, by decide, iw_M, (am_in3 (i := 147) rfl rfl), rfl⟩
theorem fl_M_54 : am_fl "WorksBudgetModel" 54 5 20 := ⟨_, F_M, 23, rfl, by decide, iw_M, (am_in3 (i := 148) rfl rfl), rfl⟩
theorem fl_M_57 : am_fl "WorksBudgetModel" 57 5 21 := ⟨_, F_M, 23, rfl, by decide, iw_M, (am_in3 (i := 149) rfl rfl), rfl⟩
theorem fl_M_60 : am_fl "WorksBudgetModel" 60 5 22 := ⟨_, F_M, 23, rfl, by decide, iw_M, (am_in3 (i := 150) rfl rfl), rfl⟩
theorem fi_W_0 : am_fin 0 0 true := ⟨_, F_W, 15, rfl, rfl⟩
theorem fi_W_1 : am_fin 0 1 true := ⟨_, F_W, 15, rfl, rfl⟩
theorem fi_W_2 : am_fin 0 2 false := ⟨_, F_W, 15, rfl, rfl⟩
theorem fi_W_3 : am_fin 0 3 true := ⟨_, F_W, 15, rfl, rfl⟩
theorem fi_W_4 : am_fin 0 4 true := ⟨_, F_W, 15, rfl, rfl⟩
theorem fi_W_5 : am_fin 0 5 false := ⟨_, F_W, 15, rfl, rfl⟩
theorem fi_W_6 : am_fin 0 6 true := ⟨_, F_W, 15, rfl, rfl⟩
theorem fi_W_7 : am_fin 0 7 true := ⟨_, F_W, 15, rfl, rfl⟩
theorem fi_W_8 : am_fin 0 8 true := ⟨_, F_W, 15, rfl, rfl⟩
theorem fi_W_9 : am_fin 0 9 true := ⟨_, F_W, 15, rfl, rfl⟩
theorem fi_W_10 : am_fin 0 10 false := ⟨_, F_W, 15, rfl, rfl⟩
theorem fi_W_11 : am_fin 0 11 false := ⟨_, F_W, 15, rfl, rfl⟩
theorem fi_W_12 : am_fin 0 12 true := ⟨_, F_W, 15, rfl, rfl⟩
theorem fi_W_13 : am_fin 0 13 true := ⟨_, F_W, 15, rfl, rfl⟩
theorem fi_W_14 : am_fin 0 14 false := ⟨_, F_W, 15, rfl, rfl⟩
theorem fi_S_0 : am_fin 1 0 true := ⟨_, F_S, 20, rfl, rfl⟩
theorem fi_S_1 : am_fin 1 1 false := ⟨_, F_S, 20, rfl, rfl⟩
theorem fi_S_2 : am_fin 1 2 false := ⟨_, F_S, 20, rfl, rfl⟩
theorem fi_S_3 : am_fin 1 3 false := ⟨_, F_S, 20, rfl, rfl⟩
theorem fi_S_4 : am_fin 1 4 false := ⟨_, F_S, 20, rfl, rfl⟩
theorem fi_S_5 : am_fin 1 5 false := ⟨_, F_S, 20, rfl, rfl⟩
theorem fi_S_6 : am_fin 1 6 false := ⟨_, F_S, 20, rfl, rfl⟩
theorem fi_S_7 : am_fin 1 7 true := ⟨_, F_S, 20, rfl, rfl⟩
theorem fi_S_8 : am_fin 1 8 true := ⟨_, F_S, 20, rfl, rfl⟩
theorem fi_S_9 : am_fin 1 9 true := ⟨_, F_S, 20, rfl, rfl⟩
theorem fi_S_10 : am_fin 1 10 false := ⟨_, F_S, 20, rfl, rfl⟩
theorem fi_S_11 : am_fin 1 11 false := ⟨_, F_S, 20, rfl, rfl⟩
theorem fi_S_12 : am_fin 1 12 false := ⟨_, F_S, 20, rfl, rfl⟩
theorem fi_S_13 : am_fin 1 13 false := ⟨_, F_S, 20, rfl, rfl⟩
theorem fi_S_14 : am_fin 1 14 true := ⟨_, F_S, 20, rfl, rfl⟩
theorem fi_S_15 : am_fin 1 15 true := ⟨_, F_S, 20, rfl, rfl⟩
theorem fi_S_16 : am_fin 1 16 false := ⟨_, F_S, 20, rfl, rfl⟩
theorem fi_S_17 : am_fin 1 17 false := ⟨_, F_S, 20, rfl, rfl⟩
theorem fi_S_18 : am_fin 1 18 false := ⟨_, F_S, 20, rfl, rfl⟩
theorem fi_S_19 : am_fin 1 19 false := ⟨_, F_S, 20, rfl, rfl⟩
theorem fi_N_0 : am_fin 2 0 true := ⟨_, F_N, 1, rfl, rfl⟩
theorem fi_P_0 : am_fin 3 0 true := ⟨_, F_P, 2, rfl, rfl⟩
theorem fi_P_1 : am_fin 3 1 true := ⟨_, F_P, 2, rfl, rfl⟩
theorem fi_B_0 : am_fin 4 0 true := ⟨_, F_B, 11, rfl, rfl⟩
theorem fi_B_1 : am_fin 4 1 true := ⟨_, F_B, 11, rfl, rfl⟩
theorem fi_B_2 : am_fin 4 2 true := ⟨_, F_B, 11, rfl, rfl⟩
theorem fi_B_3 : am_fin 4 3 true := ⟨_, F_B, 11, rfl, rfl⟩
theorem fi_B_4 : am_fin 4 4 false := ⟨_, F_B, 11, rfl, rfl⟩
theorem fi_B_5 : am_fin 4 5 false := ⟨_, F_B, 11, rfl, rfl⟩
theorem fi_B_6 : am_fin 4 6 false := ⟨_, F_B, 11, rfl, rfl⟩
theorem fi_B_7 : am_fin 4 7 false := ⟨_, F_B, 11, rfl, rfl⟩
theorem fi_B_8 : am_fin 4 8 false := ⟨_, F_B, 11, rfl, rfl⟩
theorem fi_B_9 : am_fin 4 9 false := ⟨_, F_B, 11, rfl, rfl⟩
theorem fi_B_10 : am_fin 4 10 false := ⟨_, F_B, 11, rfl, rfl⟩
theorem fi_M_0 : am_fin 5 0 true := ⟨_, F_M, 23, rfl, rfl⟩
theorem fi_M_1 : am_fin 5 1 false := ⟨_, F_M, 23, rfl, rfl⟩
theorem fi_M_2 : am_fin 5 2 true := ⟨_, F_M, 23, rfl, rfl⟩
theorem fi_M_3 : am_fin 5 3 true := ⟨_, F_M, 23, rfl, rfl⟩
theorem fi_M_4 : am_fin 5 4 false := ⟨_, F_M, 23, rfl, rfl⟩
theorem fi_M_5 : am_fin 5 5 true := ⟨_, F_M, 23, rfl, rfl⟩
theorem fi_M_6 : am_fin 5 6 true := ⟨_, F_M, 23, rfl, rfl⟩
theorem fi_M_7 : am_fin 5 7 true := ⟨_, F_M, 23, rfl, rfl⟩
theorem fi_M_8 : am_fin 5 8 true := ⟨_, F_M, 23, rfl, rfl⟩
theorem fi_M_9 : am_fin 5 9 false := ⟨_, F_M, 23, rfl, rfl⟩
theorem fi_M_10 : am_fin 5 10 true := ⟨_, F_M, 23, rfl, rfl⟩
theorem fi_M_11 : am_fin 5 11 false := ⟨_, F_M, 23, rfl, rfl⟩
theorem fi_M_12 : am_fin 5 12 true := ⟨_, F_M, 23, rfl, rfl⟩
theorem fi_M_13 : am_fin 5 13 true := ⟨_, F_M, 23, rfl, rfl⟩
theorem fi_M_14 : am_fin 5 14 true := ⟨_, F_M, 23, rfl, rfl⟩
theorem fi_M_15 : am_fin 5 15 false := ⟨_, F_M, 23, rfl, rfl⟩
theorem fi_M_16 : am_fin 5 16 false := ⟨_, F_M, 23, rfl, rfl⟩
theorem fi_M_17 : am_fin 5 17 false := ⟨_, F_M, 23, rfl, rfl⟩
theorem fi_M_18 : am_fin 5 18 false := ⟨_, F_M, 23, rfl, rfl⟩
theorem fi_M_19 : am_fin 5 19 true := ⟨_, F_M, 23, rfl, rfl⟩
theorem fi_M_20 : am_fin 5 20 true := ⟨_, F_M, 23, rfl, rfl⟩
theorem fi_M_21 : am_fin 5 21 true := ⟨_, F_M, 23, rfl, rfl⟩
theorem fi_M_22 : am_fin 5 22 true := ⟨_, F_M, 23, rfl, rfl⟩
theorem ow_W : ∀ (C : String) (T : u_T) (N : Nat), am_cl[0]? = some (C, T, N) → C = "WorksBudget$Works" := fun C T N h => by cases h; rfl
theorem ow_S : ∀ (C : String) (T : u_T) (N : Nat), am_cl[1]? = some (C, T, N) → C = "WorksBudget$Search" := fun C T N h => by cases h; rfl
theorem ow_N : ∀ (C : String) (T : u_T) (N : Nat), am_cl[2]? = some (C, T, N) → C = "WorksBudget$Bounds" := fun C T N h => by cases h; rfl
theorem ow_P : ∀ (C : String) (T : u_T) (N : Nat), am_cl[3]? = some (C, T, N) → C = "WorksBudget$Policies" := fun C T N h => by cases h; rfl
theorem ow_B : ∀ (C : String) (T : u_T) (N : Nat), am_cl[4]? = some (C, T, N) → C = "WorksBudget" := fun C T N h => by cases h; rfl
theorem ow_M : ∀ (C : String) (T : u_T) (N : Nat), am_cl[5]? = some (C, T, N) → C = "WorksBudgetModel" := fun C T N h => by cases h; rfl
theorem fc_L_7 : am_fc "WorksBudgetLaw" 7 4 [.null, .null, .null, .null, .int 0, .int 0, .int 0, .int 0, .int 0, .int 0, .int 0] := ⟨_, F_B, 11, t_B, rfl, iw_B, by decide +kernel, (am_in1 (i := 10) rfl rfl), (am_in1 (i := 11) rfl rfl), (am_in1 (i := 1) rfl rfl), rfl⟩
theorem fc_B_9 : am_fc "WorksBudget" 9 0 [.int 0, .null, .int 0, .null, .null, .int 0, .null, .null, .null, .null, .int 0, .int 0, .null, .null, .long 0] := ⟨_, F_W, 15, t_W, rfl, iw_W, by decide +kernel, (am_in1 (i := 18) rfl rfl), (am_in1 (i := 19) rfl rfl), (am_in1 (i := 2) rfl rfl), rfl⟩
theorem fc_B_27 : am_fc "WorksBudget" 27 1 [.null, .long 0, .int 0, .int 0, .int 0, .int 0, .int 0, .null, .null, .null, .int 0, .int 0, .int 0, .long 0, .null, .null, .int 0, .int 0, .long 0, .int 0] := ⟨_, F_S, 20, t_S, rfl, iw_S, by decide +kernel, (am_in1 (i := 109) rfl rfl), (am_in1 (i := 110) rfl rfl), (am_in1 (i := 4) rfl rfl), rfl⟩
theorem fc_B_36 : am_fc "WorksBudget" 36 2 [.null] := ⟨_, F_N, 1, t_N, rfl, iw_N, by decide +kernel, (am_in1 (i := 177) rfl rfl), (am_in1 (i := 178) rfl rfl), (am_in1 (i := 5) rfl rfl), rfl⟩
theorem fc_B_43 : am_fc "WorksBudget" 43 3 [.null, .null] := ⟨_, F_P, 2, t_P, rfl, iw_P, by decide +kernel, (am_in1 (i := 187) rfl rfl), (am_in1 (i := 188) rfl rfl), (am_in1 (i := 6) rfl rfl), rfl⟩
theorem fc_L_18 : am_fc "WorksBudgetLaw" 18 5 [.int 0, .int 0, .null, .null, .int 0, .null, .null, .null, .null, .int 0, .null, .int 0, .null, .null, .null, .long 0, .int 0, .int 0, .int 0, .null, .null, .null, .null] := ⟨_, F_M, 23, t_M, rfl, iw_M, by decide +kernel, (am_in3 (i := 121) rfl rfl), (am_in3 (i := 122) rfl rfl), (am_in1 (i := 7) rfl rfl), rfl⟩
theorem st_L_15 : am_sI "WorksBudgetLaw" 15 m_B_init 1 := ⟨⟨(am_in1 (i := 14) rfl rfl), (am_in1 (i := 1) rfl rfl), ⟨by decide, by decide, by decide +kernel⟩, by decide⟩, Or.inl (am_in1 (i := 12) rfl rfl), ⟨rfl, (am_in1 (i := 13) rfl rfl)⟩, rfl⟩
theorem st_B_11 : am_sS "WorksBudget" 11 m_JM_min_III 2 := ⟨⟨(am_in1 (i := 22) rfl rfl), (am_in1 (i := 3) rfl rfl), ⟨by decide, by decide, by decide +kernel⟩, by decide⟩, Or.inl (am_in1 (i := 20) rfl rfl), (am_in1 (i := 21) rfl rfl)⟩
theorem st_B_17 : am_sS "WorksBudget" 17 m_JM_max_III 2 := ⟨⟨(am_in1 (i := 25) rfl rfl), (am_in1 (i := 3) rfl rfl), ⟨by decide, by decide, by decide +kernel⟩, by decide⟩, Or.inl (am_in1 (i := 23) rfl rfl), (am_in1 (i := 24) rfl rfl)⟩
theorem st_B_20 : am_sI "WorksBudget" 20 m_W_init 1 := ⟨⟨(am_in1 (i := 28) rfl rfl), (am_in1 (i := 2) rfl rfl), ⟨by decide, by decide, by decide +kernel⟩, by decide⟩, Or.inl (am_in1 (i := 26) rfl rfl), ⟨rfl, (am_in1 (i := 27) rfl rfl)⟩, rfl⟩
theorem st_B_29 : am_sI "WorksBudget" 29 m_S_init 1 := ⟨⟨(am_in1 (i := 113) rfl rfl), (am_in1 (i := 4) rfl rfl), ⟨by decide, by decide, by decide +kernel⟩, by decide⟩, Or.inl (am_in1 (i := 111) rfl rfl), ⟨rfl, (am_in1 (i := 112) rfl rfl)⟩, rfl⟩
theorem st_B_38 : am_sI "WorksBudget" 38 m_N_init 1 := ⟨⟨(am_in1 (i := 181) rfl rfl), (am_in1 (i := 5) rfl rfl), ⟨by decide, by decide, by decide +kernel⟩, by decide⟩, Or.inl (am_in1 (i := 179) rfl rfl), ⟨rfl, (am_in1 (i := 180) rfl rfl)⟩, rfl⟩
theorem st_B_45 : am_sI "WorksBudget" 45 m_P_init 1 := ⟨⟨(am_in1 (i := 191) rfl rfl), (am_in1 (i := 6) rfl rfl), ⟨by decide, by decide, by decide +kernel⟩, by decide⟩, Or.inl (am_in1 (i := 189) rfl rfl), ⟨rfl, (am_in1 (i := 190) rfl rfl)⟩, rfl⟩
theorem st_L_21 : am_sV "WorksBudgetLaw" 21 m_B_thing 1 4 := ⟨⟨(am_in1 (i := 237) rfl rfl), (am_in1 (i := 1) rfl rfl), ⟨by decide, by decide, by decide +kernel⟩, by decide⟩, Or.inl (am_in1 (i := 234) rfl rfl), ⟨(am_in1 (i := 235) rfl rfl), (am_in1 (i := 236) rfl rfl)⟩, F_B, 11, rfl⟩
theorem st_B_57 : am_sV "WorksBudget" 57 m_B_forget 0 4 := ⟨⟨(am_in2 (i := 1) rfl rfl), (am_in1 (i := 1) rfl rfl), ⟨by decide, by decide, by decide +kernel⟩, by decide⟩, Or.inl (am_in1 (i := 238) rfl rfl), ⟨(am_in2 (i := 0) rfl rfl), (am_in0 (i := 0) rfl rfl)⟩, F_B, 11, rfl⟩
theorem st_B_60 : am_sV "WorksBudget" 60 m_W_addThing 1 0 := ⟨⟨(am_in2 (i := 5) rfl rfl), (am_in1 (i := 2) rfl rfl), ⟨by decide, by decide, by decide +kernel⟩, by decide⟩, Or.inl (am_in2 (i := 2) rfl rfl), ⟨(am_in2 (i := 3) rfl rfl), (am_in2 (i := 4) rfl rfl)⟩, F_W, 15, rfl⟩
theorem st_L_28 : am_sV "WorksBudgetLaw" 28 m_B_choice 4 4 := ⟨⟨(am_in2 (i := 9) rfl rfl), (am_in1 (i := 1) rfl rfl), ⟨by decide, by decide, by decide +kernel⟩, by decide⟩, Or.inl (am_in2 (i := 6) rfl rfl), ⟨(am_in2 (i := 7) rfl rfl), (am_in2 (i := 8) rfl rfl)⟩, F_B, 11, rfl⟩
theorem st_B_64 : am_sV "WorksBudget" 64 m_W_isThing 1 0 := ⟨⟨(am_in2 (i := 13) rfl rfl), (am_in1 (i := 2) rfl rfl), ⟨by decide, by decide, by decide +kernel⟩, by decide⟩, Or.inl (am_in2 (i := 10) rfl rfl), ⟨(am_in2 (i := 11) rfl rfl), (am_in2 (i := 12) rfl rfl)⟩, F_W, 15, rfl⟩
theorem st_B_68 : am_sV "WorksBudget" 68 m_W_isYear 1 0 := ⟨⟨(am_in2 (i := 17) rfl rfl), (am_in1 (i := 2) rfl rfl), ⟨by decide, by decide, by decide +kernel⟩, by decide⟩, Or.inl (am_in2 (i := 14) rfl rfl), ⟨(am_in2 (i := 15) rfl rfl), (am_in2 (i := 16) rfl rfl)⟩, F_W, 15, rfl⟩
theorem st_B_76 : am_sS "WorksBudget" 76 m_B_isWithin 2 := ⟨⟨(am_in2 (i := 21) rfl rfl), (am_in1 (i := 1) rfl rfl), ⟨by decide, by decide, by decide +kernel⟩, by decide⟩, Or.inl (am_in2 (i := 19) rfl rfl), (am_in2 (i := 20) rfl rfl)⟩
theorem st_B_80 : am_sV "WorksBudget" 80 m_W_addChoice 4 0 := ⟨⟨(am_in2 (i := 25) rfl rfl), (am_in1 (i := 2) rfl rfl), ⟨by decide, by decide, by decide +kernel⟩, by decide⟩, Or.inl (am_in2 (i := 22) rfl rfl), ⟨(am_in2 (i := 23) rfl rfl), (am_in2 (i := 24) rfl rfl)⟩, F_W, 15, rfl⟩
theorem st_L_33 : am_sV "WorksBudgetLaw" 33 m_B_must 1 4 := ⟨⟨(am_in2 (i := 29) rfl rfl), (am_in1 (i := 1) rfl rfl), ⟨by decide, by decide, by decide +kernel⟩, by decide⟩, Or.inl (am_in2 (i := 26) rfl rfl), ⟨(am_in2 (i := 27) rfl rfl), (am_in2 (i := 28) rfl rfl)⟩, F_B, 11, rfl⟩
theorem st_B_84 : am_sV "WorksBudget" 84 m_W_isChoice 1 0 := ⟨⟨(am_in2 (i := 33) rfl rfl), (am_in1 (i := 2) rfl rfl), ⟨by decide, by decide, by decide +kernel⟩, by decide⟩, Or.inl (am_in2 (i := 30) rfl rfl), ⟨(am_in2 (i := 31) rfl rfl), (am_in2 (i := 32) rfl rfl)⟩, F_W, 15, rfl⟩
theorem st_B_90 : am_sS "WorksBudget" 90 m_B_isIn 2 := ⟨⟨(am_in2 (i := 36) rfl rfl), (am_in1 (i := 1) rfl rfl), ⟨by decide, by decide, by decide +kernel⟩, by decide⟩, Or.inl (am_in2 (i := 34) rfl rfl), (am_in2 (i := 35) rfl rfl)⟩
theorem st_L_38 : am_sV "WorksBudgetLaw" 38 m_B_budget 2 4 := ⟨⟨(am_in2 (i := 40) rfl rfl), (am_in1 (i := 1) rfl rfl), ⟨by decide, by decide, by decide +kernel⟩, by decide⟩, Or.inl (am_in2 (i := 37) rfl rfl), ⟨(am_in2 (i := 38) rfl rfl), (am_in2 (i := 39) rfl rfl)⟩, F_B, 11, rfl⟩
theorem st_L_43 : am_sV "WorksBudgetLaw" 43 m_B_join 3 4 := ⟨⟨(am_in2 (i := 45) rfl rfl), (am_in1 (i := 1) rfl rfl), ⟨by decide, by decide, by decide +kernel⟩, by decide⟩, Or.inl (am_in2 (i := 42) rfl rfl), ⟨(am_in2 (i := 43) rfl rfl), (am_in2 (i := 44) rfl rfl)⟩, F_B, 11, rfl⟩
theorem st_B_100 : am_sV "WorksBudget" 100 m_W_canJoin 2 0 := ⟨⟨(am_in2 (i := 49) rfl rfl), (am_in1 (i := 2) rfl rfl), ⟨by decide, by decide, by decide +kernel⟩, by decide⟩, Or.inl (am_in2 (i := 46) rfl rfl), ⟨(am_in2 (i := 47) rfl rfl), (am_in2 (i := 48) rfl rfl)⟩, F_W, 15, rfl⟩
theorem st_W_58 : am_sS "WorksBudget$Works" 58 m_B_isIn 2 := ⟨⟨(am_in2 (i := 36) rfl rfl), (am_in1 (i := 1) rfl rfl), ⟨by decide, by decide, by decide +kernel⟩, by decide⟩, Or.inr ⟨"WorksBudget", by decide +kernel⟩, (am_in2 (i := 35) rfl rfl)⟩
theorem st_B_106 : am_sV "WorksBudget" 106 m_W_addJoin 3 0 := ⟨⟨(am_in2 (i := 54) rfl rfl), (am_in1 (i := 2) rfl rfl), ⟨by decide, by decide, by decide +kernel⟩, by decide⟩, Or.inl (am_in2 (i := 51) rfl rfl), ⟨(am_in2 (i := 52) rfl rfl), (am_in2 (i := 53) rfl rfl)⟩, F_W, 15, rfl⟩
theorem st_L_48 : am_sV "WorksBudgetLaw" 48 m_B_district 2 4 := ⟨⟨(am_in2 (i := 58) rfl rfl), (am_in1 (i := 1) rfl rfl), ⟨by decide, by decide, by decide +kernel⟩, by decide⟩, Or.inl (am_in2 (i := 55) rfl rfl), ⟨(am_in2 (i := 56) rfl rfl), (am_in2 (i := 57) rfl rfl)⟩, F_B, 11, rfl⟩
theorem st_B_110 : am_sS "WorksBudget" 110 m_B_isDistrict 1 := ⟨⟨(am_in2 (i := 61) rfl rfl), (am_in1 (i := 1) rfl rfl), ⟨by decide, by decide, by decide +kernel⟩, by decide⟩, Or.inl (am_in2 (i := 59) rfl rfl), (am_in2 (i := 60) rfl rfl)⟩
theorem st_L_53 : am_sV "WorksBudgetLaw" 53 m_B_fair 1 4 := ⟨⟨(am_in2 (i := 65) rfl rfl), (am_in1 (i := 1) rfl rfl), ⟨by decide, by decide, by decide +kernel⟩, by decide⟩, Or.inl (am_in2 (i := 62) rfl rfl), ⟨(am_in2 (i := 63) rfl rfl), (am_in2 (i := 64) rfl rfl)⟩, F_B, 11, rfl⟩
theorem st_L_58 : am_sV "WorksBudgetLaw" 58 m_B_run 1 4 := ⟨⟨(am_in2 (i := 71) rfl rfl), (am_in1 (i := 1) rfl rfl), ⟨by decide, by decide, by decide +kernel⟩, by decide⟩, Or.inl (am_in2 (i := 68) rfl rfl), ⟨(am_in2 (i := 69) rfl rfl), (am_in2 (i := 70) rfl rfl)⟩, F_B, 11, rfl⟩
theorem st_B_125 : am_sS "WorksBudget" 125 m_B_isNodes 1 := ⟨⟨(am_in2 (i := 74) rfl rfl), (am_in1 (i := 1) rfl rfl), ⟨by decide, by decide, by decide +kernel⟩, by decide⟩, Or.inl (am_in2 (i := 72) rfl rfl), (am_in2 (i := 73) rfl rfl)⟩
theorem st_B_129 : am_sV "WorksBudget" 129 m_S_bestPlan 1 1 := ⟨⟨(am_in2 (i := 79) rfl rfl), (am_in1 (i := 4) rfl rfl), ⟨by decide, by decide, by decide +kernel⟩, by decide⟩, Or.inl (am_in2 (i := 76) rfl rfl), ⟨(am_in2 (i := 77) rfl rfl), (am_in2 (i := 78) rfl rfl)⟩, F_S, 20, rfl⟩
theorem st_S_39 : am_sV "WorksBudget$Search" 39 m_S_prepare 2 1 := ⟨⟨(am_in2 (i := 83) rfl rfl), (am_in1 (i := 4) rfl rfl), ⟨by decide, by decide, by decide +kernel⟩, by decide⟩, Or.inl (am_in2 (i := 80) rfl rfl), ⟨(am_in2 (i := 82) rfl rfl), (am_in0 (i := 1) rfl rfl)⟩, F_S, 20, rfl⟩
theorem st_S_71 : am_sV "WorksBudget$Search" 71 m_W_usedDistricts 0 0 := ⟨⟨(am_in2 (i := 87) rfl rfl), (am_in1 (i := 2) rfl rfl), ⟨by decide, by decide, by decide +kernel⟩, by decide⟩, Or.inl (am_in2 (i := 84) rfl rfl), ⟨(am_in2 (i := 85) rfl rfl), (am_in2 (i := 86) rfl rfl)⟩, F_W, 15, rfl⟩
theorem st_S_91 : am_sV "WorksBudget$Search" 91 m_S_prepareRests 0 1 := ⟨⟨(am_in2 (i := 91) rfl rfl), (am_in1 (i := 4) rfl rfl), ⟨by decide, by decide, by decide +kernel⟩, by decide⟩, Or.inl (am_in2 (i := 88) rfl rfl), ⟨(am_in2 (i := 90) rfl rfl), (am_in0 (i := 2) rfl rfl)⟩, F_S, 20, rfl⟩
theorem st_S_104 : am_sV "WorksBudget$Search" 104 m_W_savesWith 2 0 := ⟨⟨(am_in2 (i := 95) rfl rfl), (am_in1 (i := 2) rfl rfl), ⟨by decide, by decide, by decide +kernel⟩, by decide⟩, Or.inl (am_in2 (i := 92) rfl rfl), ⟨(am_in2 (i := 93) rfl rfl), (am_in2 (i := 94) rfl rfl)⟩, F_W, 15, rfl⟩
theorem st_S_43 : am_sV "WorksBudget$Search" 43 m_S_lookFrom 2 1 := ⟨⟨(am_in2 (i := 99) rfl rfl), (am_in1 (i := 4) rfl rfl), ⟨by decide, by decide, by decide +kernel⟩, by decide⟩, Or.inl (am_in2 (i := 96) rfl rfl), ⟨(am_in2 (i := 98) rfl rfl), (am_in0 (i := 3) rfl rfl)⟩, F_S, 20, rfl⟩
theorem st_S_108 : am_sV "WorksBudget$Search" 108 m_S_isHopeless 1 1 := ⟨⟨(am_in2 (i := 103) rfl rfl), (am_in1 (i := 4) rfl rfl), ⟨by decide, by decide, by decide +kernel⟩, by decide⟩, Or.inl (am_in2 (i := 100) rfl rfl), ⟨(am_in2 (i := 102) rfl rfl), (am_in0 (i := 4) rfl rfl)⟩, F_S, 20, rfl⟩
theorem st_S_142 : am_sV "WorksBudget$Search" 142 m_S_countOfChanges 1 1 := ⟨⟨(am_in2 (i := 107) rfl rfl), (am_in1 (i := 4) rfl rfl), ⟨by decide, by decide, by decide +kernel⟩, by decide⟩, Or.inl (am_in2 (i := 104) rfl rfl), ⟨(am_in2 (i := 106) rfl rfl), (am_in0 (i := 5) rfl rfl)⟩, F_S, 20, rfl⟩
theorem st_S_151 : am_sS "WorksBudget$Search" 151 m_JI_bitCount 1 := ⟨⟨(am_in2 (i := 110) rfl rfl), (am_in1 (i := 8) rfl rfl), ⟨by decide, by decide, by decide +kernel⟩, by decide⟩, Or.inl (am_in2 (i := 108) rfl rfl), (am_in2 (i := 109) rfl rfl)⟩
theorem st_S_112 : am_sV "WorksBudget$Search" 112 m_S_weigh 0 1 := ⟨⟨(am_in2 (i := 117) rfl rfl), (am_in1 (i := 4) rfl rfl), ⟨by decide, by decide, by decide +kernel⟩, by decide⟩, Or.inl (am_in2 (i := 114) rfl rfl), ⟨(am_in2 (i := 116) rfl rfl), (am_in0 (i := 6) rfl rfl)⟩, F_S, 20, rfl⟩
theorem st_S_156 : am_sV "WorksBudget$Search" 156 m_S_isFair 0 1 := ⟨⟨(am_in2 (i := 121) rfl rfl), (am_in1 (i := 4) rfl rfl), ⟨by decide, by decide, by decide +kernel⟩, by decide⟩, Or.inl (am_in2 (i := 118) rfl rfl), ⟨(am_in2 (i := 120) rfl rfl), (am_in0 (i := 7) rfl rfl)⟩, F_S, 20, rfl⟩
theorem st_S_124 : am_sS "WorksBudget$Search" 124 m_B_isIn 2 := ⟨⟨(am_in2 (i := 36) rfl rfl), (am_in1 (i := 1) rfl rfl), ⟨by decide, by decide, by decide +kernel⟩, by decide⟩, Or.inr ⟨"WorksBudget", by decide +kernel⟩, (am_in2 (i := 35) rfl rfl)⟩
theorem st_S_160 : am_sV "WorksBudget$Search" 160 m_S_isBetter 1 1 := ⟨⟨(am_in2 (i := 127) rfl rfl), (am_in1 (i := 4) rfl rfl), ⟨by decide, by decide, by decide +kernel⟩, by decide⟩, Or.inl (am_in2 (i := 124) rfl rfl), ⟨(am_in2 (i := 126) rfl rfl), (am_in0 (i := 8) rfl rfl)⟩, F_S, 20, rfl⟩
theorem st_S_115 : am_sV "WorksBudget$Search" 115 m_S_lookWith 2 1 := ⟨⟨(am_in2 (i := 131) rfl rfl), (am_in1 (i := 4) rfl rfl), ⟨by decide, by decide, by decide +kernel⟩, by decide⟩, Or.inl (am_in2 (i := 128) rfl rfl), ⟨(am_in2 (i := 130) rfl rfl), (am_in0 (i := 9) rfl rfl)⟩, F_S, 20, rfl⟩
theorem st_S_128 : am_sV "WorksBudget$Search" 128 m_S_pick 2 1 := ⟨⟨(am_in2 (i := 135) rfl rfl), (am_in1 (i := 4) rfl rfl), ⟨by decide, by decide, by decide +kernel⟩, by decide⟩, Or.inl (am_in2 (i := 132) rfl rfl), ⟨(am_in2 (i := 134) rfl rfl), (am_in0 (i := 10) rfl rfl)⟩, F_S, 20, rfl⟩
theorem st_S_138 : am_sV "WorksBudget$Search" 138 m_W_districtOfChoice 1 0 := ⟨⟨(am_in2 (i := 139) rfl rfl), (am_in1 (i := 2) rfl rfl), ⟨by decide, by decide, by decide +kernel⟩, by decide⟩, Or.inl (am_in2 (i := 136) rfl rfl), ⟨(am_in2 (i := 137) rfl rfl), (am_in2 (i := 138) rfl rfl)⟩, F_W, 15, rfl⟩
theorem st_S_132 : am_sV "WorksBudget$Search" 132 m_S_isOverspent 1 1 := ⟨⟨(am_in2 (i := 143) rfl rfl), (am_in1 (i := 4) rfl rfl), ⟨by decide, by decide, by decide +kernel⟩, by decide⟩, Or.inl (am_in2 (i := 140) rfl rfl), ⟨(am_in2 (i := 142) rfl rfl), (am_in0 (i := 11) rfl rfl)⟩, F_S, 20, rfl⟩
theorem st_S_118 : am_sV "WorksBudget$Search" 118 m_S_lookWithout 2 1 := ⟨⟨(am_in2 (i := 147) rfl rfl), (am_in1 (i := 4) rfl rfl), ⟨by decide, by decide, by decide +kernel⟩, by decide⟩, Or.inl (am_in2 (i := 144) rfl rfl), ⟨(am_in2 (i := 146) rfl rfl), (am_in0 (i := 12) rfl rfl)⟩, F_S, 20, rfl⟩
theorem st_B_133 : am_sV "WorksBudget" 133 m_W_countOfSets 0 0 := ⟨⟨(am_in2 (i := 151) rfl rfl), (am_in1 (i := 2) rfl rfl), ⟨by decide, by decide, by decide +kernel⟩, by decide⟩, Or.inl (am_in2 (i := 148) rfl rfl), ⟨(am_in2 (i := 149) rfl rfl), (am_in2 (i := 150) rfl rfl)⟩, F_W, 15, rfl⟩
theorem st_L_63 : am_sV "WorksBudgetLaw" 63 m_B_chosen 1 4 := ⟨⟨(am_in2 (i := 155) rfl rfl), (am_in1 (i := 1) rfl rfl), ⟨by decide, by decide, by decide +kernel⟩, by decide⟩, Or.inl (am_in2 (i := 152) rfl rfl), ⟨(am_in2 (i := 153) rfl rfl), (am_in2 (i := 154) rfl rfl)⟩, F_B, 11, rfl⟩
theorem st_B_141 : am_sV "WorksBudget" 141 m_B_planOrNothing 0 4 := ⟨⟨(am_in2 (i := 159) rfl rfl), (am_in1 (i := 1) rfl rfl), ⟨by decide, by decide, by decide +kernel⟩, by decide⟩, Or.inl (am_in2 (i := 156) rfl rfl), ⟨(am_in2 (i := 158) rfl rfl), (am_in0 (i := 13) rfl rfl)⟩, F_B, 11, rfl⟩
theorem st_L_67 : am_sV "WorksBudgetLaw" 67 m_B_worth 0 4 := ⟨⟨(am_in2 (i := 163) rfl rfl), (am_in1 (i := 1) rfl rfl), ⟨by decide, by decide, by decide +kernel⟩, by decide⟩, Or.inl (am_in2 (i := 160) rfl rfl), ⟨(am_in2 (i := 161) rfl rfl), (am_in2 (i := 162) rfl rfl)⟩, F_B, 11, rfl⟩
theorem st_B_144 : am_sV "WorksBudget" 144 m_W_worthOfPlan 1 0 := ⟨⟨(am_in2 (i := 167) rfl rfl), (am_in1 (i := 2) rfl rfl), ⟨by decide, by decide, by decide +kernel⟩, by decide⟩, Or.inl (am_in2 (i := 164) rfl rfl), ⟨(am_in2 (i := 165) rfl rfl), (am_in2 (i := 166) rfl rfl)⟩, F_W, 15, rfl⟩
theorem st_L_72 : am_sV "WorksBudgetLaw" 72 m_B_bound 1 4 := ⟨⟨(am_in2 (i := 171) rfl rfl), (am_in1 (i := 1) rfl rfl), ⟨by decide, by decide, by decide +kernel⟩, by decide⟩, Or.inl (am_in2 (i := 168) rfl rfl), ⟨(am_in2 (i := 169) rfl rfl), (am_in2 (i := 170) rfl rfl)⟩, F_B, 11, rfl⟩
theorem st_B_148 : am_sV "WorksBudget" 148 m_N_byThings 0 2 := ⟨⟨(am_in2 (i := 175) rfl rfl), (am_in1 (i := 5) rfl rfl), ⟨by decide, by decide, by decide +kernel⟩, by decide⟩, Or.inl (am_in2 (i := 172) rfl rfl), ⟨(am_in2 (i := 173) rfl rfl), (am_in2 (i := 174) rfl rfl)⟩, F_N, 1, rfl⟩
theorem st_N_19 : am_sV "WorksBudget$Bounds" 19 m_W_mostWorth 1 0 := ⟨⟨(am_in2 (i := 179) rfl rfl), (am_in1 (i := 2) rfl rfl), ⟨by decide, by decide, by decide +kernel⟩, by decide⟩, Or.inl (am_in2 (i := 176) rfl rfl), ⟨(am_in2 (i := 177) rfl rfl), (am_in2 (i := 178) rfl rfl)⟩, F_W, 15, rfl⟩
theorem st_W_85 : am_sV "WorksBudget$Works" 85 m_W_mostWorthBy 2 0 := ⟨⟨(am_in2 (i := 183) rfl rfl), (am_in1 (i := 2) rfl rfl), ⟨by decide, by decide, by decide +kernel⟩, by decide⟩, Or.inl (am_in2 (i := 180) rfl rfl), ⟨(am_in2 (i := 181) rfl rfl), (am_in2 (i := 182) rfl rfl)⟩, F_W, 15, rfl⟩
theorem st_W_69 : am_sS "WorksBudget$Works" 69 m_JM_max_JJJ 2 := ⟨⟨(am_in2 (i := 186) rfl rfl), (am_in1 (i := 3) rfl rfl), ⟨by decide, by decide, by decide +kernel⟩, by decide⟩, Or.inl (am_in2 (i := 184) rfl rfl), (am_in2 (i := 185) rfl rfl)⟩
theorem st_B_152 : am_sV "WorksBudget" 152 m_N_byPrices 1 2 := ⟨⟨(am_in2 (i := 190) rfl rfl), (am_in1 (i := 5) rfl rfl), ⟨by decide, by decide, by decide +kernel⟩, by decide⟩, Or.inl (am_in2 (i := 187) rfl rfl), ⟨(am_in2 (i := 188) rfl rfl), (am_in2 (i := 189) rfl rfl)⟩, F_N, 1, rfl⟩
theorem st_N_30 : am_sV "WorksBudget$Bounds" 30 m_N_byPrice 3 2 := ⟨⟨(am_in2 (i := 194) rfl rfl), (am_in1 (i := 5) rfl rfl), ⟨by decide, by decide, by decide +kernel⟩, by decide⟩, Or.inl (am_in2 (i := 191) rfl rfl), ⟨(am_in2 (i := 193) rfl rfl), (am_in0 (i := 14) rfl rfl)⟩, F_N, 1, rfl⟩
theorem st_N_49 : am_sV "WorksBudget$Bounds" 49 m_N_mostPartsOf 3 2 := ⟨⟨(am_in2 (i := 198) rfl rfl), (am_in1 (i := 5) rfl rfl), ⟨by decide, by decide, by decide +kernel⟩, by decide⟩, Or.inl (am_in2 (i := 195) rfl rfl), ⟨(am_in2 (i := 197) rfl rfl), (am_in0 (i := 15) rfl rfl)⟩, F_N, 1, rfl⟩
theorem st_N_57 : am_sV "WorksBudget$Bounds" 57 m_W_savesOfAllJoins 1 0 := ⟨⟨(am_in2 (i := 202) rfl rfl), (am_in1 (i := 2) rfl rfl), ⟨by decide, by decide, by decide +kernel⟩, by decide⟩, Or.inl (am_in2 (i := 199) rfl rfl), ⟨(am_in2 (i := 200) rfl rfl), (am_in2 (i := 201) rfl rfl)⟩, F_W, 15, rfl⟩
theorem st_W_65 : am_sV "WorksBudget$Works" 65 m_W_savesWith 2 0 := ⟨⟨(am_in2 (i := 95) rfl rfl), (am_in1 (i := 2) rfl rfl), ⟨by decide, by decide, by decide +kernel⟩, by decide⟩, Or.inl (am_in2 (i := 203) rfl rfl), ⟨(am_in2 (i := 93) rfl rfl), (am_in2 (i := 94) rfl rfl)⟩, F_W, 15, rfl⟩
theorem st_N_60 : am_sS "WorksBudget$Bounds" 60 m_JM_max_JJJ 2 := ⟨⟨(am_in2 (i := 186) rfl rfl), (am_in1 (i := 3) rfl rfl), ⟨by decide, by decide, by decide +kernel⟩, by decide⟩, Or.inl (am_in2 (i := 204) rfl rfl), (am_in2 (i := 185) rfl rfl)⟩
theorem st_N_43 : am_sS "WorksBudget$Bounds" 43 m_JM_min_JJJ 2 := ⟨⟨(am_in2 (i := 207) rfl rfl), (am_in1 (i := 3) rfl rfl), ⟨by decide, by decide, by decide +kernel⟩, by decide⟩, Or.inl (am_in2 (i := 205) rfl rfl), (am_in2 (i := 206) rfl rfl)⟩
theorem st_L_77 : am_sV "WorksBudgetLaw" 77 m_B_clash 1 4 := ⟨⟨(am_in2 (i := 211) rfl rfl), (am_in1 (i := 1) rfl rfl), ⟨by decide, by decide, by decide +kernel⟩, by decide⟩, Or.inl (am_in2 (i := 208) rfl rfl), ⟨(am_in2 (i := 209) rfl rfl), (am_in2 (i := 210) rfl rfl)⟩, F_B, 11, rfl⟩
theorem st_B_159 : am_sV "WorksBudget" 159 m_S_someHolds 1 1 := ⟨⟨(am_in2 (i := 215) rfl rfl), (am_in1 (i := 4) rfl rfl), ⟨by decide, by decide, by decide +kernel⟩, by decide⟩, Or.inl (am_in2 (i := 212) rfl rfl), ⟨(am_in2 (i := 213) rfl rfl), (am_in2 (i := 214) rfl rfl)⟩, F_S, 20, rfl⟩
theorem st_B_162 : am_sV "WorksBudget" 162 m_B_clashingMusts 0 4 := ⟨⟨(am_in2 (i := 220) rfl rfl), (am_in1 (i := 1) rfl rfl), ⟨by decide, by decide, by decide +kernel⟩, by decide⟩, Or.inl (am_in2 (i := 217) rfl rfl), ⟨(am_in2 (i := 219) rfl rfl), (am_in0 (i := 16) rfl rfl)⟩, F_B, 11, rfl⟩
theorem st_B_168 : am_sS "WorksBudget" 168 m_B_memberOf 2 := ⟨⟨(am_in2 (i := 223) rfl rfl), (am_in1 (i := 1) rfl rfl), ⟨by decide, by decide, by decide +kernel⟩, by decide⟩, Or.inl (am_in2 (i := 221) rfl rfl), (am_in2 (i := 222) rfl rfl)⟩
theorem st_L_81 : am_sV "WorksBudgetLaw" 81 m_B_proved 0 4 := ⟨⟨(am_in2 (i := 227) rfl rfl), (am_in1 (i := 1) rfl rfl), ⟨by decide, by decide, by decide +kernel⟩, by decide⟩, Or.inl (am_in2 (i := 224) rfl rfl), ⟨(am_in2 (i := 225) rfl rfl), (am_in2 (i := 226) rfl rfl)⟩, F_B, 11, rfl⟩
theorem st_L_86 : am_sV "WorksBudgetLaw" 86 m_B_price 2 4 := ⟨⟨(am_in2 (i := 231) rfl rfl), (am_in1 (i := 1) rfl rfl), ⟨by decide, by decide, by decide +kernel⟩, by decide⟩, Or.inl (am_in2 (i := 228) rfl rfl), ⟨(am_in2 (i := 229) rfl rfl), (am_in2 (i := 230) rfl rfl)⟩, F_B, 11, rfl⟩
theorem st_B_171 : am_sV "WorksBudget" 171 m_B_gainOfBest 1 4 := ⟨⟨(am_in2 (i := 235) rfl rfl), (am_in1 (i := 1) rfl rfl), ⟨by decide, by decide, by decide +kernel⟩, by decide⟩, Or.inl (am_in2 (i := 232) rfl rfl), ⟨(am_in2 (i := 234) rfl rfl), (am_in0 (i := 17) rfl rfl)⟩, F_B, 11, rfl⟩
theorem st_B_230 : am_sV "WorksBudget" 230 m_S_bestPlanWithMore 2 1 := ⟨⟨(am_in3 (i := 1) rfl rfl), (am_in1 (i := 4) rfl rfl), ⟨by decide, by decide, by decide +kernel⟩, by decide⟩, Or.inl (am_in2 (i := 238) rfl rfl), ⟨(am_in2 (i := 239) rfl rfl), (am_in3 (i := 0) rfl rfl)⟩, F_S, 20, rfl⟩
theorem st_L_91 : am_sV "WorksBudgetLaw" 91 m_B_old 2 4 := ⟨⟨(am_in3 (i := 5) rfl rfl), (am_in1 (i := 1) rfl rfl), ⟨by decide, by decide, by decide +kernel⟩, by decide⟩, Or.inl (am_in3 (i := 2) rfl rfl), ⟨(am_in3 (i := 3) rfl rfl), (am_in3 (i := 4) rfl rfl)⟩, F_B, 11, rfl⟩
theorem st_L_96 : am_sV "WorksBudgetLaw" 96 m_B_changes 1 4 := ⟨⟨(am_in3 (i := 9) rfl rfl), (am_in1 (i := 1) rfl rfl), ⟨by decide, by decide, by decide +kernel⟩, by decide⟩, Or.inl (am_in3 (i := 6) rfl rfl), ⟨(am_in3 (i := 7) rfl rfl), (am_in3 (i := 8) rfl rfl)⟩, F_B, 11, rfl⟩
theorem st_B_179 : am_sV "WorksBudget" 179 m_S_nearestPlan 2 1 := ⟨⟨(am_in3 (i := 13) rfl rfl), (am_in1 (i := 4) rfl rfl), ⟨by decide, by decide, by decide +kernel⟩, by decide⟩, Or.inl (am_in3 (i := 10) rfl rfl), ⟨(am_in3 (i := 11) rfl rfl), (am_in3 (i := 12) rfl rfl)⟩, F_S, 20, rfl⟩
theorem st_S_55 : am_sV "WorksBudget$Search" 55 m_W_countOfSets 0 0 := ⟨⟨(am_in2 (i := 151) rfl rfl), (am_in1 (i := 2) rfl rfl), ⟨by decide, by decide, by decide +kernel⟩, by decide⟩, Or.inl (am_in3 (i := 14) rfl rfl), ⟨(am_in2 (i := 149) rfl rfl), (am_in2 (i := 150) rfl rfl)⟩, F_W, 15, rfl⟩
theorem st_B_183 : am_sS "WorksBudget" 183 m_JI_bitCount 1 := ⟨⟨(am_in2 (i := 110) rfl rfl), (am_in1 (i := 8) rfl rfl), ⟨by decide, by decide, by decide +kernel⟩, by decide⟩, Or.inl (am_in3 (i := 15) rfl rfl), (am_in2 (i := 109) rfl rfl)⟩
theorem st_L_100 : am_sV "WorksBudgetLaw" 100 m_B_changed 1 4 := ⟨⟨(am_in3 (i := 19) rfl rfl), (am_in1 (i := 1) rfl rfl), ⟨by decide, by decide, by decide +kernel⟩, by decide⟩, Or.inl (am_in3 (i := 16) rfl rfl), ⟨(am_in3 (i := 17) rfl rfl), (am_in3 (i := 18) rfl rfl)⟩, F_B, 11, rfl⟩
theorem st_L_104 : am_sV "WorksBudgetLaw" 104 m_B_backlog 1 4 := ⟨⟨(am_in3 (i := 23) rfl rfl), (am_in1 (i := 1) rfl rfl), ⟨by decide, by decide, by decide +kernel⟩, by decide⟩, Or.inl (am_in3 (i := 20) rfl rfl), ⟨(am_in3 (i := 21) rfl rfl), (am_in3 (i := 22) rfl rfl)⟩, F_B, 11, rfl⟩
theorem st_B_188 : am_sV "WorksBudget" 188 m_W_isDoneBy 3 0 := ⟨⟨(am_in3 (i := 27) rfl rfl), (am_in1 (i := 2) rfl rfl), ⟨by decide, by decide, by decide +kernel⟩, by decide⟩, Or.inl (am_in3 (i := 24) rfl rfl), ⟨(am_in3 (i := 25) rfl rfl), (am_in3 (i := 26) rfl rfl)⟩, F_W, 15, rfl⟩
theorem st_B_192 : am_sV "WorksBudget" 192 m_W_mostWorthBy 2 0 := ⟨⟨(am_in2 (i := 183) rfl rfl), (am_in1 (i := 2) rfl rfl), ⟨by decide, by decide, by decide +kernel⟩, by decide⟩, Or.inl (am_in3 (i := 28) rfl rfl), ⟨(am_in2 (i := 181) rfl rfl), (am_in2 (i := 182) rfl rfl)⟩, F_W, 15, rfl⟩
theorem st_L_108 : am_sV "WorksBudgetLaw" 108 m_B_rank 1 4 := ⟨⟨(am_in3 (i := 32) rfl rfl), (am_in1 (i := 1) rfl rfl), ⟨by decide, by decide, by decide +kernel⟩, by decide⟩, Or.inl (am_in3 (i := 29) rfl rfl), ⟨(am_in3 (i := 30) rfl rfl), (am_in3 (i := 31) rfl rfl)⟩, F_B, 11, rfl⟩
theorem st_B_196 : am_sV "WorksBudget" 196 m_B_countOfThingsBefore 1 4 := ⟨⟨(am_in3 (i := 36) rfl rfl), (am_in1 (i := 1) rfl rfl), ⟨by decide, by decide, by decide +kernel⟩, by decide⟩, Or.inl (am_in3 (i := 33) rfl rfl), ⟨(am_in3 (i := 35) rfl rfl), (am_in0 (i := 18) rfl rfl)⟩, F_B, 11, rfl⟩
theorem st_B_234 : am_sV "WorksBudget" 234 m_W_ranksBefore 2 0 := ⟨⟨(am_in3 (i := 40) rfl rfl), (am_in1 (i := 2) rfl rfl), ⟨by decide, by decide, by decide +kernel⟩, by decide⟩, Or.inl (am_in3 (i := 37) rfl rfl), ⟨(am_in3 (i := 38) rfl rfl), (am_in3 (i := 39) rfl rfl)⟩, F_W, 15, rfl⟩
theorem st_W_88 : am_sV "WorksBudget$Works" 88 m_W_mostWorth 1 0 := ⟨⟨(am_in2 (i := 179) rfl rfl), (am_in1 (i := 2) rfl rfl), ⟨by decide, by decide, by decide +kernel⟩, by decide⟩, Or.inl (am_in3 (i := 41) rfl rfl), ⟨(am_in2 (i := 177) rfl rfl), (am_in2 (i := 178) rfl rfl)⟩, F_W, 15, rfl⟩
theorem st_L_112 : am_sV "WorksBudgetLaw" 112 m_B_share 2 4 := ⟨⟨(am_in3 (i := 45) rfl rfl), (am_in1 (i := 1) rfl rfl), ⟨by decide, by decide, by decide +kernel⟩, by decide⟩, Or.inl (am_in3 (i := 42) rfl rfl), ⟨(am_in3 (i := 43) rfl rfl), (am_in3 (i := 44) rfl rfl)⟩, F_B, 11, rfl⟩
theorem st_B_199 : am_sV "WorksBudget" 199 m_W_worthOfDistrict 2 0 := ⟨⟨(am_in3 (i := 49) rfl rfl), (am_in1 (i := 2) rfl rfl), ⟨by decide, by decide, by decide +kernel⟩, by decide⟩, Or.inl (am_in3 (i := 46) rfl rfl), ⟨(am_in3 (i := 47) rfl rfl), (am_in3 (i := 48) rfl rfl)⟩, F_W, 15, rfl⟩
theorem st_W_81 : am_sV "WorksBudget$Works" 81 m_W_districtOfChoice 1 0 := ⟨⟨(am_in2 (i := 139) rfl rfl), (am_in1 (i := 2) rfl rfl), ⟨by decide, by decide, by decide +kernel⟩, by decide⟩, Or.inl (am_in3 (i := 50) rfl rfl), ⟨(am_in2 (i := 137) rfl rfl), (am_in2 (i := 138) rfl rfl)⟩, F_W, 15, rfl⟩
theorem st_B_202 : am_sS "WorksBudget" 202 m_B_greatestDivisor 2 := ⟨⟨(am_in3 (i := 53) rfl rfl), (am_in1 (i := 1) rfl rfl), ⟨by decide, by decide, by decide +kernel⟩, by decide⟩, Or.inl (am_in3 (i := 51) rfl rfl), (am_in3 (i := 52) rfl rfl)⟩
theorem st_L_116 : am_sV "WorksBudgetLaw" 116 m_B_policy 1 4 := ⟨⟨(am_in3 (i := 57) rfl rfl), (am_in1 (i := 1) rfl rfl), ⟨by decide, by decide, by decide +kernel⟩, by decide⟩, Or.inl (am_in3 (i := 54) rfl rfl), ⟨(am_in3 (i := 55) rfl rfl), (am_in3 (i := 56) rfl rfl)⟩, F_B, 11, rfl⟩
theorem st_B_206 : am_sV "WorksBudget" 206 m_P_planBy 1 3 := ⟨⟨(am_in3 (i := 61) rfl rfl), (am_in1 (i := 6) rfl rfl), ⟨by decide, by decide, by decide +kernel⟩, by decide⟩, Or.inl (am_in3 (i := 58) rfl rfl), ⟨(am_in3 (i := 59) rfl rfl), (am_in3 (i := 60) rfl rfl)⟩, F_P, 2, rfl⟩
theorem st_P_25 : am_sV "WorksBudget$Policies" 25 m_P_isPossible 1 3 := ⟨⟨(am_in3 (i := 65) rfl rfl), (am_in1 (i := 6) rfl rfl), ⟨by decide, by decide, by decide +kernel⟩, by decide⟩, Or.inl (am_in3 (i := 62) rfl rfl), ⟨(am_in3 (i := 64) rfl rfl), (am_in0 (i := 19) rfl rfl)⟩, F_P, 2, rfl⟩
theorem st_P_36 : am_sV "WorksBudget$Policies" 36 m_W_isPlan 1 0 := ⟨⟨(am_in3 (i := 69) rfl rfl), (am_in1 (i := 2) rfl rfl), ⟨by decide, by decide, by decide +kernel⟩, by decide⟩, Or.inl (am_in3 (i := 66) rfl rfl), ⟨(am_in3 (i := 67) rfl rfl), (am_in3 (i := 68) rfl rfl)⟩, F_W, 15, rfl⟩
theorem st_P_39 : am_sV "WorksBudget$Policies" 39 m_W_isWithinAllBudgets 1 0 := ⟨⟨(am_in3 (i := 73) rfl rfl), (am_in1 (i := 2) rfl rfl), ⟨by decide, by decide, by decide +kernel⟩, by decide⟩, Or.inl (am_in3 (i := 70) rfl rfl), ⟨(am_in3 (i := 71) rfl rfl), (am_in3 (i := 72) rfl rfl)⟩, F_W, 15, rfl⟩
theorem st_W_78 : am_sV "WorksBudget$Works" 78 m_W_isWithinBudget 2 0 := ⟨⟨(am_in3 (i := 77) rfl rfl), (am_in1 (i := 2) rfl rfl), ⟨by decide, by decide, by decide +kernel⟩, by decide⟩, Or.inl (am_in3 (i := 74) rfl rfl), ⟨(am_in3 (i := 75) rfl rfl), (am_in3 (i := 76) rfl rfl)⟩, F_W, 15, rfl⟩
theorem st_W_75 : am_sV "WorksBudget$Works" 75 m_W_spentIn 2 0 := ⟨⟨(am_in3 (i := 81) rfl rfl), (am_in1 (i := 2) rfl rfl), ⟨by decide, by decide, by decide +kernel⟩, by decide⟩, Or.inl (am_in3 (i := 78) rfl rfl), ⟨(am_in3 (i := 79) rfl rfl), (am_in3 (i := 80) rfl rfl)⟩, F_W, 15, rfl⟩
theorem st_P_29 : am_sV "WorksBudget$Policies" 29 m_P_putInOrder 1 3 := ⟨⟨(am_in3 (i := 85) rfl rfl), (am_in1 (i := 6) rfl rfl), ⟨by decide, by decide, by decide +kernel⟩, by decide⟩, Or.inl (am_in3 (i := 82) rfl rfl), ⟨(am_in3 (i := 84) rfl rfl), (am_in0 (i := 20) rfl rfl)⟩, F_P, 2, rfl⟩
theorem st_P_42 : am_sV "WorksBudget$Policies" 42 m_P_goesBefore 3 3 := ⟨⟨(am_in3 (i := 89) rfl rfl), (am_in1 (i := 6) rfl rfl), ⟨by decide, by decide, by decide +kernel⟩, by decide⟩, Or.inl (am_in3 (i := 86) rfl rfl), ⟨(am_in3 (i := 88) rfl rfl), (am_in0 (i := 21) rfl rfl)⟩, F_P, 2, rfl⟩
theorem st_P_46 : am_sV "WorksBudget$Policies" 46 m_P_leadByWorthByCost 2 3 := ⟨⟨(am_in3 (i := 93) rfl rfl), (am_in1 (i := 6) rfl rfl), ⟨by decide, by decide, by decide +kernel⟩, by decide⟩, Or.inl (am_in3 (i := 90) rfl rfl), ⟨(am_in3 (i := 92) rfl rfl), (am_in0 (i := 22) rfl rfl)⟩, F_P, 2, rfl⟩
theorem st_P_60 : am_sS "WorksBudget$Policies" 60 m_JL_compare 2 := ⟨⟨(am_in3 (i := 96) rfl rfl), (am_in1 (i := 9) rfl rfl), ⟨by decide, by decide, by decide +kernel⟩, by decide⟩, Or.inl (am_in3 (i := 94) rfl rfl), (am_in3 (i := 95) rfl rfl)⟩
theorem st_L_120 : am_sV "WorksBudgetLaw" 120 m_B_compare 2 4 := ⟨⟨(am_in3 (i := 100) rfl rfl), (am_in1 (i := 1) rfl rfl), ⟨by decide, by decide, by decide +kernel⟩, by decide⟩, Or.inl (am_in3 (i := 97) rfl rfl), ⟨(am_in3 (i := 98) rfl rfl), (am_in3 (i := 99) rfl rfl)⟩, F_B, 11, rfl⟩
theorem st_L_124 : am_sV "WorksBudgetLaw" 124 m_B_list 2 4 := ⟨⟨(am_in3 (i := 104) rfl rfl), (am_in1 (i := 1) rfl rfl), ⟨by decide, by decide, by decide +kernel⟩, by decide⟩, Or.inl (am_in3 (i := 101) rfl rfl), ⟨(am_in3 (i := 102) rfl rfl), (am_in3 (i := 103) rfl rfl)⟩, F_B, 11, rfl⟩
theorem st_B_212 : am_sV "WorksBudget" 212 m_W_partOf 3 0 := ⟨⟨(am_in3 (i := 108) rfl rfl), (am_in1 (i := 2) rfl rfl), ⟨by decide, by decide, by decide +kernel⟩, by decide⟩, Or.inl (am_in3 (i := 105) rfl rfl), ⟨(am_in3 (i := 106) rfl rfl), (am_in3 (i := 107) rfl rfl)⟩, F_W, 15, rfl⟩
theorem st_L_129 : am_sV "WorksBudgetLaw" 129 m_B_earlier 1 4 := ⟨⟨(am_in3 (i := 112) rfl rfl), (am_in1 (i := 1) rfl rfl), ⟨by decide, by decide, by decide +kernel⟩, by decide⟩, Or.inl (am_in3 (i := 109) rfl rfl), ⟨(am_in3 (i := 110) rfl rfl), (am_in3 (i := 111) rfl rfl)⟩, F_B, 11, rfl⟩
theorem st_L_133 : am_sV "WorksBudgetLaw" 133 m_B_holds 1 4 := ⟨⟨(am_in3 (i := 116) rfl rfl), (am_in1 (i := 1) rfl rfl), ⟨by decide, by decide, by decide +kernel⟩, by decide⟩, Or.inl (am_in3 (i := 113) rfl rfl), ⟨(am_in3 (i := 114) rfl rfl), (am_in3 (i := 115) rfl rfl)⟩, F_B, 11, rfl⟩
theorem st_B_219 : am_sV "WorksBudget" 219 m_W_isWithinBudget 2 0 := ⟨⟨(am_in3 (i := 77) rfl rfl), (am_in1 (i := 2) rfl rfl), ⟨by decide, by decide, by decide +kernel⟩, by decide⟩, Or.inl (am_in3 (i := 117) rfl rfl), ⟨(am_in3 (i := 75) rfl rfl), (am_in3 (i := 76) rfl rfl)⟩, F_W, 15, rfl⟩
theorem st_L_9 : am_sS "WorksBudgetLaw" 9 m_L_cell 2 := ⟨⟨(am_in3 (i := 120) rfl rfl), (am_in1 (i := 0) rfl rfl), ⟨by decide, by decide, by decide +kernel⟩, by decide⟩, Or.inl (am_in3 (i := 118) rfl rfl), (am_in3 (i := 119) rfl rfl)⟩
theorem st_L_20 : am_sI "WorksBudgetLaw" 20 m_M_init 1 := ⟨⟨(am_in3 (i := 125) rfl rfl), (am_in1 (i := 7) rfl rfl), ⟨by decide, by decide, by decide +kernel⟩, by decide⟩, Or.inl (am_in3 (i := 123) rfl rfl), ⟨rfl, (am_in3 (i := 124) rfl rfl)⟩, rfl⟩
theorem st_L_25 : am_sV "WorksBudgetLaw" 25 m_M_thing 1 5 := ⟨⟨(am_in3 (i := 201) rfl rfl), (am_in1 (i := 7) rfl rfl), ⟨by decide, by decide, by decide +kernel⟩, by decide⟩, Or.inl (am_in3 (i := 198) rfl rfl), ⟨(am_in3 (i := 199) rfl rfl), (am_in3 (i := 200) rfl rfl)⟩, F_M, 23, rfl⟩
theorem st_M_72 : am_sS "WorksBudgetModel" 72 m_M_in 3 := ⟨⟨(am_in3 (i := 205) rfl rfl), (am_in1 (i := 7) rfl rfl), ⟨by decide, by decide, by decide +kernel⟩, by decide⟩, Or.inl (am_in3 (i := 203) rfl rfl), (am_in3 (i := 204) rfl rfl)⟩
theorem st_M_79 : am_sV "WorksBudgetModel" 79 m_M_tell 0 5 := ⟨⟨(am_in3 (i := 209) rfl rfl), (am_in1 (i := 7) rfl rfl), ⟨by decide, by decide, by decide +kernel⟩, by decide⟩, Or.inl (am_in3 (i := 206) rfl rfl), ⟨(am_in3 (i := 208) rfl rfl), (am_in0 (i := 23) rfl rfl)⟩, F_M, 23, rfl⟩
theorem st_L_32 : am_sV "WorksBudgetLaw" 32 m_M_choice 4 5 := ⟨⟨(am_in3 (i := 213) rfl rfl), (am_in1 (i := 7) rfl rfl), ⟨by decide, by decide, by decide +kernel⟩, by decide⟩, Or.inl (am_in3 (i := 210) rfl rfl), ⟨(am_in3 (i := 211) rfl rfl), (am_in3 (i := 212) rfl rfl)⟩, F_M, 23, rfl⟩
theorem st_L_37 : am_sV "WorksBudgetLaw" 37 m_M_must 1 5 := ⟨⟨(am_in3 (i := 218) rfl rfl), (am_in1 (i := 7) rfl rfl), ⟨by decide, by decide, by decide +kernel⟩, by decide⟩, Or.inl (am_in3 (i := 215) rfl rfl), ⟨(am_in3 (i := 216) rfl rfl), (am_in3 (i := 217) rfl rfl)⟩, F_M, 23, rfl⟩
theorem st_M_87 : am_sV "WorksBudgetModel" 87 m_M_isChoice 1 5 := ⟨⟨(am_in3 (i := 222) rfl rfl), (am_in1 (i := 7) rfl rfl), ⟨by decide, by decide, by decide +kernel⟩, by decide⟩, Or.inl (am_in3 (i := 219) rfl rfl), ⟨(am_in3 (i := 221) rfl rfl), (am_in0 (i := 24) rfl rfl)⟩, F_M, 23, rfl⟩
theorem st_M_94 : am_sS "WorksBudgetModel" 94 m_M_has 2 := ⟨⟨(am_in3 (i := 225) rfl rfl), (am_in1 (i := 7) rfl rfl), ⟨by decide, by decide, by decide +kernel⟩, by decide⟩, Or.inl (am_in3 (i := 223) rfl rfl), (am_in3 (i := 224) rfl rfl)⟩
theorem st_L_42 : am_sV "WorksBudgetLaw" 42 m_M_budget 2 5 := ⟨⟨(am_in3 (i := 229) rfl rfl), (am_in1 (i := 7) rfl rfl), ⟨by decide, by decide, by decide +kernel⟩, by decide⟩, Or.inl (am_in3 (i := 226) rfl rfl), ⟨(am_in3 (i := 227) rfl rfl), (am_in3 (i := 228) rfl rfl)⟩, F_M, 23, rfl⟩
theorem st_M_98 : am_sV "WorksBudgetModel" 98 m_M_isYear 1 5 := ⟨⟨(am_in3 (i := 233) rfl rfl), (am_in1 (i := 7) rfl rfl), ⟨by decide, by decide, by decide +kernel⟩, by decide⟩, Or.inl (am_in3 (i := 230) rfl rfl), ⟨(am_in3 (i := 232) rfl rfl), (am_in0 (i := 25) rfl rfl)⟩, F_M, 23, rfl⟩
theorem st_L_47 : am_sV "WorksBudgetLaw" 47 m_M_join 3 5 := ⟨⟨(am_in3 (i := 238) rfl rfl), (am_in1 (i := 7) rfl rfl), ⟨by decide, by decide, by decide +kernel⟩, by decide⟩, Or.inl (am_in3 (i := 235) rfl rfl), ⟨(am_in3 (i := 236) rfl rfl), (am_in3 (i := 237) rfl rfl)⟩, F_M, 23, rfl⟩
theorem st_L_52 : am_sV "WorksBudgetLaw" 52 m_M_district 2 5 := ⟨⟨(am_in4 (i := 2) rfl rfl), (am_in1 (i := 7) rfl rfl), ⟨by decide, by decide, by decide +kernel⟩, by decide⟩, Or.inl (am_in3 (i := 239) rfl rfl), ⟨(am_in4 (i := 0) rfl rfl), (am_in4 (i := 1) rfl rfl)⟩, F_M, 23, rfl⟩
theorem st_L_57 : am_sV "WorksBudgetLaw" 57 m_M_fair 1 5 := ⟨⟨(am_in4 (i := 7) rfl rfl), (am_in1 (i := 7) rfl rfl), ⟨by decide, by decide, by decide +kernel⟩, by decide⟩, Or.inl (am_in4 (i := 4) rfl rfl), ⟨(am_in4 (i := 5) rfl rfl), (am_in4 (i := 6) rfl rfl)⟩, F_M, 23, rfl⟩
theorem st_L_62 : am_sV "WorksBudgetLaw" 62 m_M_run 1 5 := ⟨⟨(am_in4 (i := 12) rfl rfl), (am_in1 (i := 7) rfl rfl), ⟨by decide, by decide, by decide +kernel⟩, by decide⟩, Or.inl (am_in4 (i := 9) rfl rfl), ⟨(am_in4 (i := 10) rfl rfl), (am_in4 (i := 11) rfl rfl)⟩, F_M, 23, rfl⟩
theorem st_M_142 : am_sV "WorksBudgetModel" 142 m_M_best 1 5 := ⟨⟨(am_in4 (i := 17) rfl rfl), (am_in1 (i := 7) rfl rfl), ⟨by decide, by decide, by decide +kernel⟩, by decide⟩, Or.inl (am_in4 (i := 14) rfl rfl), ⟨(am_in4 (i := 16) rfl rfl), (am_in0 (i := 26) rfl rfl)⟩, F_M, 23, rfl⟩
theorem st_M_131 : am_sV "WorksBudgetModel" 131 m_M_setAt 1 5 := ⟨⟨(am_in4 (i := 21) rfl rfl), (am_in1 (i := 7) rfl rfl), ⟨by decide, by decide, by decide +kernel⟩, by decide⟩, Or.inl (am_in4 (i := 18) rfl rfl), ⟨(am_in4 (i := 20) rfl rfl), (am_in0 (i := 27) rfl rfl)⟩, F_M, 23, rfl⟩
theorem st_M_134 : am_sV "WorksBudgetModel" 134 m_M_holdsWith 2 5 := ⟨⟨(am_in4 (i := 25) rfl rfl), (am_in1 (i := 7) rfl rfl), ⟨by decide, by decide, by decide +kernel⟩, by decide⟩, Or.inl (am_in4 (i := 22) rfl rfl), ⟨(am_in4 (i := 24) rfl rfl), (am_in0 (i := 28) rfl rfl)⟩, F_M, 23, rfl⟩
theorem st_M_110 : am_sV "WorksBudgetModel" 110 m_M_isPlan 1 5 := ⟨⟨(am_in4 (i := 29) rfl rfl), (am_in1 (i := 7) rfl rfl), ⟨by decide, by decide, by decide +kernel⟩, by decide⟩, Or.inl (am_in4 (i := 26) rfl rfl), ⟨(am_in4 (i := 28) rfl rfl), (am_in0 (i := 29) rfl rfl)⟩, F_M, 23, rfl⟩
theorem st_M_117 : am_sV "WorksBudgetModel" 117 m_M_isFair 1 5 := ⟨⟨(am_in4 (i := 33) rfl rfl), (am_in1 (i := 7) rfl rfl), ⟨by decide, by decide, by decide +kernel⟩, by decide⟩, Or.inl (am_in4 (i := 30) rfl rfl), ⟨(am_in4 (i := 32) rfl rfl), (am_in0 (i := 30) rfl rfl)⟩, F_M, 23, rfl⟩
theorem st_M_120 : am_sV "WorksBudgetModel" 120 m_M_fits 1 5 := ⟨⟨(am_in4 (i := 37) rfl rfl), (am_in1 (i := 7) rfl rfl), ⟨by decide, by decide, by decide +kernel⟩, by decide⟩, Or.inl (am_in4 (i := 34) rfl rfl), ⟨(am_in4 (i := 36) rfl rfl), (am_in0 (i := 31) rfl rfl)⟩, F_M, 23, rfl⟩
theorem st_M_113 : am_sV "WorksBudgetModel" 113 m_M_spentIn 2 5 := ⟨⟨(am_in4 (i := 41) rfl rfl), (am_in1 (i := 7) rfl rfl), ⟨by decide, by decide, by decide +kernel⟩, by decide⟩, Or.inl (am_in4 (i := 38) rfl rfl), ⟨(am_in4 (i := 40) rfl rfl), (am_in0 (i := 32) rfl rfl)⟩, F_M, 23, rfl⟩
theorem st_M_137 : am_sV "WorksBudgetModel" 137 m_M_isBetter 2 5 := ⟨⟨(am_in4 (i := 45) rfl rfl), (am_in1 (i := 7) rfl rfl), ⟨by decide, by decide, by decide +kernel⟩, by decide⟩, Or.inl (am_in4 (i := 42) rfl rfl), ⟨(am_in4 (i := 44) rfl rfl), (am_in0 (i := 33) rfl rfl)⟩, F_M, 23, rfl⟩
theorem st_M_123 : am_sV "WorksBudgetModel" 123 m_M_worthOf 1 5 := ⟨⟨(am_in4 (i := 49) rfl rfl), (am_in1 (i := 7) rfl rfl), ⟨by decide, by decide, by decide +kernel⟩, by decide⟩, Or.inl (am_in4 (i := 46) rfl rfl), ⟨(am_in4 (i := 48) rfl rfl), (am_in0 (i := 34) rfl rfl)⟩, F_M, 23, rfl⟩
theorem st_M_127 : am_sV "WorksBudgetModel" 127 m_M_yearsOf 1 5 := ⟨⟨(am_in4 (i := 53) rfl rfl), (am_in1 (i := 7) rfl rfl), ⟨by decide, by decide, by decide +kernel⟩, by decide⟩, Or.inl (am_in4 (i := 50) rfl rfl), ⟨(am_in4 (i := 52) rfl rfl), (am_in0 (i := 35) rfl rfl)⟩, F_M, 23, rfl⟩
theorem st_L_66 : am_sV "WorksBudgetLaw" 66 m_M_chosen 1 5 := ⟨⟨(am_in4 (i := 57) rfl rfl), (am_in1 (i := 7) rfl rfl), ⟨by decide, by decide, by decide +kernel⟩, by decide⟩, Or.inl (am_in4 (i := 54) rfl rfl), ⟨(am_in4 (i := 55) rfl rfl), (am_in4 (i := 56) rfl rfl)⟩, F_M, 23, rfl⟩
theorem st_L_71 : am_sV "WorksBudgetLaw" 71 m_M_worth 0 5 := ⟨⟨(am_in4 (i := 61) rfl rfl), (am_in1 (i := 7) rfl rfl), ⟨by decide, by decide, by decide +kernel⟩, by decide⟩, Or.inl (am_in4 (i := 58) rfl rfl), ⟨(am_in4 (i := 59) rfl rfl), (am_in4 (i := 60) rfl rfl)⟩, F_M, 23, rfl⟩
theorem st_L_76 : am_sV "WorksBudgetLaw" 76 m_M_bound 1 5 := ⟨⟨(am_in4 (i := 65) rfl rfl), (am_in1 (i := 7) rfl rfl), ⟨by decide, by decide, by decide +kernel⟩, by decide⟩, Or.inl (am_in4 (i := 62) rfl rfl), ⟨(am_in4 (i := 63) rfl rfl), (am_in4 (i := 64) rfl rfl)⟩, F_M, 23, rfl⟩
theorem st_M_149 : am_sV "WorksBudgetModel" 149 m_M_mostWorth 2 5 := ⟨⟨(am_in4 (i := 69) rfl rfl), (am_in1 (i := 7) rfl rfl), ⟨by decide, by decide, by decide +kernel⟩, by decide⟩, Or.inl (am_in4 (i := 66) rfl rfl), ⟨(am_in4 (i := 68) rfl rfl), (am_in0 (i := 36) rfl rfl)⟩, F_M, 23, rfl⟩
theorem st_M_152 : am_sV "WorksBudgetModel" 152 m_M_byPrice 2 5 := ⟨⟨(am_in4 (i := 73) rfl rfl), (am_in1 (i := 7) rfl rfl), ⟨by decide, by decide, by decide +kernel⟩, by decide⟩, Or.inl (am_in4 (i := 70) rfl rfl), ⟨(am_in4 (i := 72) rfl rfl), (am_in0 (i := 37) rfl rfl)⟩, F_M, 23, rfl⟩
theorem st_M_146 : am_sV "WorksBudgetModel" 146 m_M_savedBy 1 5 := ⟨⟨(am_in4 (i := 77) rfl rfl), (am_in1 (i := 7) rfl rfl), ⟨by decide, by decide, by decide +kernel⟩, by decide⟩, Or.inl (am_in4 (i := 74) rfl rfl), ⟨(am_in4 (i := 76) rfl rfl), (am_in0 (i := 38) rfl rfl)⟩, F_M, 23, rfl⟩
theorem st_L_80 : am_sV "WorksBudgetLaw" 80 m_M_clash 1 5 := ⟨⟨(am_in4 (i := 81) rfl rfl), (am_in1 (i := 7) rfl rfl), ⟨by decide, by decide, by decide +kernel⟩, by decide⟩, Or.inl (am_in4 (i := 78) rfl rfl), ⟨(am_in4 (i := 79) rfl rfl), (am_in4 (i := 80) rfl rfl)⟩, F_M, 23, rfl⟩
theorem st_M_156 : am_sV "WorksBudgetModel" 156 m_M_someHolds 1 5 := ⟨⟨(am_in4 (i := 85) rfl rfl), (am_in1 (i := 7) rfl rfl), ⟨by decide, by decide, by decide +kernel⟩, by decide⟩, Or.inl (am_in4 (i := 82) rfl rfl), ⟨(am_in4 (i := 84) rfl rfl), (am_in0 (i := 39) rfl rfl)⟩, F_M, 23, rfl⟩
theorem st_L_85 : am_sV "WorksBudgetLaw" 85 m_M_proved 0 5 := ⟨⟨(am_in4 (i := 89) rfl rfl), (am_in1 (i := 7) rfl rfl), ⟨by decide, by decide, by decide +kernel⟩, by decide⟩, Or.inl (am_in4 (i := 86) rfl rfl), ⟨(am_in4 (i := 87) rfl rfl), (am_in4 (i := 88) rfl rfl)⟩, F_M, 23, rfl⟩
theorem st_L_90 : am_sV "WorksBudgetLaw" 90 m_M_price 2 5 := ⟨⟨(am_in4 (i := 93) rfl rfl), (am_in1 (i := 7) rfl rfl), ⟨by decide, by decide, by decide +kernel⟩, by decide⟩, Or.inl (am_in4 (i := 90) rfl rfl), ⟨(am_in4 (i := 91) rfl rfl), (am_in4 (i := 92) rfl rfl)⟩, F_M, 23, rfl⟩
theorem st_M_159 : am_sV "WorksBudgetModel" 159 m_M_bound 1 5 := ⟨⟨(am_in4 (i := 65) rfl rfl), (am_in1 (i := 7) rfl rfl), ⟨by decide, by decide, by decide +kernel⟩, by decide⟩, Or.inl (am_in4 (i := 94) rfl rfl), ⟨(am_in4 (i := 63) rfl rfl), (am_in4 (i := 64) rfl rfl)⟩, F_M, 23, rfl⟩
theorem st_L_95 : am_sV "WorksBudgetLaw" 95 m_M_old 2 5 := ⟨⟨(am_in4 (i := 99) rfl rfl), (am_in1 (i := 7) rfl rfl), ⟨by decide, by decide, by decide +kernel⟩, by decide⟩, Or.inl (am_in4 (i := 96) rfl rfl), ⟨(am_in4 (i := 97) rfl rfl), (am_in4 (i := 98) rfl rfl)⟩, F_M, 23, rfl⟩
theorem st_L_99 : am_sV "WorksBudgetLaw" 99 m_M_changes 1 5 := ⟨⟨(am_in4 (i := 103) rfl rfl), (am_in1 (i := 7) rfl rfl), ⟨by decide, by decide, by decide +kernel⟩, by decide⟩, Or.inl (am_in4 (i := 100) rfl rfl), ⟨(am_in4 (i := 101) rfl rfl), (am_in4 (i := 102) rfl rfl)⟩, F_M, 23, rfl⟩
theorem st_M_167 : am_sV "WorksBudgetModel" 167 m_M_differ 1 5 := ⟨⟨(am_in4 (i := 107) rfl rfl), (am_in1 (i := 7) rfl rfl), ⟨by decide, by decide, by decide +kernel⟩, by decide⟩, Or.inl (am_in4 (i := 104) rfl rfl), ⟨(am_in4 (i := 106) rfl rfl), (am_in0 (i := 40) rfl rfl)⟩, F_M, 23, rfl⟩
theorem st_L_103 : am_sV "WorksBudgetLaw" 103 m_M_changed 1 5 := ⟨⟨(am_in4 (i := 111) rfl rfl), (am_in1 (i := 7) rfl rfl), ⟨by decide, by decide, by decide +kernel⟩, by decide⟩, Or.inl (am_in4 (i := 108) rfl rfl), ⟨(am_in4 (i := 109) rfl rfl), (am_in4 (i := 110) rfl rfl)⟩, F_M, 23, rfl⟩
theorem st_L_107 : am_sV "WorksBudgetLaw" 107 m_M_backlog 1 5 := ⟨⟨(am_in4 (i := 115) rfl rfl), (am_in1 (i := 7) rfl rfl), ⟨by decide, by decide, by decide +kernel⟩, by decide⟩, Or.inl (am_in4 (i := 112) rfl rfl), ⟨(am_in4 (i := 113) rfl rfl), (am_in4 (i := 114) rfl rfl)⟩, F_M, 23, rfl⟩
theorem st_L_111 : am_sV "WorksBudgetLaw" 111 m_M_rank 1 5 := ⟨⟨(am_in4 (i := 119) rfl rfl), (am_in1 (i := 7) rfl rfl), ⟨by decide, by decide, by decide +kernel⟩, by decide⟩, Or.inl (am_in4 (i := 116) rfl rfl), ⟨(am_in4 (i := 117) rfl rfl), (am_in4 (i := 118) rfl rfl)⟩, F_M, 23, rfl⟩
theorem st_L_115 : am_sV "WorksBudgetLaw" 115 m_M_share 2 5 := ⟨⟨(am_in4 (i := 123) rfl rfl), (am_in1 (i := 7) rfl rfl), ⟨by decide, by decide, by decide +kernel⟩, by decide⟩, Or.inl (am_in4 (i := 120) rfl rfl), ⟨(am_in4 (i := 121) rfl rfl), (am_in4 (i := 122) rfl rfl)⟩, F_M, 23, rfl⟩
theorem st_L_119 : am_sV "WorksBudgetLaw" 119 m_M_policy 1 5 := ⟨⟨(am_in4 (i := 127) rfl rfl), (am_in1 (i := 7) rfl rfl), ⟨by decide, by decide, by decide +kernel⟩, by decide⟩, Or.inl (am_in4 (i := 124) rfl rfl), ⟨(am_in4 (i := 125) rfl rfl), (am_in4 (i := 126) rfl rfl)⟩, F_M, 23, rfl⟩
theorem st_M_174 : am_sV "WorksBudgetModel" 174 m_M_planBy 1 5 := ⟨⟨(am_in4 (i := 131) rfl rfl), (am_in1 (i := 7) rfl rfl), ⟨by decide, by decide, by decide +kernel⟩, by decide⟩, Or.inl (am_in4 (i := 128) rfl rfl), ⟨(am_in4 (i := 130) rfl rfl), (am_in0 (i := 41) rfl rfl)⟩, F_M, 23, rfl⟩
theorem st_M_170 : am_sV "WorksBudgetModel" 170 m_M_comesBefore 3 5 := ⟨⟨(am_in4 (i := 135) rfl rfl), (am_in1 (i := 7) rfl rfl), ⟨by decide, by decide, by decide +kernel⟩, by decide⟩, Or.inl (am_in4 (i := 132) rfl rfl), ⟨(am_in4 (i := 134) rfl rfl), (am_in0 (i := 42) rfl rfl)⟩, F_M, 23, rfl⟩
theorem st_L_123 : am_sV "WorksBudgetLaw" 123 m_M_compare 2 5 := ⟨⟨(am_in4 (i := 139) rfl rfl), (am_in1 (i := 7) rfl rfl), ⟨by decide, by decide, by decide +kernel⟩, by decide⟩, Or.inl (am_in4 (i := 136) rfl rfl), ⟨(am_in4 (i := 137) rfl rfl), (am_in4 (i := 138) rfl rfl)⟩, F_M, 23, rfl⟩
theorem st_L_128 : am_sV "WorksBudgetLaw" 128 m_M_list 2 5 := ⟨⟨(am_in4 (i := 143) rfl rfl), (am_in1 (i := 7) rfl rfl), ⟨by decide, by decide, by decide +kernel⟩, by decide⟩, Or.inl (am_in4 (i := 140) rfl rfl), ⟨(am_in4 (i := 141) rfl rfl), (am_in4 (i := 142) rfl rfl)⟩, F_M, 23, rfl⟩
theorem st_L_132 : am_sV "WorksBudgetLaw" 132 m_M_earlier 1 5 := ⟨⟨(am_in4 (i := 147) rfl rfl), (am_in1 (i := 7) rfl rfl), ⟨by decide, by decide, by decide +kernel⟩, by decide⟩, Or.inl (am_in4 (i := 144) rfl rfl), ⟨(am_in4 (i := 145) rfl rfl), (am_in4 (i := 146) rfl rfl)⟩, F_M, 23, rfl⟩
theorem st_L_136 : am_sV "WorksBudgetLaw" 136 m_M_holds 1 5 := ⟨⟨(am_in4 (i := 151) rfl rfl), (am_in1 (i := 7) rfl rfl), ⟨by decide, by decide, by decide +kernel⟩, by decide⟩, Or.inl (am_in4 (i := 148) rfl rfl), ⟨(am_in4 (i := 149) rfl rfl), (am_in4 (i := 150) rfl rfl)⟩, F_M, 23, rfl⟩
