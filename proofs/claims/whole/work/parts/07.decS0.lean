theorem q_S_init_0 : decode m_S_init.2.1 0 = .ok (.aload_n 0, 1) := by decide +kernel
theorem q_S_init_1 : decode m_S_init.2.1 1 = .ok (.invokespecial 3, 3) := by decide +kernel
theorem q_S_init_4 : decode m_S_init.2.1 4 = .ok (.aload_n 0, 1) := by decide +kernel
theorem q_S_init_5 : decode m_S_init.2.1 5 = .ok (.bipush 6, 2) := by decide +kernel
theorem q_S_init_7 : decode m_S_init.2.1 7 = .ok (.newarray .long, 2) := by decide +kernel
theorem q_S_init_9 : decode m_S_init.2.1 9 = .ok (.putfield 9, 3) := by decide +kernel
theorem q_S_init_12 : decode m_S_init.2.1 12 = .ok (.aload_n 0, 1) := by decide +kernel
theorem q_S_init_13 : decode m_S_init.2.1 13 = .ok (.bipush 15, 2) := by decide +kernel
theorem q_S_init_15 : decode m_S_init.2.1 15 = .ok (.bipush 6, 2) := by decide +kernel
theorem q_S_init_17 : decode m_S_init.2.1 17 = .ok (.multianewarray 15 2, 4) := by decide +kernel
theorem q_S_init_21 : decode m_S_init.2.1 21 = .ok (.putfield 17, 3) := by decide +kernel
theorem q_S_init_24 : decode m_S_init.2.1 24 = .ok (.aload_n 0, 1) := by decide +kernel
theorem q_S_init_25 : decode m_S_init.2.1 25 = .ok (.bipush 15, 2) := by decide +kernel
theorem q_S_init_27 : decode m_S_init.2.1 27 = .ok (.newarray .long, 2) := by decide +kernel
theorem q_S_init_29 : decode m_S_init.2.1 29 = .ok (.putfield 20, 3) := by decide +kernel
theorem q_S_init_32 : decode m_S_init.2.1 32 = .ok (.aload_n 0, 1) := by decide +kernel
theorem q_S_init_33 : decode m_S_init.2.1 33 = .ok (.bipush 6, 2) := by decide +kernel
theorem q_S_init_35 : decode m_S_init.2.1 35 = .ok (.newarray .long, 2) := by decide +kernel
theorem q_S_init_37 : decode m_S_init.2.1 37 = .ok (.putfield 23, 3) := by decide +kernel
theorem q_S_init_40 : decode m_S_init.2.1 40 = .ok (.aload_n 0, 1) := by decide +kernel
theorem q_S_init_41 : decode m_S_init.2.1 41 = .ok (.iconst 4, 1) := by decide +kernel
theorem q_S_init_42 : decode m_S_init.2.1 42 = .ok (.newarray .long, 2) := by decide +kernel
theorem q_S_init_44 : decode m_S_init.2.1 44 = .ok (.putfield 26, 3) := by decide +kernel
theorem q_S_init_47 : decode m_S_init.2.1 47 = .ok (.aload_n 0, 1) := by decide +kernel
theorem q_S_init_48 : decode m_S_init.2.1 48 = .ok (.aload_n 1, 1) := by decide +kernel
theorem q_S_init_49 : decode m_S_init.2.1 49 = .ok (.putfield 29, 3) := by decide +kernel
theorem q_S_init_52 : decode m_S_init.2.1 52 = .ok (.return_, 1) := by decide +kernel
theorem q_S_bestPlan_0 : decode m_S_bestPlan.2.1 0 = .ok (.aload_n 0, 1) := by decide +kernel
theorem q_S_bestPlan_1 : decode m_S_bestPlan.2.1 1 = .ok (.lload_n 1, 1) := by decide +kernel
theorem q_S_bestPlan_2 : decode m_S_bestPlan.2.1 2 = .ok (.aload_n 0, 1) := by decide +kernel
theorem q_S_bestPlan_3 : decode m_S_bestPlan.2.1 3 = .ok (.getfield 29, 3) := by decide +kernel
theorem q_S_bestPlan_6 : decode m_S_bestPlan.2.1 6 = .ok (.getfield 33, 3) := by decide +kernel
theorem q_S_bestPlan_9 : decode m_S_bestPlan.2.1 9 = .ok (.invokevirtual 39, 3) := by decide +kernel
theorem q_S_bestPlan_12 : decode m_S_bestPlan.2.1 12 = .ok (.aload_n 0, 1) := by decide +kernel
theorem q_S_bestPlan_13 : decode m_S_bestPlan.2.1 13 = .ok (.iconst 0, 1) := by decide +kernel
theorem q_S_bestPlan_14 : decode m_S_bestPlan.2.1 14 = .ok (.lconst 0, 1) := by decide +kernel
theorem q_S_bestPlan_15 : decode m_S_bestPlan.2.1 15 = .ok (.invokevirtual 43, 3) := by decide +kernel
theorem q_S_bestPlan_18 : decode m_S_bestPlan.2.1 18 = .ok (.aload_n 0, 1) := by decide +kernel
theorem q_S_bestPlan_19 : decode m_S_bestPlan.2.1 19 = .ok (.getfield 47, 3) := by decide +kernel
theorem q_S_bestPlan_22 : decode m_S_bestPlan.2.1 22 = .ok (.ireturn, 1) := by decide +kernel
theorem q_S_bestPlanWithMore_0 : decode m_S_bestPlanWithMore.2.1 0 = .ok (.aload_n 0, 1) := by decide +kernel
theorem q_S_bestPlanWithMore_1 : decode m_S_bestPlanWithMore.2.1 1 = .ok (.ldc2_w 50, 3) := by decide +kernel
theorem q_S_bestPlanWithMore_4 : decode m_S_bestPlanWithMore.2.1 4 = .ok (.aload_n 0, 1) := by decide +kernel
theorem q_S_bestPlanWithMore_5 : decode m_S_bestPlanWithMore.2.1 5 = .ok (.getfield 29, 3) := by decide +kernel
theorem q_S_bestPlanWithMore_8 : decode m_S_bestPlanWithMore.2.1 8 = .ok (.getfield 33, 3) := by decide +kernel
theorem q_S_bestPlanWithMore_11 : decode m_S_bestPlanWithMore.2.1 11 = .ok (.invokevirtual 39, 3) := by decide +kernel
theorem q_S_bestPlanWithMore_14 : decode m_S_bestPlanWithMore.2.1 14 = .ok (.aload_n 0, 1) := by decide +kernel
theorem q_S_bestPlanWithMore_15 : decode m_S_bestPlanWithMore.2.1 15 = .ok (.getfield 9, 3) := by decide +kernel
theorem q_S_bestPlanWithMore_18 : decode m_S_bestPlanWithMore.2.1 18 = .ok (.iload_n 1, 1) := by decide +kernel
theorem q_S_bestPlanWithMore_19 : decode m_S_bestPlanWithMore.2.1 19 = .ok (.dup2, 1) := by decide +kernel
theorem q_S_bestPlanWithMore_20 : decode m_S_bestPlanWithMore.2.1 20 = .ok (.laload, 1) := by decide +kernel
theorem q_S_bestPlanWithMore_21 : decode m_S_bestPlanWithMore.2.1 21 = .ok (.lload_n 2, 1) := by decide +kernel
theorem q_S_bestPlanWithMore_22 : decode m_S_bestPlanWithMore.2.1 22 = .ok (.ladd, 1) := by decide +kernel
theorem q_S_bestPlanWithMore_23 : decode m_S_bestPlanWithMore.2.1 23 = .ok (.lastore, 1) := by decide +kernel
theorem q_S_bestPlanWithMore_24 : decode m_S_bestPlanWithMore.2.1 24 = .ok (.aload_n 0, 1) := by decide +kernel
theorem q_S_bestPlanWithMore_25 : decode m_S_bestPlanWithMore.2.1 25 = .ok (.iconst 0, 1) := by decide +kernel
theorem q_S_bestPlanWithMore_26 : decode m_S_bestPlanWithMore.2.1 26 = .ok (.lconst 0, 1) := by decide +kernel
theorem q_S_bestPlanWithMore_27 : decode m_S_bestPlanWithMore.2.1 27 = .ok (.invokevirtual 43, 3) := by decide +kernel
theorem q_S_bestPlanWithMore_30 : decode m_S_bestPlanWithMore.2.1 30 = .ok (.aload_n 0, 1) := by decide +kernel
theorem q_S_bestPlanWithMore_31 : decode m_S_bestPlanWithMore.2.1 31 = .ok (.getfield 47, 3) := by decide +kernel
theorem q_S_bestPlanWithMore_34 : decode m_S_bestPlanWithMore.2.1 34 = .ok (.ireturn, 1) := by decide +kernel
theorem q_S_nearestPlan_0 : decode m_S_nearestPlan.2.1 0 = .ok (.aload_n 0, 1) := by decide +kernel
theorem q_S_nearestPlan_1 : decode m_S_nearestPlan.2.1 1 = .ok (.lload_n 1, 1) := by decide +kernel
theorem q_S_nearestPlan_2 : decode m_S_nearestPlan.2.1 2 = .ok (.aload_n 0, 1) := by decide +kernel
theorem q_S_nearestPlan_3 : decode m_S_nearestPlan.2.1 3 = .ok (.getfield 29, 3) := by decide +kernel
theorem q_S_nearestPlan_6 : decode m_S_nearestPlan.2.1 6 = .ok (.getfield 33, 3) := by decide +kernel
theorem q_S_nearestPlan_9 : decode m_S_nearestPlan.2.1 9 = .ok (.invokevirtual 39, 3) := by decide +kernel
theorem q_S_nearestPlan_12 : decode m_S_nearestPlan.2.1 12 = .ok (.aload_n 0, 1) := by decide +kernel
theorem q_S_nearestPlan_13 : decode m_S_nearestPlan.2.1 13 = .ok (.iload_n 3, 1) := by decide +kernel
theorem q_S_nearestPlan_14 : decode m_S_nearestPlan.2.1 14 = .ok (.putfield 52, 3) := by decide +kernel
theorem q_S_nearestPlan_17 : decode m_S_nearestPlan.2.1 17 = .ok (.aload_n 0, 1) := by decide +kernel
theorem q_S_nearestPlan_18 : decode m_S_nearestPlan.2.1 18 = .ok (.aload_n 0, 1) := by decide +kernel
theorem q_S_nearestPlan_19 : decode m_S_nearestPlan.2.1 19 = .ok (.getfield 29, 3) := by decide +kernel
theorem q_S_nearestPlan_22 : decode m_S_nearestPlan.2.1 22 = .ok (.invokevirtual 55, 3) := by decide +kernel
theorem q_S_nearestPlan_25 : decode m_S_nearestPlan.2.1 25 = .ok (.iconst 1, 1) := by decide +kernel
theorem q_S_nearestPlan_26 : decode m_S_nearestPlan.2.1 26 = .ok (.isub, 1) := by decide +kernel
theorem q_S_nearestPlan_27 : decode m_S_nearestPlan.2.1 27 = .ok (.putfield 59, 3) := by decide +kernel
theorem q_S_nearestPlan_30 : decode m_S_nearestPlan.2.1 30 = .ok (.aload_n 0, 1) := by decide +kernel
theorem q_S_nearestPlan_31 : decode m_S_nearestPlan.2.1 31 = .ok (.iconst 0, 1) := by decide +kernel
theorem q_S_nearestPlan_32 : decode m_S_nearestPlan.2.1 32 = .ok (.lconst 0, 1) := by decide +kernel
theorem q_S_nearestPlan_33 : decode m_S_nearestPlan.2.1 33 = .ok (.invokevirtual 43, 3) := by decide +kernel
theorem q_S_nearestPlan_36 : decode m_S_nearestPlan.2.1 36 = .ok (.aload_n 0, 1) := by decide +kernel
theorem q_S_nearestPlan_37 : decode m_S_nearestPlan.2.1 37 = .ok (.getfield 47, 3) := by decide +kernel
theorem q_S_nearestPlan_40 : decode m_S_nearestPlan.2.1 40 = .ok (.ireturn, 1) := by decide +kernel
theorem q_S_someHolds_0 : decode m_S_someHolds.2.1 0 = .ok (.aload_n 0, 1) := by decide +kernel
theorem q_S_someHolds_1 : decode m_S_someHolds.2.1 1 = .ok (.ldc2_w 50, 3) := by decide +kernel
theorem q_S_someHolds_4 : decode m_S_someHolds.2.1 4 = .ok (.iload_n 1, 1) := by decide +kernel
theorem q_S_someHolds_5 : decode m_S_someHolds.2.1 5 = .ok (.invokevirtual 39, 3) := by decide +kernel
theorem q_S_someHolds_8 : decode m_S_someHolds.2.1 8 = .ok (.aload_n 0, 1) := by decide +kernel
theorem q_S_someHolds_9 : decode m_S_someHolds.2.1 9 = .ok (.iconst 1, 1) := by decide +kernel
theorem q_S_someHolds_10 : decode m_S_someHolds.2.1 10 = .ok (.putfield 62, 3) := by decide +kernel
theorem q_S_someHolds_13 : decode m_S_someHolds.2.1 13 = .ok (.aload_n 0, 1) := by decide +kernel
theorem q_S_someHolds_14 : decode m_S_someHolds.2.1 14 = .ok (.iconst 0, 1) := by decide +kernel
theorem q_S_someHolds_15 : decode m_S_someHolds.2.1 15 = .ok (.lconst 0, 1) := by decide +kernel
theorem q_S_someHolds_16 : decode m_S_someHolds.2.1 16 = .ok (.invokevirtual 43, 3) := by decide +kernel
theorem q_S_someHolds_19 : decode m_S_someHolds.2.1 19 = .ok (.aload_n 0, 1) := by decide +kernel
theorem q_S_someHolds_20 : decode m_S_someHolds.2.1 20 = .ok (.getfield 47, 3) := by decide +kernel
theorem q_S_someHolds_23 : decode m_S_someHolds.2.1 23 = .ok (.iconst (-1), 1) := by decide +kernel
theorem q_S_someHolds_24 : decode m_S_someHolds.2.1 24 = .ok (.if_icmp .eq 7, 3) := by decide +kernel
theorem q_S_someHolds_27 : decode m_S_someHolds.2.1 27 = .ok (.iconst 1, 1) := by decide +kernel
theorem q_S_someHolds_28 : decode m_S_someHolds.2.1 28 = .ok (.goto 4, 3) := by decide +kernel
theorem q_S_someHolds_31 : decode m_S_someHolds.2.1 31 = .ok (.iconst 0, 1) := by decide +kernel
theorem q_S_someHolds_32 : decode m_S_someHolds.2.1 32 = .ok (.ireturn, 1) := by decide +kernel
theorem q_S_prepare_0 : decode m_S_prepare.2.1 0 = .ok (.aload_n 0, 1) := by decide +kernel
theorem q_S_prepare_1 : decode m_S_prepare.2.1 1 = .ok (.lload_n 1, 1) := by decide +kernel
theorem q_S_prepare_2 : decode m_S_prepare.2.1 2 = .ok (.putfield 66, 3) := by decide +kernel
theorem q_S_prepare_5 : decode m_S_prepare.2.1 5 = .ok (.aload_n 0, 1) := by decide +kernel
theorem q_S_prepare_6 : decode m_S_prepare.2.1 6 = .ok (.iload_n 3, 1) := by decide +kernel
theorem q_S_prepare_7 : decode m_S_prepare.2.1 7 = .ok (.putfield 70, 3) := by decide +kernel
theorem q_S_prepare_10 : decode m_S_prepare.2.1 10 = .ok (.aload_n 0, 1) := by decide +kernel
theorem q_S_prepare_11 : decode m_S_prepare.2.1 11 = .ok (.iconst 0, 1) := by decide +kernel
theorem q_S_prepare_12 : decode m_S_prepare.2.1 12 = .ok (.putfield 52, 3) := by decide +kernel
theorem q_S_prepare_15 : decode m_S_prepare.2.1 15 = .ok (.aload_n 0, 1) := by decide +kernel
theorem q_S_prepare_16 : decode m_S_prepare.2.1 16 = .ok (.iconst 0, 1) := by decide +kernel
theorem q_S_prepare_17 : decode m_S_prepare.2.1 17 = .ok (.putfield 59, 3) := by decide +kernel
theorem q_S_prepare_20 : decode m_S_prepare.2.1 20 = .ok (.aload_n 0, 1) := by decide +kernel
theorem q_S_prepare_21 : decode m_S_prepare.2.1 21 = .ok (.iconst 0, 1) := by decide +kernel
theorem q_S_prepare_22 : decode m_S_prepare.2.1 22 = .ok (.putfield 62, 3) := by decide +kernel
theorem q_S_prepare_25 : decode m_S_prepare.2.1 25 = .ok (.aload_n 0, 1) := by decide +kernel
theorem q_S_prepare_26 : decode m_S_prepare.2.1 26 = .ok (.aload_n 0, 1) := by decide +kernel
theorem q_S_prepare_27 : decode m_S_prepare.2.1 27 = .ok (.getfield 29, 3) := by decide +kernel
theorem q_S_prepare_30 : decode m_S_prepare.2.1 30 = .ok (.invokevirtual 71, 3) := by decide +kernel
theorem q_S_prepare_33 : decode m_S_prepare.2.1 33 = .ok (.putfield 74, 3) := by decide +kernel
theorem q_S_prepare_36 : decode m_S_prepare.2.1 36 = .ok (.aload_n 0, 1) := by decide +kernel
theorem q_S_prepare_37 : decode m_S_prepare.2.1 37 = .ok (.iconst (-1), 1) := by decide +kernel
theorem q_S_prepare_38 : decode m_S_prepare.2.1 38 = .ok (.putfield 47, 3) := by decide +kernel
theorem q_S_prepare_41 : decode m_S_prepare.2.1 41 = .ok (.aload_n 0, 1) := by decide +kernel
theorem q_S_prepare_42 : decode m_S_prepare.2.1 42 = .ok (.iconst 0, 1) := by decide +kernel
theorem q_S_prepare_43 : decode m_S_prepare.2.1 43 = .ok (.putfield 76, 3) := by decide +kernel
theorem q_S_prepare_46 : decode m_S_prepare.2.1 46 = .ok (.aload_n 0, 1) := by decide +kernel
theorem q_S_prepare_47 : decode m_S_prepare.2.1 47 = .ok (.iconst 0, 1) := by decide +kernel
theorem q_S_prepare_48 : decode m_S_prepare.2.1 48 = .ok (.putfield 79, 3) := by decide +kernel
theorem q_S_prepare_51 : decode m_S_prepare.2.1 51 = .ok (.aload_n 0, 1) := by decide +kernel
theorem q_S_prepare_52 : decode m_S_prepare.2.1 52 = .ok (.iconst 0, 1) := by decide +kernel
theorem q_S_prepare_53 : decode m_S_prepare.2.1 53 = .ok (.putfield 82, 3) := by decide +kernel
theorem q_S_prepare_56 : decode m_S_prepare.2.1 56 = .ok (.aload_n 0, 1) := by decide +kernel
theorem q_S_prepare_57 : decode m_S_prepare.2.1 57 = .ok (.lconst 0, 1) := by decide +kernel
theorem q_S_prepare_58 : decode m_S_prepare.2.1 58 = .ok (.putfield 85, 3) := by decide +kernel
theorem q_S_prepare_61 : decode m_S_prepare.2.1 61 = .ok (.iconst 0, 1) := by decide +kernel
theorem q_S_prepare_62 : decode m_S_prepare.2.1 62 = .ok (.istore 4, 2) := by decide +kernel
theorem q_S_prepare_64 : decode m_S_prepare.2.1 64 = .ok (.iload 4, 2) := by decide +kernel
theorem q_S_prepare_66 : decode m_S_prepare.2.1 66 = .ok (.iconst 4, 1) := by decide +kernel
theorem q_S_prepare_67 : decode m_S_prepare.2.1 67 = .ok (.if_icmp .ge 17, 3) := by decide +kernel
theorem q_S_prepare_70 : decode m_S_prepare.2.1 70 = .ok (.aload_n 0, 1) := by decide +kernel
theorem q_S_prepare_71 : decode m_S_prepare.2.1 71 = .ok (.getfield 26, 3) := by decide +kernel
theorem q_S_prepare_74 : decode m_S_prepare.2.1 74 = .ok (.iload 4, 2) := by decide +kernel
theorem q_S_prepare_76 : decode m_S_prepare.2.1 76 = .ok (.lconst 0, 1) := by decide +kernel
theorem q_S_prepare_77 : decode m_S_prepare.2.1 77 = .ok (.lastore, 1) := by decide +kernel
theorem q_S_prepare_78 : decode m_S_prepare.2.1 78 = .ok (.iinc 4 1, 3) := by decide +kernel
theorem q_S_prepare_81 : decode m_S_prepare.2.1 81 = .ok (.goto (-17), 3) := by decide +kernel
theorem q_S_prepare_84 : decode m_S_prepare.2.1 84 = .ok (.iconst 0, 1) := by decide +kernel
theorem q_S_prepare_85 : decode m_S_prepare.2.1 85 = .ok (.istore 4, 2) := by decide +kernel
theorem q_S_prepare_87 : decode m_S_prepare.2.1 87 = .ok (.iload 4, 2) := by decide +kernel
theorem q_S_prepare_89 : decode m_S_prepare.2.1 89 = .ok (.bipush 6, 2) := by decide +kernel
theorem q_S_prepare_91 : decode m_S_prepare.2.1 91 = .ok (.if_icmp .ge 34, 3) := by decide +kernel
theorem q_S_prepare_94 : decode m_S_prepare.2.1 94 = .ok (.aload_n 0, 1) := by decide +kernel
theorem q_S_prepare_95 : decode m_S_prepare.2.1 95 = .ok (.getfield 23, 3) := by decide +kernel
theorem q_S_prepare_98 : decode m_S_prepare.2.1 98 = .ok (.iload 4, 2) := by decide +kernel
theorem q_S_prepare_100 : decode m_S_prepare.2.1 100 = .ok (.lconst 0, 1) := by decide +kernel
theorem q_S_prepare_101 : decode m_S_prepare.2.1 101 = .ok (.lastore, 1) := by decide +kernel
theorem q_S_prepare_102 : decode m_S_prepare.2.1 102 = .ok (.aload_n 0, 1) := by decide +kernel
theorem q_S_prepare_103 : decode m_S_prepare.2.1 103 = .ok (.getfield 9, 3) := by decide +kernel
theorem q_S_prepare_106 : decode m_S_prepare.2.1 106 = .ok (.iload 4, 2) := by decide +kernel
theorem q_S_prepare_108 : decode m_S_prepare.2.1 108 = .ok (.aload_n 0, 1) := by decide +kernel
theorem q_S_prepare_109 : decode m_S_prepare.2.1 109 = .ok (.getfield 29, 3) := by decide +kernel
theorem q_S_prepare_112 : decode m_S_prepare.2.1 112 = .ok (.getfield 88, 3) := by decide +kernel
theorem q_S_prepare_115 : decode m_S_prepare.2.1 115 = .ok (.iload 4, 2) := by decide +kernel
theorem q_S_prepare_117 : decode m_S_prepare.2.1 117 = .ok (.laload, 1) := by decide +kernel
theorem q_S_prepare_118 : decode m_S_prepare.2.1 118 = .ok (.lastore, 1) := by decide +kernel
theorem q_S_prepare_119 : decode m_S_prepare.2.1 119 = .ok (.iinc 4 1, 3) := by decide +kernel
theorem q_S_prepare_122 : decode m_S_prepare.2.1 122 = .ok (.goto (-35), 3) := by decide +kernel
theorem q_S_prepare_125 : decode m_S_prepare.2.1 125 = .ok (.aload_n 0, 1) := by decide +kernel
theorem q_S_prepare_126 : decode m_S_prepare.2.1 126 = .ok (.invokevirtual 91, 3) := by decide +kernel
theorem q_S_prepare_129 : decode m_S_prepare.2.1 129 = .ok (.return_, 1) := by decide +kernel
theorem q_S_prepareRests_0 : decode m_S_prepareRests.2.1 0 = .ok (.aload_n 0, 1) := by decide +kernel
theorem q_S_prepareRests_1 : decode m_S_prepareRests.2.1 1 = .ok (.getfield 29, 3) := by decide +kernel
theorem q_S_prepareRests_4 : decode m_S_prepareRests.2.1 4 = .ok (.getfield 94, 3) := by decide +kernel
theorem q_S_prepareRests_7 : decode m_S_prepareRests.2.1 7 = .ok (.istore_n 1, 1) := by decide +kernel
theorem q_S_prepareRests_8 : decode m_S_prepareRests.2.1 8 = .ok (.aload_n 0, 1) := by decide +kernel
theorem q_S_prepareRests_9 : decode m_S_prepareRests.2.1 9 = .ok (.getfield 20, 3) := by decide +kernel
theorem q_S_prepareRests_12 : decode m_S_prepareRests.2.1 12 = .ok (.iload_n 1, 1) := by decide +kernel
theorem q_S_prepareRests_13 : decode m_S_prepareRests.2.1 13 = .ok (.lconst 0, 1) := by decide +kernel
theorem q_S_prepareRests_14 : decode m_S_prepareRests.2.1 14 = .ok (.lastore, 1) := by decide +kernel
theorem q_S_prepareRests_15 : decode m_S_prepareRests.2.1 15 = .ok (.iconst 0, 1) := by decide +kernel
theorem q_S_prepareRests_16 : decode m_S_prepareRests.2.1 16 = .ok (.istore_n 2, 1) := by decide +kernel
theorem q_S_prepareRests_17 : decode m_S_prepareRests.2.1 17 = .ok (.iload_n 2, 1) := by decide +kernel
theorem q_S_prepareRests_18 : decode m_S_prepareRests.2.1 18 = .ok (.bipush 6, 2) := by decide +kernel
theorem q_S_prepareRests_20 : decode m_S_prepareRests.2.1 20 = .ok (.if_icmp .ge 18, 3) := by decide +kernel
theorem q_S_prepareRests_23 : decode m_S_prepareRests.2.1 23 = .ok (.aload_n 0, 1) := by decide +kernel
theorem q_S_prepareRests_24 : decode m_S_prepareRests.2.1 24 = .ok (.getfield 17, 3) := by decide +kernel
theorem q_S_prepareRests_27 : decode m_S_prepareRests.2.1 27 = .ok (.iload_n 1, 1) := by decide +kernel
theorem q_S_prepareRests_28 : decode m_S_prepareRests.2.1 28 = .ok (.aaload, 1) := by decide +kernel
theorem q_S_prepareRests_29 : decode m_S_prepareRests.2.1 29 = .ok (.iload_n 2, 1) := by decide +kernel
theorem q_S_prepareRests_30 : decode m_S_prepareRests.2.1 30 = .ok (.lconst 0, 1) := by decide +kernel
theorem q_S_prepareRests_31 : decode m_S_prepareRests.2.1 31 = .ok (.lastore, 1) := by decide +kernel
theorem q_S_prepareRests_32 : decode m_S_prepareRests.2.1 32 = .ok (.iinc 2 1, 3) := by decide +kernel
theorem q_S_prepareRests_35 : decode m_S_prepareRests.2.1 35 = .ok (.goto (-18), 3) := by decide +kernel
theorem q_S_prepareRests_38 : decode m_S_prepareRests.2.1 38 = .ok (.iload_n 1, 1) := by decide +kernel
theorem q_S_prepareRests_39 : decode m_S_prepareRests.2.1 39 = .ok (.iconst 1, 1) := by decide +kernel
theorem q_S_prepareRests_40 : decode m_S_prepareRests.2.1 40 = .ok (.isub, 1) := by decide +kernel
theorem q_S_prepareRests_41 : decode m_S_prepareRests.2.1 41 = .ok (.istore_n 2, 1) := by decide +kernel
theorem q_S_prepareRests_42 : decode m_S_prepareRests.2.1 42 = .ok (.iload_n 2, 1) := by decide +kernel
theorem q_S_prepareRests_43 : decode m_S_prepareRests.2.1 43 = .ok (.ifCond .lt 99, 3) := by decide +kernel
theorem q_S_prepareRests_46 : decode m_S_prepareRests.2.1 46 = .ok (.aload_n 0, 1) := by decide +kernel
theorem q_S_prepareRests_47 : decode m_S_prepareRests.2.1 47 = .ok (.getfield 20, 3) := by decide +kernel
theorem q_S_prepareRests_50 : decode m_S_prepareRests.2.1 50 = .ok (.iload_n 2, 1) := by decide +kernel
theorem q_S_prepareRests_51 : decode m_S_prepareRests.2.1 51 = .ok (.aload_n 0, 1) := by decide +kernel
theorem q_S_prepareRests_52 : decode m_S_prepareRests.2.1 52 = .ok (.getfield 20, 3) := by decide +kernel
theorem q_S_prepareRests_55 : decode m_S_prepareRests.2.1 55 = .ok (.iload_n 2, 1) := by decide +kernel
theorem q_S_prepareRests_56 : decode m_S_prepareRests.2.1 56 = .ok (.iconst 1, 1) := by decide +kernel
theorem q_S_prepareRests_57 : decode m_S_prepareRests.2.1 57 = .ok (.iadd, 1) := by decide +kernel
theorem q_S_prepareRests_58 : decode m_S_prepareRests.2.1 58 = .ok (.laload, 1) := by decide +kernel
theorem q_S_prepareRests_59 : decode m_S_prepareRests.2.1 59 = .ok (.aload_n 0, 1) := by decide +kernel
theorem q_S_prepareRests_60 : decode m_S_prepareRests.2.1 60 = .ok (.getfield 29, 3) := by decide +kernel
theorem q_S_prepareRests_63 : decode m_S_prepareRests.2.1 63 = .ok (.getfield 97, 3) := by decide +kernel
theorem q_S_prepareRests_66 : decode m_S_prepareRests.2.1 66 = .ok (.iload_n 2, 1) := by decide +kernel
theorem q_S_prepareRests_67 : decode m_S_prepareRests.2.1 67 = .ok (.laload, 1) := by decide +kernel
theorem q_S_prepareRests_68 : decode m_S_prepareRests.2.1 68 = .ok (.ladd, 1) := by decide +kernel
theorem q_S_prepareRests_69 : decode m_S_prepareRests.2.1 69 = .ok (.lastore, 1) := by decide +kernel
theorem q_S_prepareRests_70 : decode m_S_prepareRests.2.1 70 = .ok (.iconst 0, 1) := by decide +kernel
theorem q_S_prepareRests_71 : decode m_S_prepareRests.2.1 71 = .ok (.istore_n 3, 1) := by decide +kernel
theorem q_S_prepareRests_72 : decode m_S_prepareRests.2.1 72 = .ok (.iload_n 3, 1) := by decide +kernel
theorem q_S_prepareRests_73 : decode m_S_prepareRests.2.1 73 = .ok (.bipush 6, 2) := by decide +kernel
theorem q_S_prepareRests_75 : decode m_S_prepareRests.2.1 75 = .ok (.if_icmp .ge 27, 3) := by decide +kernel
theorem q_S_prepareRests_78 : decode m_S_prepareRests.2.1 78 = .ok (.aload_n 0, 1) := by decide +kernel
theorem q_S_prepareRests_79 : decode m_S_prepareRests.2.1 79 = .ok (.getfield 17, 3) := by decide +kernel
theorem q_S_prepareRests_82 : decode m_S_prepareRests.2.1 82 = .ok (.iload_n 2, 1) := by decide +kernel
theorem q_S_prepareRests_83 : decode m_S_prepareRests.2.1 83 = .ok (.aaload, 1) := by decide +kernel
theorem q_S_prepareRests_84 : decode m_S_prepareRests.2.1 84 = .ok (.iload_n 3, 1) := by decide +kernel
theorem q_S_prepareRests_85 : decode m_S_prepareRests.2.1 85 = .ok (.aload_n 0, 1) := by decide +kernel
theorem q_S_prepareRests_86 : decode m_S_prepareRests.2.1 86 = .ok (.getfield 17, 3) := by decide +kernel
theorem q_S_prepareRests_89 : decode m_S_prepareRests.2.1 89 = .ok (.iload_n 2, 1) := by decide +kernel
theorem q_S_prepareRests_90 : decode m_S_prepareRests.2.1 90 = .ok (.iconst 1, 1) := by decide +kernel
theorem q_S_prepareRests_91 : decode m_S_prepareRests.2.1 91 = .ok (.iadd, 1) := by decide +kernel
theorem q_S_prepareRests_92 : decode m_S_prepareRests.2.1 92 = .ok (.aaload, 1) := by decide +kernel
theorem q_S_prepareRests_93 : decode m_S_prepareRests.2.1 93 = .ok (.iload_n 3, 1) := by decide +kernel
theorem q_S_prepareRests_94 : decode m_S_prepareRests.2.1 94 = .ok (.laload, 1) := by decide +kernel
theorem q_S_prepareRests_95 : decode m_S_prepareRests.2.1 95 = .ok (.lastore, 1) := by decide +kernel
theorem q_S_prepareRests_96 : decode m_S_prepareRests.2.1 96 = .ok (.iinc 3 1, 3) := by decide +kernel
theorem q_S_prepareRests_99 : decode m_S_prepareRests.2.1 99 = .ok (.goto (-27), 3) := by decide +kernel
theorem q_S_prepareRests_102 : decode m_S_prepareRests.2.1 102 = .ok (.iconst 1, 1) := by decide +kernel
theorem q_S_prepareRests_103 : decode m_S_prepareRests.2.1 103 = .ok (.iload_n 2, 1) := by decide +kernel
theorem q_S_prepareRests_104 : decode m_S_prepareRests.2.1 104 = .ok (.ishl, 1) := by decide +kernel
theorem q_S_prepareRests_105 : decode m_S_prepareRests.2.1 105 = .ok (.iconst 1, 1) := by decide +kernel
theorem q_S_prepareRests_106 : decode m_S_prepareRests.2.1 106 = .ok (.isub, 1) := by decide +kernel
theorem q_S_prepareRests_107 : decode m_S_prepareRests.2.1 107 = .ok (.istore_n 3, 1) := by decide +kernel
theorem q_S_prepareRests_108 : decode m_S_prepareRests.2.1 108 = .ok (.aload_n 0, 1) := by decide +kernel
theorem q_S_prepareRests_109 : decode m_S_prepareRests.2.1 109 = .ok (.getfield 17, 3) := by decide +kernel
theorem q_S_prepareRests_112 : decode m_S_prepareRests.2.1 112 = .ok (.iload_n 2, 1) := by decide +kernel
theorem q_S_prepareRests_113 : decode m_S_prepareRests.2.1 113 = .ok (.aaload, 1) := by decide +kernel
theorem q_S_prepareRests_114 : decode m_S_prepareRests.2.1 114 = .ok (.aload_n 0, 1) := by decide +kernel
theorem q_S_prepareRests_115 : decode m_S_prepareRests.2.1 115 = .ok (.getfield 29, 3) := by decide +kernel
theorem q_S_prepareRests_118 : decode m_S_prepareRests.2.1 118 = .ok (.getfield 100, 3) := by decide +kernel
theorem q_S_prepareRests_121 : decode m_S_prepareRests.2.1 121 = .ok (.iload_n 2, 1) := by decide +kernel
theorem q_S_prepareRests_122 : decode m_S_prepareRests.2.1 122 = .ok (.iaload, 1) := by decide +kernel
theorem q_S_prepareRests_123 : decode m_S_prepareRests.2.1 123 = .ok (.dup2, 1) := by decide +kernel
theorem q_S_prepareRests_124 : decode m_S_prepareRests.2.1 124 = .ok (.laload, 1) := by decide +kernel
theorem q_S_prepareRests_125 : decode m_S_prepareRests.2.1 125 = .ok (.aload_n 0, 1) := by decide +kernel
theorem q_S_prepareRests_126 : decode m_S_prepareRests.2.1 126 = .ok (.getfield 29, 3) := by decide +kernel
theorem q_S_prepareRests_129 : decode m_S_prepareRests.2.1 129 = .ok (.iload_n 2, 1) := by decide +kernel
theorem q_S_prepareRests_130 : decode m_S_prepareRests.2.1 130 = .ok (.iload_n 3, 1) := by decide +kernel
theorem q_S_prepareRests_131 : decode m_S_prepareRests.2.1 131 = .ok (.invokevirtual 104, 3) := by decide +kernel
theorem q_S_prepareRests_134 : decode m_S_prepareRests.2.1 134 = .ok (.ladd, 1) := by decide +kernel
theorem q_S_prepareRests_135 : decode m_S_prepareRests.2.1 135 = .ok (.lastore, 1) := by decide +kernel
theorem q_S_prepareRests_136 : decode m_S_prepareRests.2.1 136 = .ok (.iinc 2 (-1), 3) := by decide +kernel
theorem q_S_prepareRests_139 : decode m_S_prepareRests.2.1 139 = .ok (.goto (-97), 3) := by decide +kernel
theorem q_S_prepareRests_142 : decode m_S_prepareRests.2.1 142 = .ok (.return_, 1) := by decide +kernel
theorem q_S_lookFrom_0 : decode m_S_lookFrom.2.1 0 = .ok (.lload_n 2, 1) := by decide +kernel
theorem q_S_lookFrom_1 : decode m_S_lookFrom.2.1 1 = .ok (.aload_n 0, 1) := by decide +kernel
theorem q_S_lookFrom_2 : decode m_S_lookFrom.2.1 2 = .ok (.getfield 66, 3) := by decide +kernel
theorem q_S_lookFrom_5 : decode m_S_lookFrom.2.1 5 = .ok (.lcmp, 1) := by decide +kernel
theorem q_S_lookFrom_6 : decode m_S_lookFrom.2.1 6 = .ok (.ifCond .ge 11, 3) := by decide +kernel
theorem q_S_lookFrom_9 : decode m_S_lookFrom.2.1 9 = .ok (.aload_n 0, 1) := by decide +kernel
theorem q_S_lookFrom_10 : decode m_S_lookFrom.2.1 10 = .ok (.iload_n 1, 1) := by decide +kernel
theorem q_S_lookFrom_11 : decode m_S_lookFrom.2.1 11 = .ok (.invokevirtual 108, 3) := by decide +kernel
theorem q_S_lookFrom_14 : decode m_S_lookFrom.2.1 14 = .ok (.ifCond .eq 4, 3) := by decide +kernel
theorem q_S_lookFrom_17 : decode m_S_lookFrom.2.1 17 = .ok (.return_, 1) := by decide +kernel
theorem q_S_lookFrom_18 : decode m_S_lookFrom.2.1 18 = .ok (.iload_n 1, 1) := by decide +kernel
theorem q_S_lookFrom_19 : decode m_S_lookFrom.2.1 19 = .ok (.aload_n 0, 1) := by decide +kernel
theorem q_S_lookFrom_20 : decode m_S_lookFrom.2.1 20 = .ok (.getfield 29, 3) := by decide +kernel
theorem q_S_lookFrom_23 : decode m_S_lookFrom.2.1 23 = .ok (.getfield 94, 3) := by decide +kernel
theorem q_S_lookFrom_26 : decode m_S_lookFrom.2.1 26 = .ok (.if_icmp .lt 8, 3) := by decide +kernel
theorem q_S_lookFrom_29 : decode m_S_lookFrom.2.1 29 = .ok (.aload_n 0, 1) := by decide +kernel
theorem q_S_lookFrom_30 : decode m_S_lookFrom.2.1 30 = .ok (.invokevirtual 112, 3) := by decide +kernel
theorem q_S_lookFrom_33 : decode m_S_lookFrom.2.1 33 = .ok (.return_, 1) := by decide +kernel
theorem q_S_lookFrom_34 : decode m_S_lookFrom.2.1 34 = .ok (.aload_n 0, 1) := by decide +kernel
theorem q_S_lookFrom_35 : decode m_S_lookFrom.2.1 35 = .ok (.iload_n 1, 1) := by decide +kernel
theorem q_S_lookFrom_36 : decode m_S_lookFrom.2.1 36 = .ok (.lload_n 2, 1) := by decide +kernel
theorem q_S_lookFrom_37 : decode m_S_lookFrom.2.1 37 = .ok (.invokevirtual 115, 3) := by decide +kernel
theorem q_S_lookFrom_40 : decode m_S_lookFrom.2.1 40 = .ok (.aload_n 0, 1) := by decide +kernel
theorem q_S_lookFrom_41 : decode m_S_lookFrom.2.1 41 = .ok (.iload_n 1, 1) := by decide +kernel
theorem q_S_lookFrom_42 : decode m_S_lookFrom.2.1 42 = .ok (.lload_n 2, 1) := by decide +kernel
theorem q_S_lookFrom_43 : decode m_S_lookFrom.2.1 43 = .ok (.lconst 1, 1) := by decide +kernel
theorem q_S_lookFrom_44 : decode m_S_lookFrom.2.1 44 = .ok (.aload_n 0, 1) := by decide +kernel
theorem q_S_lookFrom_45 : decode m_S_lookFrom.2.1 45 = .ok (.getfield 29, 3) := by decide +kernel
theorem q_S_lookFrom_48 : decode m_S_lookFrom.2.1 48 = .ok (.getfield 94, 3) := by decide +kernel
theorem q_S_lookFrom_51 : decode m_S_lookFrom.2.1 51 = .ok (.iconst 1, 1) := by decide +kernel
theorem q_S_lookFrom_52 : decode m_S_lookFrom.2.1 52 = .ok (.isub, 1) := by decide +kernel
theorem q_S_lookFrom_53 : decode m_S_lookFrom.2.1 53 = .ok (.iload_n 1, 1) := by decide +kernel
theorem q_S_lookFrom_54 : decode m_S_lookFrom.2.1 54 = .ok (.isub, 1) := by decide +kernel
theorem q_S_lookFrom_55 : decode m_S_lookFrom.2.1 55 = .ok (.lshl, 1) := by decide +kernel
theorem q_S_lookFrom_56 : decode m_S_lookFrom.2.1 56 = .ok (.ladd, 1) := by decide +kernel
theorem q_S_lookFrom_57 : decode m_S_lookFrom.2.1 57 = .ok (.invokevirtual 118, 3) := by decide +kernel
theorem q_S_lookFrom_60 : decode m_S_lookFrom.2.1 60 = .ok (.return_, 1) := by decide +kernel
theorem q_S_lookWith_0 : decode m_S_lookWith.2.1 0 = .ok (.aload_n 0, 1) := by decide +kernel
theorem q_S_lookWith_1 : decode m_S_lookWith.2.1 1 = .ok (.getfield 79, 3) := by decide +kernel
theorem q_S_lookWith_4 : decode m_S_lookWith.2.1 4 = .ok (.aload_n 0, 1) := by decide +kernel
theorem q_S_lookWith_5 : decode m_S_lookWith.2.1 5 = .ok (.getfield 29, 3) := by decide +kernel
theorem q_S_lookWith_8 : decode m_S_lookWith.2.1 8 = .ok (.getfield 121, 3) := by decide +kernel
theorem q_S_lookWith_11 : decode m_S_lookWith.2.1 11 = .ok (.iload_n 1, 1) := by decide +kernel
theorem q_S_lookWith_12 : decode m_S_lookWith.2.1 12 = .ok (.iaload, 1) := by decide +kernel
theorem q_S_lookWith_13 : decode m_S_lookWith.2.1 13 = .ok (.invokestatic 124, 3) := by decide +kernel
theorem q_S_lookWith_16 : decode m_S_lookWith.2.1 16 = .ok (.ifCond .eq 4, 3) := by decide +kernel
theorem q_S_lookWith_19 : decode m_S_lookWith.2.1 19 = .ok (.return_, 1) := by decide +kernel
theorem q_S_lookWith_20 : decode m_S_lookWith.2.1 20 = .ok (.aload_n 0, 1) := by decide +kernel
theorem q_S_lookWith_21 : decode m_S_lookWith.2.1 21 = .ok (.iload_n 1, 1) := by decide +kernel
theorem q_S_lookWith_22 : decode m_S_lookWith.2.1 22 = .ok (.iconst 1, 1) := by decide +kernel
theorem q_S_lookWith_23 : decode m_S_lookWith.2.1 23 = .ok (.invokevirtual 128, 3) := by decide +kernel
theorem q_S_lookWith_26 : decode m_S_lookWith.2.1 26 = .ok (.aload_n 0, 1) := by decide +kernel
theorem q_S_lookWith_27 : decode m_S_lookWith.2.1 27 = .ok (.iload_n 1, 1) := by decide +kernel
theorem q_S_lookWith_28 : decode m_S_lookWith.2.1 28 = .ok (.invokevirtual 132, 3) := by decide +kernel
theorem q_S_lookWith_31 : decode m_S_lookWith.2.1 31 = .ok (.ifCond .ne 11, 3) := by decide +kernel
theorem q_S_lookWith_34 : decode m_S_lookWith.2.1 34 = .ok (.aload_n 0, 1) := by decide +kernel
theorem q_S_lookWith_35 : decode m_S_lookWith.2.1 35 = .ok (.iload_n 1, 1) := by decide +kernel
theorem q_S_lookWith_36 : decode m_S_lookWith.2.1 36 = .ok (.iconst 1, 1) := by decide +kernel
theorem q_S_lookWith_37 : decode m_S_lookWith.2.1 37 = .ok (.iadd, 1) := by decide +kernel
theorem q_S_lookWith_38 : decode m_S_lookWith.2.1 38 = .ok (.lload_n 2, 1) := by decide +kernel
theorem q_S_lookWith_39 : decode m_S_lookWith.2.1 39 = .ok (.invokevirtual 43, 3) := by decide +kernel
theorem q_S_lookWith_42 : decode m_S_lookWith.2.1 42 = .ok (.aload_n 0, 1) := by decide +kernel
theorem q_S_lookWith_43 : decode m_S_lookWith.2.1 43 = .ok (.iload_n 1, 1) := by decide +kernel
theorem q_S_lookWith_44 : decode m_S_lookWith.2.1 44 = .ok (.iconst (-1), 1) := by decide +kernel
theorem q_S_lookWith_45 : decode m_S_lookWith.2.1 45 = .ok (.invokevirtual 128, 3) := by decide +kernel
theorem q_S_lookWith_48 : decode m_S_lookWith.2.1 48 = .ok (.return_, 1) := by decide +kernel
theorem q_S_lookWithout_0 : decode m_S_lookWithout.2.1 0 = .ok (.aload_n 0, 1) := by decide +kernel
theorem q_S_lookWithout_1 : decode m_S_lookWithout.2.1 1 = .ok (.getfield 70, 3) := by decide +kernel
theorem q_S_lookWithout_4 : decode m_S_lookWithout.2.1 4 = .ok (.iload_n 1, 1) := by decide +kernel
theorem q_S_lookWithout_5 : decode m_S_lookWithout.2.1 5 = .ok (.invokestatic 124, 3) := by decide +kernel
theorem q_S_lookWithout_8 : decode m_S_lookWithout.2.1 8 = .ok (.ifCond .ne 19, 3) := by decide +kernel
theorem q_S_lookWithout_11 : decode m_S_lookWithout.2.1 11 = .ok (.aload_n 0, 1) := by decide +kernel
theorem q_S_lookWithout_12 : decode m_S_lookWithout.2.1 12 = .ok (.iload_n 1, 1) := by decide +kernel
theorem q_S_lookWithout_13 : decode m_S_lookWithout.2.1 13 = .ok (.invokevirtual 132, 3) := by decide +kernel
theorem q_S_lookWithout_16 : decode m_S_lookWithout.2.1 16 = .ok (.ifCond .ne 11, 3) := by decide +kernel
theorem q_S_lookWithout_19 : decode m_S_lookWithout.2.1 19 = .ok (.aload_n 0, 1) := by decide +kernel
theorem q_S_lookWithout_20 : decode m_S_lookWithout.2.1 20 = .ok (.iload_n 1, 1) := by decide +kernel
theorem q_S_lookWithout_21 : decode m_S_lookWithout.2.1 21 = .ok (.iconst 1, 1) := by decide +kernel
theorem q_S_lookWithout_22 : decode m_S_lookWithout.2.1 22 = .ok (.iadd, 1) := by decide +kernel
theorem q_S_lookWithout_23 : decode m_S_lookWithout.2.1 23 = .ok (.lload_n 2, 1) := by decide +kernel
theorem q_S_lookWithout_24 : decode m_S_lookWithout.2.1 24 = .ok (.invokevirtual 43, 3) := by decide +kernel
theorem q_S_lookWithout_27 : decode m_S_lookWithout.2.1 27 = .ok (.return_, 1) := by decide +kernel
theorem q_S_pick_0 : decode m_S_pick.2.1 0 = .ok (.aload_n 0, 1) := by decide +kernel
theorem q_S_pick_1 : decode m_S_pick.2.1 1 = .ok (.getfield 29, 3) := by decide +kernel
theorem q_S_pick_4 : decode m_S_pick.2.1 4 = .ok (.getfield 100, 3) := by decide +kernel
theorem q_S_pick_7 : decode m_S_pick.2.1 7 = .ok (.iload_n 1, 1) := by decide +kernel
theorem q_S_pick_8 : decode m_S_pick.2.1 8 = .ok (.iaload, 1) := by decide +kernel
theorem q_S_pick_9 : decode m_S_pick.2.1 9 = .ok (.istore_n 3, 1) := by decide +kernel
theorem q_S_pick_10 : decode m_S_pick.2.1 10 = .ok (.aload_n 0, 1) := by decide +kernel
theorem q_S_pick_11 : decode m_S_pick.2.1 11 = .ok (.getfield 29, 3) := by decide +kernel
theorem q_S_pick_14 : decode m_S_pick.2.1 14 = .ok (.getfield 97, 3) := by decide +kernel
theorem q_S_pick_17 : decode m_S_pick.2.1 17 = .ok (.iload_n 1, 1) := by decide +kernel
theorem q_S_pick_18 : decode m_S_pick.2.1 18 = .ok (.laload, 1) := by decide +kernel
theorem q_S_pick_19 : decode m_S_pick.2.1 19 = .ok (.lstore 4, 2) := by decide +kernel
theorem q_S_pick_21 : decode m_S_pick.2.1 21 = .ok (.aload_n 0, 1) := by decide +kernel
theorem q_S_pick_22 : decode m_S_pick.2.1 22 = .ok (.getfield 23, 3) := by decide +kernel
theorem q_S_pick_25 : decode m_S_pick.2.1 25 = .ok (.iload_n 3, 1) := by decide +kernel
theorem q_S_pick_26 : decode m_S_pick.2.1 26 = .ok (.dup2, 1) := by decide +kernel
theorem q_S_pick_27 : decode m_S_pick.2.1 27 = .ok (.laload, 1) := by decide +kernel
theorem q_S_pick_28 : decode m_S_pick.2.1 28 = .ok (.iload_n 2, 1) := by decide +kernel
theorem q_S_pick_29 : decode m_S_pick.2.1 29 = .ok (.i2l, 1) := by decide +kernel
theorem q_S_pick_30 : decode m_S_pick.2.1 30 = .ok (.aload_n 0, 1) := by decide +kernel
theorem q_S_pick_31 : decode m_S_pick.2.1 31 = .ok (.getfield 29, 3) := by decide +kernel
theorem q_S_pick_34 : decode m_S_pick.2.1 34 = .ok (.getfield 135, 3) := by decide +kernel
theorem q_S_pick_37 : decode m_S_pick.2.1 37 = .ok (.iload_n 1, 1) := by decide +kernel
theorem q_S_pick_38 : decode m_S_pick.2.1 38 = .ok (.laload, 1) := by decide +kernel
theorem q_S_pick_39 : decode m_S_pick.2.1 39 = .ok (.aload_n 0, 1) := by decide +kernel
theorem q_S_pick_40 : decode m_S_pick.2.1 40 = .ok (.getfield 29, 3) := by decide +kernel
theorem q_S_pick_43 : decode m_S_pick.2.1 43 = .ok (.iload_n 1, 1) := by decide +kernel
theorem q_S_pick_44 : decode m_S_pick.2.1 44 = .ok (.aload_n 0, 1) := by decide +kernel
theorem q_S_pick_45 : decode m_S_pick.2.1 45 = .ok (.getfield 76, 3) := by decide +kernel
theorem q_S_pick_48 : decode m_S_pick.2.1 48 = .ok (.invokevirtual 104, 3) := by decide +kernel
theorem q_S_pick_51 : decode m_S_pick.2.1 51 = .ok (.lsub, 1) := by decide +kernel
theorem q_S_pick_52 : decode m_S_pick.2.1 52 = .ok (.lmul, 1) := by decide +kernel
theorem q_S_pick_53 : decode m_S_pick.2.1 53 = .ok (.ladd, 1) := by decide +kernel
theorem q_S_pick_54 : decode m_S_pick.2.1 54 = .ok (.lastore, 1) := by decide +kernel
theorem q_S_pick_55 : decode m_S_pick.2.1 55 = .ok (.aload_n 0, 1) := by decide +kernel
theorem q_S_pick_56 : decode m_S_pick.2.1 56 = .ok (.getfield 26, 3) := by decide +kernel
theorem q_S_pick_59 : decode m_S_pick.2.1 59 = .ok (.aload_n 0, 1) := by decide +kernel
theorem q_S_pick_60 : decode m_S_pick.2.1 60 = .ok (.getfield 29, 3) := by decide +kernel
theorem q_S_pick_63 : decode m_S_pick.2.1 63 = .ok (.iload_n 1, 1) := by decide +kernel
theorem q_S_pick_64 : decode m_S_pick.2.1 64 = .ok (.invokevirtual 138, 3) := by decide +kernel
theorem q_S_pick_67 : decode m_S_pick.2.1 67 = .ok (.dup2, 1) := by decide +kernel
theorem q_S_pick_68 : decode m_S_pick.2.1 68 = .ok (.laload, 1) := by decide +kernel
theorem q_S_pick_69 : decode m_S_pick.2.1 69 = .ok (.iload_n 2, 1) := by decide +kernel
theorem q_S_pick_70 : decode m_S_pick.2.1 70 = .ok (.i2l, 1) := by decide +kernel
theorem q_S_pick_71 : decode m_S_pick.2.1 71 = .ok (.lload 4, 2) := by decide +kernel
theorem q_S_pick_73 : decode m_S_pick.2.1 73 = .ok (.lmul, 1) := by decide +kernel
theorem q_S_pick_74 : decode m_S_pick.2.1 74 = .ok (.ladd, 1) := by decide +kernel
theorem q_S_pick_75 : decode m_S_pick.2.1 75 = .ok (.lastore, 1) := by decide +kernel
theorem q_S_pick_76 : decode m_S_pick.2.1 76 = .ok (.aload_n 0, 1) := by decide +kernel
theorem q_S_pick_77 : decode m_S_pick.2.1 77 = .ok (.dup, 1) := by decide +kernel
theorem q_S_pick_78 : decode m_S_pick.2.1 78 = .ok (.getfield 85, 3) := by decide +kernel
theorem q_S_pick_81 : decode m_S_pick.2.1 81 = .ok (.iload_n 2, 1) := by decide +kernel
theorem q_S_pick_82 : decode m_S_pick.2.1 82 = .ok (.i2l, 1) := by decide +kernel
theorem q_S_pick_83 : decode m_S_pick.2.1 83 = .ok (.lload 4, 2) := by decide +kernel
theorem q_S_pick_85 : decode m_S_pick.2.1 85 = .ok (.lmul, 1) := by decide +kernel
theorem q_S_pick_86 : decode m_S_pick.2.1 86 = .ok (.ladd, 1) := by decide +kernel
theorem q_S_pick_87 : decode m_S_pick.2.1 87 = .ok (.putfield 85, 3) := by decide +kernel
theorem q_S_pick_90 : decode m_S_pick.2.1 90 = .ok (.aload_n 0, 1) := by decide +kernel
theorem q_S_pick_91 : decode m_S_pick.2.1 91 = .ok (.dup, 1) := by decide +kernel
theorem q_S_pick_92 : decode m_S_pick.2.1 92 = .ok (.getfield 82, 3) := by decide +kernel
theorem q_S_pick_95 : decode m_S_pick.2.1 95 = .ok (.iload_n 2, 1) := by decide +kernel
theorem q_S_pick_96 : decode m_S_pick.2.1 96 = .ok (.iload_n 3, 1) := by decide +kernel
theorem q_S_pick_97 : decode m_S_pick.2.1 97 = .ok (.imul, 1) := by decide +kernel
theorem q_S_pick_98 : decode m_S_pick.2.1 98 = .ok (.iadd, 1) := by decide +kernel
theorem q_S_pick_99 : decode m_S_pick.2.1 99 = .ok (.putfield 82, 3) := by decide +kernel
theorem q_S_pick_102 : decode m_S_pick.2.1 102 = .ok (.aload_n 0, 1) := by decide +kernel
theorem q_S_pick_103 : decode m_S_pick.2.1 103 = .ok (.dup, 1) := by decide +kernel
theorem q_S_pick_104 : decode m_S_pick.2.1 104 = .ok (.getfield 76, 3) := by decide +kernel
theorem q_S_pick_107 : decode m_S_pick.2.1 107 = .ok (.iconst 1, 1) := by decide +kernel
theorem q_S_pick_108 : decode m_S_pick.2.1 108 = .ok (.iload_n 1, 1) := by decide +kernel
theorem q_S_pick_109 : decode m_S_pick.2.1 109 = .ok (.ishl, 1) := by decide +kernel
theorem q_S_pick_110 : decode m_S_pick.2.1 110 = .ok (.ixor, 1) := by decide +kernel
theorem q_S_pick_111 : decode m_S_pick.2.1 111 = .ok (.putfield 76, 3) := by decide +kernel
theorem q_S_pick_114 : decode m_S_pick.2.1 114 = .ok (.aload_n 0, 1) := by decide +kernel
theorem q_S_pick_115 : decode m_S_pick.2.1 115 = .ok (.dup, 1) := by decide +kernel
theorem q_S_pick_116 : decode m_S_pick.2.1 116 = .ok (.getfield 79, 3) := by decide +kernel
theorem q_S_pick_119 : decode m_S_pick.2.1 119 = .ok (.iconst 1, 1) := by decide +kernel
theorem q_S_pick_120 : decode m_S_pick.2.1 120 = .ok (.aload_n 0, 1) := by decide +kernel
theorem q_S_pick_121 : decode m_S_pick.2.1 121 = .ok (.getfield 29, 3) := by decide +kernel
theorem q_S_pick_124 : decode m_S_pick.2.1 124 = .ok (.getfield 121, 3) := by decide +kernel
theorem q_S_pick_127 : decode m_S_pick.2.1 127 = .ok (.iload_n 1, 1) := by decide +kernel
theorem q_S_pick_128 : decode m_S_pick.2.1 128 = .ok (.iaload, 1) := by decide +kernel
theorem q_S_pick_129 : decode m_S_pick.2.1 129 = .ok (.ishl, 1) := by decide +kernel
theorem q_S_pick_130 : decode m_S_pick.2.1 130 = .ok (.ixor, 1) := by decide +kernel
theorem q_S_pick_131 : decode m_S_pick.2.1 131 = .ok (.putfield 79, 3) := by decide +kernel
theorem q_S_pick_134 : decode m_S_pick.2.1 134 = .ok (.return_, 1) := by decide +kernel
theorem q_S_isOverspent_0 : decode m_S_isOverspent.2.1 0 = .ok (.aload_n 0, 1) := by decide +kernel
theorem q_S_isOverspent_1 : decode m_S_isOverspent.2.1 1 = .ok (.getfield 29, 3) := by decide +kernel
theorem q_S_isOverspent_4 : decode m_S_isOverspent.2.1 4 = .ok (.getfield 100, 3) := by decide +kernel
theorem q_S_isOverspent_7 : decode m_S_isOverspent.2.1 7 = .ok (.iload_n 1, 1) := by decide +kernel
theorem q_S_isOverspent_8 : decode m_S_isOverspent.2.1 8 = .ok (.iaload, 1) := by decide +kernel
theorem q_S_isOverspent_9 : decode m_S_isOverspent.2.1 9 = .ok (.istore_n 2, 1) := by decide +kernel
theorem q_S_isOverspent_10 : decode m_S_isOverspent.2.1 10 = .ok (.aload_n 0, 1) := by decide +kernel
theorem q_S_isOverspent_11 : decode m_S_isOverspent.2.1 11 = .ok (.getfield 23, 3) := by decide +kernel
theorem q_S_isOverspent_14 : decode m_S_isOverspent.2.1 14 = .ok (.iload_n 2, 1) := by decide +kernel
theorem q_S_isOverspent_15 : decode m_S_isOverspent.2.1 15 = .ok (.laload, 1) := by decide +kernel
theorem q_S_isOverspent_16 : decode m_S_isOverspent.2.1 16 = .ok (.aload_n 0, 1) := by decide +kernel
theorem q_S_isOverspent_17 : decode m_S_isOverspent.2.1 17 = .ok (.getfield 17, 3) := by decide +kernel
theorem q_S_isOverspent_20 : decode m_S_isOverspent.2.1 20 = .ok (.iload_n 1, 1) := by decide +kernel
theorem q_S_isOverspent_21 : decode m_S_isOverspent.2.1 21 = .ok (.iconst 1, 1) := by decide +kernel
theorem q_S_isOverspent_22 : decode m_S_isOverspent.2.1 22 = .ok (.iadd, 1) := by decide +kernel
theorem q_S_isOverspent_23 : decode m_S_isOverspent.2.1 23 = .ok (.aaload, 1) := by decide +kernel
theorem q_S_isOverspent_24 : decode m_S_isOverspent.2.1 24 = .ok (.iload_n 2, 1) := by decide +kernel
theorem q_S_isOverspent_25 : decode m_S_isOverspent.2.1 25 = .ok (.laload, 1) := by decide +kernel
theorem q_S_isOverspent_26 : decode m_S_isOverspent.2.1 26 = .ok (.lsub, 1) := by decide +kernel
theorem q_S_isOverspent_27 : decode m_S_isOverspent.2.1 27 = .ok (.aload_n 0, 1) := by decide +kernel
theorem q_S_isOverspent_28 : decode m_S_isOverspent.2.1 28 = .ok (.getfield 9, 3) := by decide +kernel
theorem q_S_isOverspent_31 : decode m_S_isOverspent.2.1 31 = .ok (.iload_n 2, 1) := by decide +kernel
theorem q_S_isOverspent_32 : decode m_S_isOverspent.2.1 32 = .ok (.laload, 1) := by decide +kernel
theorem q_S_isOverspent_33 : decode m_S_isOverspent.2.1 33 = .ok (.lcmp, 1) := by decide +kernel
theorem q_S_isOverspent_34 : decode m_S_isOverspent.2.1 34 = .ok (.ifCond .le 7, 3) := by decide +kernel
theorem q_S_isOverspent_37 : decode m_S_isOverspent.2.1 37 = .ok (.iconst 1, 1) := by decide +kernel
theorem q_S_isOverspent_38 : decode m_S_isOverspent.2.1 38 = .ok (.goto 4, 3) := by decide +kernel
theorem q_S_isOverspent_41 : decode m_S_isOverspent.2.1 41 = .ok (.iconst 0, 1) := by decide +kernel
theorem q_S_isOverspent_42 : decode m_S_isOverspent.2.1 42 = .ok (.ireturn, 1) := by decide +kernel
theorem q_S_isHopeless_0 : decode m_S_isHopeless.2.1 0 = .ok (.aload_n 0, 1) := by decide +kernel
theorem q_S_isHopeless_1 : decode m_S_isHopeless.2.1 1 = .ok (.getfield 47, 3) := by decide +kernel
theorem q_S_isHopeless_4 : decode m_S_isHopeless.2.1 4 = .ok (.iconst (-1), 1) := by decide +kernel
theorem q_S_isHopeless_5 : decode m_S_isHopeless.2.1 5 = .ok (.if_icmp .ne 5, 3) := by decide +kernel
theorem q_S_isHopeless_8 : decode m_S_isHopeless.2.1 8 = .ok (.iconst 0, 1) := by decide +kernel
theorem q_S_isHopeless_9 : decode m_S_isHopeless.2.1 9 = .ok (.ireturn, 1) := by decide +kernel
theorem q_S_isHopeless_10 : decode m_S_isHopeless.2.1 10 = .ok (.iconst 1, 1) := by decide +kernel
theorem q_S_isHopeless_11 : decode m_S_isHopeless.2.1 11 = .ok (.iload_n 1, 1) := by decide +kernel
theorem q_S_isHopeless_12 : decode m_S_isHopeless.2.1 12 = .ok (.ishl, 1) := by decide +kernel
theorem q_S_isHopeless_13 : decode m_S_isHopeless.2.1 13 = .ok (.iconst 1, 1) := by decide +kernel
theorem q_S_isHopeless_14 : decode m_S_isHopeless.2.1 14 = .ok (.isub, 1) := by decide +kernel
theorem q_S_isHopeless_15 : decode m_S_isHopeless.2.1 15 = .ok (.istore_n 2, 1) := by decide +kernel
theorem q_S_isHopeless_16 : decode m_S_isHopeless.2.1 16 = .ok (.aload_n 0, 1) := by decide +kernel
theorem q_S_isHopeless_17 : decode m_S_isHopeless.2.1 17 = .ok (.iload_n 2, 1) := by decide +kernel
theorem q_S_isHopeless_18 : decode m_S_isHopeless.2.1 18 = .ok (.invokevirtual 142, 3) := by decide +kernel
theorem q_S_isHopeless_21 : decode m_S_isHopeless.2.1 21 = .ok (.istore_n 3, 1) := by decide +kernel
theorem q_S_isHopeless_22 : decode m_S_isHopeless.2.1 22 = .ok (.aload_n 0, 1) := by decide +kernel
theorem q_S_isHopeless_23 : decode m_S_isHopeless.2.1 23 = .ok (.getfield 62, 3) := by decide +kernel
theorem q_S_isHopeless_26 : decode m_S_isHopeless.2.1 26 = .ok (.ifCond .ne 38, 3) := by decide +kernel
theorem q_S_isHopeless_29 : decode m_S_isHopeless.2.1 29 = .ok (.iload_n 3, 1) := by decide +kernel
theorem q_S_isHopeless_30 : decode m_S_isHopeless.2.1 30 = .ok (.aload_n 0, 1) := by decide +kernel
theorem q_S_isHopeless_31 : decode m_S_isHopeless.2.1 31 = .ok (.getfield 145, 3) := by decide +kernel
theorem q_S_isHopeless_34 : decode m_S_isHopeless.2.1 34 = .ok (.if_icmp .gt 30, 3) := by decide +kernel
theorem q_S_isHopeless_37 : decode m_S_isHopeless.2.1 37 = .ok (.iload_n 3, 1) := by decide +kernel
theorem q_S_isHopeless_38 : decode m_S_isHopeless.2.1 38 = .ok (.aload_n 0, 1) := by decide +kernel
theorem q_S_isHopeless_39 : decode m_S_isHopeless.2.1 39 = .ok (.getfield 145, 3) := by decide +kernel
theorem q_S_isHopeless_42 : decode m_S_isHopeless.2.1 42 = .ok (.if_icmp .ne 26, 3) := by decide +kernel
theorem q_S_isHopeless_45 : decode m_S_isHopeless.2.1 45 = .ok (.aload_n 0, 1) := by decide +kernel
theorem q_S_isHopeless_46 : decode m_S_isHopeless.2.1 46 = .ok (.getfield 85, 3) := by decide +kernel
theorem q_S_isHopeless_49 : decode m_S_isHopeless.2.1 49 = .ok (.aload_n 0, 1) := by decide +kernel
theorem q_S_isHopeless_50 : decode m_S_isHopeless.2.1 50 = .ok (.getfield 20, 3) := by decide +kernel
theorem q_S_isHopeless_53 : decode m_S_isHopeless.2.1 53 = .ok (.iload_n 1, 1) := by decide +kernel
theorem q_S_isHopeless_54 : decode m_S_isHopeless.2.1 54 = .ok (.laload, 1) := by decide +kernel
theorem q_S_isHopeless_55 : decode m_S_isHopeless.2.1 55 = .ok (.ladd, 1) := by decide +kernel
theorem q_S_isHopeless_56 : decode m_S_isHopeless.2.1 56 = .ok (.aload_n 0, 1) := by decide +kernel
theorem q_S_isHopeless_57 : decode m_S_isHopeless.2.1 57 = .ok (.getfield 148, 3) := by decide +kernel
theorem q_S_isHopeless_60 : decode m_S_isHopeless.2.1 60 = .ok (.lcmp, 1) := by decide +kernel
theorem q_S_isHopeless_61 : decode m_S_isHopeless.2.1 61 = .ok (.ifCond .ge 7, 3) := by decide +kernel
theorem q_S_isHopeless_64 : decode m_S_isHopeless.2.1 64 = .ok (.iconst 1, 1) := by decide +kernel
theorem q_S_isHopeless_65 : decode m_S_isHopeless.2.1 65 = .ok (.goto 4, 3) := by decide +kernel
theorem q_S_isHopeless_68 : decode m_S_isHopeless.2.1 68 = .ok (.iconst 0, 1) := by decide +kernel
theorem q_S_isHopeless_69 : decode m_S_isHopeless.2.1 69 = .ok (.ireturn, 1) := by decide +kernel
theorem q_S_countOfChanges_0 : decode m_S_countOfChanges.2.1 0 = .ok (.aload_n 0, 1) := by decide +kernel
theorem q_S_countOfChanges_1 : decode m_S_countOfChanges.2.1 1 = .ok (.getfield 76, 3) := by decide +kernel
theorem q_S_countOfChanges_4 : decode m_S_countOfChanges.2.1 4 = .ok (.aload_n 0, 1) := by decide +kernel
theorem q_S_countOfChanges_5 : decode m_S_countOfChanges.2.1 5 = .ok (.getfield 52, 3) := by decide +kernel
theorem q_S_countOfChanges_8 : decode m_S_countOfChanges.2.1 8 = .ok (.ixor, 1) := by decide +kernel
theorem q_S_countOfChanges_9 : decode m_S_countOfChanges.2.1 9 = .ok (.aload_n 0, 1) := by decide +kernel
theorem q_S_countOfChanges_10 : decode m_S_countOfChanges.2.1 10 = .ok (.getfield 59, 3) := by decide +kernel
theorem q_S_countOfChanges_13 : decode m_S_countOfChanges.2.1 13 = .ok (.iand, 1) := by decide +kernel
theorem q_S_countOfChanges_14 : decode m_S_countOfChanges.2.1 14 = .ok (.iload_n 1, 1) := by decide +kernel
theorem q_S_countOfChanges_15 : decode m_S_countOfChanges.2.1 15 = .ok (.iand, 1) := by decide +kernel
theorem q_S_countOfChanges_16 : decode m_S_countOfChanges.2.1 16 = .ok (.invokestatic 151, 3) := by decide +kernel
theorem q_S_countOfChanges_19 : decode m_S_countOfChanges.2.1 19 = .ok (.ireturn, 1) := by decide +kernel
theorem q_S_weigh_0 : decode m_S_weigh.2.1 0 = .ok (.aload_n 0, 1) := by decide +kernel
theorem q_S_weigh_1 : decode m_S_weigh.2.1 1 = .ok (.aload_n 0, 1) := by decide +kernel
theorem q_S_weigh_2 : decode m_S_weigh.2.1 2 = .ok (.getfield 59, 3) := by decide +kernel
theorem q_S_weigh_5 : decode m_S_weigh.2.1 5 = .ok (.invokevirtual 142, 3) := by decide +kernel
theorem q_S_weigh_8 : decode m_S_weigh.2.1 8 = .ok (.istore_n 1, 1) := by decide +kernel
theorem q_S_weigh_9 : decode m_S_weigh.2.1 9 = .ok (.aload_n 0, 1) := by decide +kernel
theorem q_S_weigh_10 : decode m_S_weigh.2.1 10 = .ok (.invokevirtual 156, 3) := by decide +kernel
theorem q_S_weigh_13 : decode m_S_weigh.2.1 13 = .ok (.ifCond .eq 48, 3) := by decide +kernel
theorem q_S_weigh_16 : decode m_S_weigh.2.1 16 = .ok (.aload_n 0, 1) := by decide +kernel
theorem q_S_weigh_17 : decode m_S_weigh.2.1 17 = .ok (.getfield 47, 3) := by decide +kernel
theorem q_S_weigh_20 : decode m_S_weigh.2.1 20 = .ok (.iconst (-1), 1) := by decide +kernel
theorem q_S_weigh_21 : decode m_S_weigh.2.1 21 = .ok (.if_icmp .eq 11, 3) := by decide +kernel
theorem q_S_weigh_24 : decode m_S_weigh.2.1 24 = .ok (.aload_n 0, 1) := by decide +kernel
theorem q_S_weigh_25 : decode m_S_weigh.2.1 25 = .ok (.iload_n 1, 1) := by decide +kernel
theorem q_S_weigh_26 : decode m_S_weigh.2.1 26 = .ok (.invokevirtual 160, 3) := by decide +kernel
theorem q_S_weigh_29 : decode m_S_weigh.2.1 29 = .ok (.ifCond .eq 32, 3) := by decide +kernel
theorem q_S_weigh_32 : decode m_S_weigh.2.1 32 = .ok (.aload_n 0, 1) := by decide +kernel
theorem q_S_weigh_33 : decode m_S_weigh.2.1 33 = .ok (.aload_n 0, 1) := by decide +kernel
theorem q_S_weigh_34 : decode m_S_weigh.2.1 34 = .ok (.getfield 76, 3) := by decide +kernel
theorem q_S_weigh_37 : decode m_S_weigh.2.1 37 = .ok (.putfield 47, 3) := by decide +kernel
theorem q_S_weigh_40 : decode m_S_weigh.2.1 40 = .ok (.aload_n 0, 1) := by decide +kernel
theorem q_S_weigh_41 : decode m_S_weigh.2.1 41 = .ok (.iload_n 1, 1) := by decide +kernel
theorem q_S_weigh_42 : decode m_S_weigh.2.1 42 = .ok (.putfield 145, 3) := by decide +kernel
theorem q_S_weigh_45 : decode m_S_weigh.2.1 45 = .ok (.aload_n 0, 1) := by decide +kernel
theorem q_S_weigh_46 : decode m_S_weigh.2.1 46 = .ok (.aload_n 0, 1) := by decide +kernel
theorem q_S_weigh_47 : decode m_S_weigh.2.1 47 = .ok (.getfield 85, 3) := by decide +kernel
theorem q_S_weigh_50 : decode m_S_weigh.2.1 50 = .ok (.putfield 148, 3) := by decide +kernel
theorem q_S_weigh_53 : decode m_S_weigh.2.1 53 = .ok (.aload_n 0, 1) := by decide +kernel
theorem q_S_weigh_54 : decode m_S_weigh.2.1 54 = .ok (.aload_n 0, 1) := by decide +kernel
theorem q_S_weigh_55 : decode m_S_weigh.2.1 55 = .ok (.getfield 82, 3) := by decide +kernel
theorem q_S_weigh_58 : decode m_S_weigh.2.1 58 = .ok (.putfield 163, 3) := by decide +kernel
theorem q_S_weigh_61 : decode m_S_weigh.2.1 61 = .ok (.return_, 1) := by decide +kernel
theorem q_S_isBetter_0 : decode m_S_isBetter.2.1 0 = .ok (.iload_n 1, 1) := by decide +kernel
theorem q_S_isBetter_1 : decode m_S_isBetter.2.1 1 = .ok (.aload_n 0, 1) := by decide +kernel
theorem q_S_isBetter_2 : decode m_S_isBetter.2.1 2 = .ok (.getfield 145, 3) := by decide +kernel
theorem q_S_isBetter_5 : decode m_S_isBetter.2.1 5 = .ok (.if_icmp .eq 17, 3) := by decide +kernel
theorem q_S_isBetter_8 : decode m_S_isBetter.2.1 8 = .ok (.iload_n 1, 1) := by decide +kernel
theorem q_S_isBetter_9 : decode m_S_isBetter.2.1 9 = .ok (.aload_n 0, 1) := by decide +kernel
theorem q_S_isBetter_10 : decode m_S_isBetter.2.1 10 = .ok (.getfield 145, 3) := by decide +kernel
theorem q_S_isBetter_13 : decode m_S_isBetter.2.1 13 = .ok (.if_icmp .ge 7, 3) := by decide +kernel
theorem q_S_isBetter_16 : decode m_S_isBetter.2.1 16 = .ok (.iconst 1, 1) := by decide +kernel
theorem q_S_isBetter_17 : decode m_S_isBetter.2.1 17 = .ok (.goto 4, 3) := by decide +kernel
theorem q_S_isBetter_20 : decode m_S_isBetter.2.1 20 = .ok (.iconst 0, 1) := by decide +kernel
theorem q_S_isBetter_21 : decode m_S_isBetter.2.1 21 = .ok (.ireturn, 1) := by decide +kernel
theorem q_S_isBetter_22 : decode m_S_isBetter.2.1 22 = .ok (.aload_n 0, 1) := by decide +kernel
theorem q_S_isBetter_23 : decode m_S_isBetter.2.1 23 = .ok (.getfield 85, 3) := by decide +kernel
theorem q_S_isBetter_26 : decode m_S_isBetter.2.1 26 = .ok (.aload_n 0, 1) := by decide +kernel
theorem q_S_isBetter_27 : decode m_S_isBetter.2.1 27 = .ok (.getfield 148, 3) := by decide +kernel
theorem q_S_isBetter_30 : decode m_S_isBetter.2.1 30 = .ok (.lcmp, 1) := by decide +kernel
theorem q_S_isBetter_31 : decode m_S_isBetter.2.1 31 = .ok (.ifCond .eq 23, 3) := by decide +kernel
theorem q_S_isBetter_34 : decode m_S_isBetter.2.1 34 = .ok (.aload_n 0, 1) := by decide +kernel
theorem q_S_isBetter_35 : decode m_S_isBetter.2.1 35 = .ok (.getfield 85, 3) := by decide +kernel
theorem q_S_isBetter_38 : decode m_S_isBetter.2.1 38 = .ok (.aload_n 0, 1) := by decide +kernel
theorem q_S_isBetter_39 : decode m_S_isBetter.2.1 39 = .ok (.getfield 148, 3) := by decide +kernel
theorem q_S_isBetter_42 : decode m_S_isBetter.2.1 42 = .ok (.lcmp, 1) := by decide +kernel
theorem q_S_isBetter_43 : decode m_S_isBetter.2.1 43 = .ok (.ifCond .le 7, 3) := by decide +kernel
theorem q_S_isBetter_46 : decode m_S_isBetter.2.1 46 = .ok (.iconst 1, 1) := by decide +kernel
theorem q_S_isBetter_47 : decode m_S_isBetter.2.1 47 = .ok (.goto 23, 3) := by decide +kernel
theorem q_S_isBetter_50 : decode m_S_isBetter.2.1 50 = .ok (.iconst 0, 1) := by decide +kernel
theorem q_S_isBetter_51 : decode m_S_isBetter.2.1 51 = .ok (.goto 19, 3) := by decide +kernel
theorem q_S_isBetter_54 : decode m_S_isBetter.2.1 54 = .ok (.aload_n 0, 1) := by decide +kernel
theorem q_S_isBetter_55 : decode m_S_isBetter.2.1 55 = .ok (.getfield 82, 3) := by decide +kernel
theorem q_S_isBetter_58 : decode m_S_isBetter.2.1 58 = .ok (.aload_n 0, 1) := by decide +kernel
theorem q_S_isBetter_59 : decode m_S_isBetter.2.1 59 = .ok (.getfield 163, 3) := by decide +kernel
theorem q_S_isBetter_62 : decode m_S_isBetter.2.1 62 = .ok (.if_icmp .ge 7, 3) := by decide +kernel
theorem q_S_isBetter_65 : decode m_S_isBetter.2.1 65 = .ok (.iconst 1, 1) := by decide +kernel
theorem q_S_isBetter_66 : decode m_S_isBetter.2.1 66 = .ok (.goto 4, 3) := by decide +kernel
theorem q_S_isBetter_69 : decode m_S_isBetter.2.1 69 = .ok (.iconst 0, 1) := by decide +kernel
theorem q_S_isBetter_70 : decode m_S_isBetter.2.1 70 = .ok (.ireturn, 1) := by decide +kernel
theorem q_S_isFair_0 : decode m_S_isFair.2.1 0 = .ok (.aload_n 0, 1) := by decide +kernel
theorem q_S_isFair_1 : decode m_S_isFair.2.1 1 = .ok (.getfield 29, 3) := by decide +kernel
theorem q_S_isFair_4 : decode m_S_isFair.2.1 4 = .ok (.getfield 166, 3) := by decide +kernel
theorem q_S_isFair_7 : decode m_S_isFair.2.1 7 = .ok (.ldc2_w 169, 3) := by decide +kernel
theorem q_S_isFair_10 : decode m_S_isFair.2.1 10 = .ok (.lcmp, 1) := by decide +kernel
theorem q_S_isFair_11 : decode m_S_isFair.2.1 11 = .ok (.ifCond .ne 5, 3) := by decide +kernel
theorem q_S_isFair_14 : decode m_S_isFair.2.1 14 = .ok (.iconst 1, 1) := by decide +kernel
theorem q_S_isFair_15 : decode m_S_isFair.2.1 15 = .ok (.ireturn, 1) := by decide +kernel
theorem q_S_isFair_16 : decode m_S_isFair.2.1 16 = .ok (.iconst 0, 1) := by decide +kernel
theorem q_S_isFair_17 : decode m_S_isFair.2.1 17 = .ok (.istore_n 1, 1) := by decide +kernel
theorem q_S_isFair_18 : decode m_S_isFair.2.1 18 = .ok (.iload_n 1, 1) := by decide +kernel
theorem q_S_isFair_19 : decode m_S_isFair.2.1 19 = .ok (.iconst 4, 1) := by decide +kernel
theorem q_S_isFair_20 : decode m_S_isFair.2.1 20 = .ok (.if_icmp .ge 70, 3) := by decide +kernel
theorem q_S_isFair_23 : decode m_S_isFair.2.1 23 = .ok (.iconst 0, 1) := by decide +kernel
theorem q_S_isFair_24 : decode m_S_isFair.2.1 24 = .ok (.istore_n 2, 1) := by decide +kernel
theorem q_S_isFair_25 : decode m_S_isFair.2.1 25 = .ok (.iload_n 2, 1) := by decide +kernel
theorem q_S_isFair_26 : decode m_S_isFair.2.1 26 = .ok (.iconst 4, 1) := by decide +kernel
theorem q_S_isFair_27 : decode m_S_isFair.2.1 27 = .ok (.if_icmp .ge 57, 3) := by decide +kernel
theorem q_S_isFair_30 : decode m_S_isFair.2.1 30 = .ok (.aload_n 0, 1) := by decide +kernel
theorem q_S_isFair_31 : decode m_S_isFair.2.1 31 = .ok (.getfield 74, 3) := by decide +kernel
theorem q_S_isFair_34 : decode m_S_isFair.2.1 34 = .ok (.iload_n 1, 1) := by decide +kernel
theorem q_S_isFair_35 : decode m_S_isFair.2.1 35 = .ok (.invokestatic 124, 3) := by decide +kernel
theorem q_S_isFair_38 : decode m_S_isFair.2.1 38 = .ok (.ifCond .eq 40, 3) := by decide +kernel
theorem q_S_isFair_41 : decode m_S_isFair.2.1 41 = .ok (.aload_n 0, 1) := by decide +kernel
theorem q_S_isFair_42 : decode m_S_isFair.2.1 42 = .ok (.getfield 74, 3) := by decide +kernel
theorem q_S_isFair_45 : decode m_S_isFair.2.1 45 = .ok (.iload_n 2, 1) := by decide +kernel
theorem q_S_isFair_46 : decode m_S_isFair.2.1 46 = .ok (.invokestatic 124, 3) := by decide +kernel
theorem q_S_isFair_49 : decode m_S_isFair.2.1 49 = .ok (.ifCond .eq 29, 3) := by decide +kernel
theorem q_S_isFair_52 : decode m_S_isFair.2.1 52 = .ok (.aload_n 0, 1) := by decide +kernel
theorem q_S_isFair_53 : decode m_S_isFair.2.1 53 = .ok (.getfield 26, 3) := by decide +kernel
theorem q_S_isFair_56 : decode m_S_isFair.2.1 56 = .ok (.iload_n 1, 1) := by decide +kernel
theorem q_S_isFair_57 : decode m_S_isFair.2.1 57 = .ok (.laload, 1) := by decide +kernel
theorem q_S_isFair_58 : decode m_S_isFair.2.1 58 = .ok (.aload_n 0, 1) := by decide +kernel
theorem q_S_isFair_59 : decode m_S_isFair.2.1 59 = .ok (.getfield 26, 3) := by decide +kernel
theorem q_S_isFair_62 : decode m_S_isFair.2.1 62 = .ok (.iload_n 2, 1) := by decide +kernel
theorem q_S_isFair_63 : decode m_S_isFair.2.1 63 = .ok (.laload, 1) := by decide +kernel
theorem q_S_isFair_64 : decode m_S_isFair.2.1 64 = .ok (.lsub, 1) := by decide +kernel
theorem q_S_isFair_65 : decode m_S_isFair.2.1 65 = .ok (.aload_n 0, 1) := by decide +kernel
theorem q_S_isFair_66 : decode m_S_isFair.2.1 66 = .ok (.getfield 29, 3) := by decide +kernel
theorem q_S_isFair_69 : decode m_S_isFair.2.1 69 = .ok (.getfield 166, 3) := by decide +kernel
theorem q_S_isFair_72 : decode m_S_isFair.2.1 72 = .ok (.lcmp, 1) := by decide +kernel
theorem q_S_isFair_73 : decode m_S_isFair.2.1 73 = .ok (.ifCond .le 5, 3) := by decide +kernel
theorem q_S_isFair_76 : decode m_S_isFair.2.1 76 = .ok (.iconst 0, 1) := by decide +kernel
theorem q_S_isFair_77 : decode m_S_isFair.2.1 77 = .ok (.ireturn, 1) := by decide +kernel
theorem q_S_isFair_78 : decode m_S_isFair.2.1 78 = .ok (.iinc 2 1, 3) := by decide +kernel
theorem q_S_isFair_81 : decode m_S_isFair.2.1 81 = .ok (.goto (-56), 3) := by decide +kernel
theorem q_S_isFair_84 : decode m_S_isFair.2.1 84 = .ok (.iinc 1 1, 3) := by decide +kernel
theorem q_S_isFair_87 : decode m_S_isFair.2.1 87 = .ok (.goto (-69), 3) := by decide +kernel
theorem q_S_isFair_90 : decode m_S_isFair.2.1 90 = .ok (.iconst 1, 1) := by decide +kernel
theorem q_S_isFair_91 : decode m_S_isFair.2.1 91 = .ok (.ireturn, 1) := by decide +kernel
